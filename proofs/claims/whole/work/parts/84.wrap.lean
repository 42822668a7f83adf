/-! the law's wrappers -/
abbrev aJ (D : va_G) (n : Nat) (t : Nat → Int64) : va_E := .inl (D.1 102, n, .inr (.inl t))
section RJ
variable {C : Cx} {cc : ByteArray} {own : String} {nL : Nat} {rm : Room} {k n pc : Nat} {lv : List (Nat × Value)} {st : List Value} {ws : va_W}
theorem v_laldJ (g : vG C cc own nL rm) {a N j : Nat} {t : Nat → Int64} (q : Nat) (he : ws[q]? = some (a, aJ C.D N t)) (hj : j < N) (hN : N < 2 ^ 31) (hd : decode cc pc = .ok (.laload, 1)) (K : VJ C k n (pc + 1) lv (.long (t j) :: st) ws) : VJ C k n pc lv (.int (nI j) :: .ref a :: st) ws := v_lald g q he hj hN hd K
theorem v_lastJ (g : vG C cc own nL rm) {a N j : Nat} {t : Nat → Int64} {y : Int64} (q : Nat) (ws' : va_W) (he : ws[q]? = some (a, aJ C.D N t)) (hj : j < N) (hN : N < 2 ^ 31) (hd : decode cc pc = .ok (.lastore, 1)) (hs : ws.set q (a, aJ C.D N (va_up t j y)) = ws') (K : VJ C k n (pc + 1) lv st ws') : VJ C k n pc lv (.long y :: .int (nI j) :: .ref a :: st) ws := by
  subst hs
  refine v_last g q he hj hN hd ?_
  unfold vp_updL
  rw [up_of (fun z : Int64 => z)]
  exact K
end RJ
theorem lk_13 : Cond.classLink RL 13 "java/lang/IllegalArgumentException" ∈ lw_tbl := List.mem_of_getElem? (i := 313) (by decide +kernel)
theorem lk_15 : Cond.classLink RL 15 "java/lang/IllegalStateException" ∈ lw_tbl := List.mem_of_getElem? (i := 314) (by decide +kernel)
theorem lk_60 : Cond.classLink RL 60 "java/util/NoSuchElementException" ∈ lw_tbl := List.mem_of_getElem? (i := 723) (by decide +kernel)
theorem ck_13 : Cond.castable "java/lang/IllegalArgumentException" "java/lang/IllegalArgumentException" ∈ lw_tbl := List.mem_of_getElem? (i := 321) (by decide +kernel)
theorem ck_15 : Cond.castable "java/lang/IllegalStateException" "java/lang/IllegalStateException" ∈ lw_tbl := List.mem_of_getElem? (i := 388) (by decide +kernel)
theorem ck_60 : Cond.castable "java/util/NoSuchElementException" "java/util/NoSuchElementException" ∈ lw_tbl := List.mem_of_getElem? (i := 734) (by decide +kernel)
theorem dL_feed_0 : decode cL_feed 0 = .ok (.aload 4, 2) := by decide +kernel
theorem dL_feed_2 : decode cL_feed 2 = .ok (.iconst 0, 1) := by decide +kernel
theorem dL_feed_3 : decode cL_feed 3 = .ok (.aload_n 0, 1) := by decide +kernel
theorem dL_feed_4 : decode cL_feed 4 = .ok (.iload_n 1, 1) := by decide +kernel
theorem dL_feed_5 : decode cL_feed 5 = .ok (.lload_n 2, 1) := by decide +kernel
theorem dL_feed_6 : decode cL_feed 6 = .ok (.invokevirtual 7, 3) := by decide +kernel
theorem dL_feed_9 : decode cL_feed 9 = .ok (.i2l, 1) := by decide +kernel
theorem dL_feed_10 : decode cL_feed 10 = .ok (.lastore, 1) := by decide +kernel
theorem dL_feed_11 : decode cL_feed 11 = .ok (.goto 11, 3) := by decide +kernel
theorem dL_feed_14 : decode cL_feed 14 = .ok (.astore 5, 2) := by decide +kernel
theorem dL_feed_16 : decode cL_feed 16 = .ok (.iconst 1, 1) := by decide +kernel
theorem dL_feed_17 : decode cL_feed 17 = .ok (.ireturn, 1) := by decide +kernel
theorem dL_feed_18 : decode cL_feed 18 = .ok (.astore 5, 2) := by decide +kernel
theorem dL_feed_20 : decode cL_feed 20 = .ok (.iconst 2, 1) := by decide +kernel
theorem dL_feed_21 : decode cL_feed 21 = .ok (.ireturn, 1) := by decide +kernel
theorem dL_feed_22 : decode cL_feed 22 = .ok (.iconst 0, 1) := by decide +kernel
theorem dL_feed_23 : decode cL_feed 23 = .ok (.ireturn, 1) := by decide +kernel
set_option maxRecDepth 100000 in
set_option maxHeartbeats 4000000 in
theorem w_feed (l : Launch) (hL : noTr l) (D : va_G) (ad : Nat → Nat) (S : Sc) (hI : IB S) (ao : Nat) (tj : Nat → Int64) (p : Int32) (x : BitVec 64) : vMW l D yL_feed cL_feed 6 (some .int) [(0, 11, 14, 13), (0, 11, 18, 15)] { frames := 7, cells := 1, slots := 6, locals := 106 } [.ref (ad 0), .int p, .long (xL x), .ref ao] ((ao, aJ D 1 tj) :: BW D ad S) (fun r ws' => ∃ (S' : Sc) (c : Nat) (a : Int32) (tj' : Nat → Int64), ws' = (ao, aJ D 1 tj') :: BW D ad S' ∧ r = some (.int (nI c)) ∧ RF_feed S.k p x S'.k c a ∧ (c = 0 → tj' 0 = a.toInt64) ∧ IB S') := by
  refine vMW.of (by decide) (Nat.le_of_ble_eq_true rfl) (fun C hCl hCD hT hNA g R => ?_)
  subst hCl; subst hCD
  show VJ C 0 0 0 [(0, .ref (ad 0)), (1, .int p), (2, .long (xL x)), (4, .ref ao)] [] ((ao, aJ C.D 1 tj) :: BW C.D ad S)
  refine v_aload g dL_feed_0 3 rfl ?_
  refine v_iconst g dL_feed_2 (v := nI 0) (by decide +kernel) ?_
  refine v_aload_n g dL_feed_3 0 rfl 0 rfl ?_
  refine v_iload_n g dL_feed_4 1 rfl 1 rfl ?_
  refine v_lload_n g dL_feed_5 2 rfl 2 rfl ?_
  rcases cl_rng p (A := 1) (N := 8) (by decide) (by decide) with h | ⟨n, rfl, h1, h2⟩
  · skip
    refine v_callVC0 (As := [.int p, .long (xL x)]) (rest := [.int (nI 0), .ref ao]) cw_L_7 (hy_X7_feed) g (vMX.frameL (bx_feed1 C.l hL C.D ad S hI p x h) [(ao, aJ C.D 1 tj)]) dL_feed_6 1 rfl rfl rfl (by decide) (by decide) (Nat.le_of_ble_eq_true rfl) _ rfl [] ⟨0, 11, 14, 13⟩ [⟨0, 11, 18, 15⟩] (hT.trans rfl) (fun _ h => absurd h List.not_mem_nil) (by decide) (by decide) lk_13 ck_13 (fun ev => ?_)
    show VJ C 1 6 14 [(0, .ref (ad 0)), (1, .int p), (2, .long (xL x)), (4, .ref ao)] [.ref ev] (((ao, aJ C.D 1 tj) :: BW C.D ad S))
    refine v_astore g [(5, .ref ev), (0, .ref (ad 0)), (1, .int p), (2, .long (xL x)), (4, .ref ao)] dL_feed_14 (by decide) rfl ?_
    refine v_iconst g dL_feed_16 (v := nI 1) (by decide +kernel) ?_
    exact v_iret g R dL_feed_17 (by decide) (by decide) ⟨S, 1, 0, tj, rfl, rfl, Or.inl ⟨rfl, h, rfl⟩, (fun h => absurd h (by decide)), hI⟩
  · skip
    by_cases h3 : S.k.tn + n ≤ 2048
    · skip
      refine v_callV0 (As := [.int (nI n), .long (xL x)]) (rest := [.int (nI 0), .ref ao]) cw_L_7 (hy_X7_feed) g (vM.frameL (b_feed C.l C.D ad S hI n x h1 h2 h3) [(ao, aJ C.D 1 tj)]) dL_feed_6 1 rfl rfl rfl (by decide) (by decide) (Nat.le_of_ble_eq_true rfl) _ rfl (fun r wo h => ?_)
      obtain ⟨wo', ⟨S', rfl, rfl, hR, hI'⟩, rfl⟩ := h
      show VJ C 0 0 9 [(0, .ref (ad 0)), (1, .int (nI n)), (2, .long (xL x)), (4, .ref ao)] [.int (nI (S.k.tn + n)), .int (nI 0), .ref ao] ((ao, aJ C.D 1 tj) :: BW C.D ad S')
      refine v_i2l g dL_feed_9 ?_
      refine v_lastJ g 0 (((ao, aJ C.D 1 (va_up tj 0 ((nI (S.k.tn + n)).toInt64))) :: BW C.D ad S')) rfl (by decide) (by decide) dL_feed_10 rfl ?_
      refine v_goto g 22 dL_feed_11 (by decide) ?_
      refine v_iconst g dL_feed_22 (v := nI 0) (by decide +kernel) ?_
      exact v_iret g R dL_feed_23 (by decide) (by decide) ⟨S', 0, _, _, rfl, rfl, Or.inr ⟨n, rfl, h1, h2, Or.inr ⟨rfl, h3, hR, rfl⟩⟩, (fun _ => va_up_at _ _ _), hI'⟩
    · skip
      refine v_callVC0 (As := [.int (nI n), .long (xL x)]) (rest := [.int (nI 0), .ref ao]) cw_L_7 (hy_X7_feed) g (vMX.frameL (bx_feed2 C.l hL C.D ad S hI n x h1 h2 (by omega)) [(ao, aJ C.D 1 tj)]) dL_feed_6 1 rfl rfl rfl (by decide) (by decide) (Nat.le_of_ble_eq_true rfl) _ rfl [⟨0, 11, 14, 13⟩] ⟨0, 11, 18, 15⟩ [] (hT.trans rfl) (fun y hy => by rw [List.mem_singleton.mp hy]; exact ⟨by decide, _, lk_13, hNA.to (Vm.Alike.refl _) _⟩) (by decide) (by decide) lk_15 ck_15 (fun ev => ?_)
      show VJ C 1 6 18 [(0, .ref (ad 0)), (1, .int (nI n)), (2, .long (xL x)), (4, .ref ao)] [.ref ev] (((ao, aJ C.D 1 tj) :: BW C.D ad S))
      refine v_astore g [(5, .ref ev), (0, .ref (ad 0)), (1, .int (nI n)), (2, .long (xL x)), (4, .ref ao)] dL_feed_18 (by decide) rfl ?_
      refine v_iconst g dL_feed_20 (v := nI 2) (by decide +kernel) ?_
      exact v_iret g R dL_feed_21 (by decide) (by decide) ⟨S, 2, 0, tj, rfl, rfl, Or.inr ⟨n, rfl, h1, h2, Or.inl ⟨rfl, by omega, rfl⟩⟩, (fun h => absurd h (by decide)), hI⟩
theorem dL_keep_0 : decode cL_keep 0 = .ok (.aload_n 3, 1) := by decide +kernel
theorem dL_keep_1 : decode cL_keep 1 = .ok (.iconst 0, 1) := by decide +kernel
theorem dL_keep_2 : decode cL_keep 2 = .ok (.aload_n 0, 1) := by decide +kernel
theorem dL_keep_3 : decode cL_keep 3 = .ok (.iload_n 1, 1) := by decide +kernel
theorem dL_keep_4 : decode cL_keep 4 = .ok (.iload_n 2, 1) := by decide +kernel
theorem dL_keep_5 : decode cL_keep 5 = .ok (.invokevirtual 17, 3) := by decide +kernel
theorem dL_keep_8 : decode cL_keep 8 = .ok (.i2l, 1) := by decide +kernel
theorem dL_keep_9 : decode cL_keep 9 = .ok (.lastore, 1) := by decide +kernel
theorem dL_keep_10 : decode cL_keep 10 = .ok (.goto 11, 3) := by decide +kernel
theorem dL_keep_13 : decode cL_keep 13 = .ok (.astore 4, 2) := by decide +kernel
theorem dL_keep_15 : decode cL_keep 15 = .ok (.iconst 1, 1) := by decide +kernel
theorem dL_keep_16 : decode cL_keep 16 = .ok (.ireturn, 1) := by decide +kernel
theorem dL_keep_17 : decode cL_keep 17 = .ok (.astore 4, 2) := by decide +kernel
theorem dL_keep_19 : decode cL_keep 19 = .ok (.iconst 2, 1) := by decide +kernel
theorem dL_keep_20 : decode cL_keep 20 = .ok (.ireturn, 1) := by decide +kernel
theorem dL_keep_21 : decode cL_keep 21 = .ok (.iconst 0, 1) := by decide +kernel
theorem dL_keep_22 : decode cL_keep 22 = .ok (.ireturn, 1) := by decide +kernel
set_option maxRecDepth 100000 in
set_option maxHeartbeats 4000000 in
theorem w_keep0 (l : Launch) (hL : noTr l) (D : va_G) (ad : Nat → Nat) (S : Sc) (hI : IB S) (ao : Nat) (tj : Nat → Int64) (p : Int32) : vMW l D yL_keep cL_keep 5 (some .int) [(0, 10, 13, 13), (0, 10, 17, 15)] { frames := 8, cells := 1, slots := 6, locals := 125 } [.ref (ad 0), .int p, .int (nI 0), .ref ao] ((ao, aJ D 1 tj) :: BW D ad S) (fun r ws' => ∃ (S' : Sc) (c : Nat) (a : Int32) (tj' : Nat → Int64), ws' = (ao, aJ D 1 tj') :: BW D ad S' ∧ r = some (.int (nI c)) ∧ RF_keep S.k p 0 S'.k c a ∧ (c = 0 → tj' 0 = a.toInt64) ∧ IB S') := by
  refine vMW.of (by decide) (Nat.le_of_ble_eq_true rfl) (fun C hCl hCD hT hNA g R => ?_)
  subst hCl; subst hCD
  show VJ C 0 0 0 [(0, .ref (ad 0)), (1, .int p), (2, .int (nI 0)), (3, .ref ao)] [] ((ao, aJ C.D 1 tj) :: BW C.D ad S)
  refine v_aload_n g dL_keep_0 3 rfl 3 rfl ?_
  refine v_iconst g dL_keep_1 (v := nI 0) (by decide +kernel) ?_
  refine v_aload_n g dL_keep_2 0 rfl 0 rfl ?_
  refine v_iload_n g dL_keep_3 1 rfl 1 rfl ?_
  refine v_iload_n g dL_keep_4 2 rfl 2 rfl ?_
  rcases cl_bad p (N := 8) (by decide) with h | ⟨i, rfl, h1⟩
  · skip
    refine v_callVC0 (As := [.int p, .int (nI 0)]) (rest := [.int (nI 0), .ref ao]) cw_L_17 (hy_X7_keep) g (vMX.frameL (bx_keep C.l hL C.D ad S hI p (nI 0) h) [(ao, aJ C.D 1 tj)]) dL_keep_5 1 rfl rfl rfl (by decide) (by decide) (Nat.le_of_ble_eq_true rfl) _ rfl [] ⟨0, 10, 13, 13⟩ [⟨0, 10, 17, 15⟩] (hT.trans rfl) (fun _ h => absurd h List.not_mem_nil) (by decide) (by decide) lk_13 ck_13 (fun ev => ?_)
    show VJ C 1 6 13 [(0, .ref (ad 0)), (1, .int p), (2, .int (nI 0)), (3, .ref ao)] [.ref ev] (((ao, aJ C.D 1 tj) :: BW C.D ad S))
    refine v_astore g [(4, .ref ev), (0, .ref (ad 0)), (1, .int p), (2, .int (nI 0)), (3, .ref ao)] dL_keep_13 (by decide) rfl ?_
    refine v_iconst g dL_keep_15 (v := nI 1) (by decide +kernel) ?_
    exact v_iret g R dL_keep_16 (by decide) (by decide) ⟨S, 1, 0, tj, rfl, rfl, Or.inl ⟨rfl, h, rfl⟩, (fun h => absurd h (by decide)), hI⟩
  · skip
    by_cases h3 : S.k.tn ≤ 128
    · skip
      refine v_callV0 (As := [.int (nI i), .int (nI 0)]) (rest := [.int (nI 0), .ref ao]) cw_L_17 (hy_X7_keep) g (vM.frameL (b_keep0 C.l C.D ad S hI i h1 h3) [(ao, aJ C.D 1 tj)]) dL_keep_5 1 rfl rfl rfl (by decide) (by decide) (Nat.le_of_ble_eq_true rfl) _ rfl (fun r wo h => ?_)
      obtain ⟨wo', ⟨S', rfl, rfl, hR, hI'⟩, rfl⟩ := h
      show VJ C 0 0 8 [(0, .ref (ad 0)), (1, .int (nI i)), (2, .int (nI 0)), (3, .ref ao)] [.int (nI S.k.tn), .int (nI 0), .ref ao] ((ao, aJ C.D 1 tj) :: BW C.D ad S')
      refine v_i2l g dL_keep_8 ?_
      refine v_lastJ g 0 (((ao, aJ C.D 1 (va_up tj 0 ((nI S.k.tn).toInt64))) :: BW C.D ad S')) rfl (by decide) (by decide) dL_keep_9 rfl ?_
      refine v_goto g 21 dL_keep_10 (by decide) ?_
      refine v_iconst g dL_keep_21 (v := nI 0) (by decide +kernel) ?_
      exact v_iret g R dL_keep_22 (by decide) (by decide) ⟨S', 0, _, _, rfl, rfl, Or.inr ⟨i, rfl, h1, Or.inr ⟨rfl, h3, hR, rfl⟩⟩, (fun _ => va_up_at _ _ _), hI'⟩
    · skip
      refine v_callVC0 (As := [.int (nI i), .int (nI 0)]) (rest := [.int (nI 0), .ref ao]) cw_L_17 (hy_X7_keep) g (vMX.frameL (bx_keep0 C.l hL C.D ad S hI i h1 (by omega)) [(ao, aJ C.D 1 tj)]) dL_keep_5 1 rfl rfl rfl (by decide) (by decide) (Nat.le_of_ble_eq_true rfl) _ rfl [⟨0, 10, 13, 13⟩] ⟨0, 10, 17, 15⟩ [] (hT.trans rfl) (fun y hy => by rw [List.mem_singleton.mp hy]; exact ⟨by decide, _, lk_13, hNA.to (Vm.Alike.refl _) _⟩) (by decide) (by decide) lk_15 ck_15 (fun ev => ?_)
      show VJ C 1 6 17 [(0, .ref (ad 0)), (1, .int (nI i)), (2, .int (nI 0)), (3, .ref ao)] [.ref ev] (((ao, aJ C.D 1 tj) :: BW C.D ad S))
      refine v_astore g [(4, .ref ev), (0, .ref (ad 0)), (1, .int (nI i)), (2, .int (nI 0)), (3, .ref ao)] dL_keep_17 (by decide) rfl ?_
      refine v_iconst g dL_keep_19 (v := nI 2) (by decide +kernel) ?_
      exact v_iret g R dL_keep_20 (by decide) (by decide) ⟨S, 2, 0, tj, rfl, rfl, Or.inr ⟨i, rfl, h1, Or.inl ⟨rfl, Nat.not_le.mp h3, rfl⟩⟩, (fun h => absurd h (by decide)), hI⟩
set_option maxRecDepth 100000 in
set_option maxHeartbeats 4000000 in
theorem w_keep1 (l : Launch) (hL : noTr l) (D : va_G) (ad : Nat → Nat) (S : Sc) (hI : IB S) (ao : Nat) (tj : Nat → Int64) (p : Int32) : vMW l D yL_keep cL_keep 5 (some .int) [(0, 10, 13, 13), (0, 10, 17, 15)] { frames := 8, cells := 1, slots := 6, locals := 125 } [.ref (ad 0), .int p, .int (nI 1), .ref ao] ((ao, aJ D 1 tj) :: BW D ad S) (fun r ws' => ∃ (S' : Sc) (c : Nat) (a : Int32) (tj' : Nat → Int64), ws' = (ao, aJ D 1 tj') :: BW D ad S' ∧ r = some (.int (nI c)) ∧ RF_keep S.k p 1 S'.k c a ∧ (c = 0 → tj' 0 = a.toInt64) ∧ IB S') := by
  refine vMW.of (by decide) (Nat.le_of_ble_eq_true rfl) (fun C hCl hCD hT hNA g R => ?_)
  subst hCl; subst hCD
  show VJ C 0 0 0 [(0, .ref (ad 0)), (1, .int p), (2, .int (nI 1)), (3, .ref ao)] [] ((ao, aJ C.D 1 tj) :: BW C.D ad S)
  refine v_aload_n g dL_keep_0 3 rfl 3 rfl ?_
  refine v_iconst g dL_keep_1 (v := nI 0) (by decide +kernel) ?_
  refine v_aload_n g dL_keep_2 0 rfl 0 rfl ?_
  refine v_iload_n g dL_keep_3 1 rfl 1 rfl ?_
  refine v_iload_n g dL_keep_4 2 rfl 2 rfl ?_
  rcases cl_bad p (N := 8) (by decide) with h | ⟨i, rfl, h1⟩
  · skip
    refine v_callVC0 (As := [.int p, .int (nI 1)]) (rest := [.int (nI 0), .ref ao]) cw_L_17 (hy_X7_keep) g (vMX.frameL (bx_keep C.l hL C.D ad S hI p (nI 1) h) [(ao, aJ C.D 1 tj)]) dL_keep_5 1 rfl rfl rfl (by decide) (by decide) (Nat.le_of_ble_eq_true rfl) _ rfl [] ⟨0, 10, 13, 13⟩ [⟨0, 10, 17, 15⟩] (hT.trans rfl) (fun _ h => absurd h List.not_mem_nil) (by decide) (by decide) lk_13 ck_13 (fun ev => ?_)
    show VJ C 1 6 13 [(0, .ref (ad 0)), (1, .int p), (2, .int (nI 1)), (3, .ref ao)] [.ref ev] (((ao, aJ C.D 1 tj) :: BW C.D ad S))
    refine v_astore g [(4, .ref ev), (0, .ref (ad 0)), (1, .int p), (2, .int (nI 1)), (3, .ref ao)] dL_keep_13 (by decide) rfl ?_
    refine v_iconst g dL_keep_15 (v := nI 1) (by decide +kernel) ?_
    exact v_iret g R dL_keep_16 (by decide) (by decide) ⟨S, 1, 0, tj, rfl, rfl, Or.inl ⟨rfl, h, rfl⟩, (fun h => absurd h (by decide)), hI⟩
  · skip
    by_cases h3 : S.k.on ≤ 128
    · skip
      refine v_callV0 (As := [.int (nI i), .int (nI 1)]) (rest := [.int (nI 0), .ref ao]) cw_L_17 (hy_X7_keep) g (vM.frameL (b_keep1 C.l C.D ad S hI i h1 h3) [(ao, aJ C.D 1 tj)]) dL_keep_5 1 rfl rfl rfl (by decide) (by decide) (Nat.le_of_ble_eq_true rfl) _ rfl (fun r wo h => ?_)
      obtain ⟨wo', ⟨S', rfl, rfl, hR, hI'⟩, rfl⟩ := h
      show VJ C 0 0 8 [(0, .ref (ad 0)), (1, .int (nI i)), (2, .int (nI 1)), (3, .ref ao)] [.int (nI S.k.on), .int (nI 0), .ref ao] ((ao, aJ C.D 1 tj) :: BW C.D ad S')
      refine v_i2l g dL_keep_8 ?_
      refine v_lastJ g 0 (((ao, aJ C.D 1 (va_up tj 0 ((nI S.k.on).toInt64))) :: BW C.D ad S')) rfl (by decide) (by decide) dL_keep_9 rfl ?_
      refine v_goto g 21 dL_keep_10 (by decide) ?_
      refine v_iconst g dL_keep_21 (v := nI 0) (by decide +kernel) ?_
      exact v_iret g R dL_keep_22 (by decide) (by decide) ⟨S', 0, _, _, rfl, rfl, Or.inr ⟨i, rfl, h1, Or.inr ⟨rfl, h3, hR, rfl⟩⟩, (fun _ => va_up_at _ _ _), hI'⟩
    · skip
      refine v_callVC0 (As := [.int (nI i), .int (nI 1)]) (rest := [.int (nI 0), .ref ao]) cw_L_17 (hy_X7_keep) g (vMX.frameL (bx_keep1 C.l hL C.D ad S hI i h1 (by omega)) [(ao, aJ C.D 1 tj)]) dL_keep_5 1 rfl rfl rfl (by decide) (by decide) (Nat.le_of_ble_eq_true rfl) _ rfl [⟨0, 10, 13, 13⟩] ⟨0, 10, 17, 15⟩ [] (hT.trans rfl) (fun y hy => by rw [List.mem_singleton.mp hy]; exact ⟨by decide, _, lk_13, hNA.to (Vm.Alike.refl _) _⟩) (by decide) (by decide) lk_15 ck_15 (fun ev => ?_)
      show VJ C 1 6 17 [(0, .ref (ad 0)), (1, .int (nI i)), (2, .int (nI 1)), (3, .ref ao)] [.ref ev] (((ao, aJ C.D 1 tj) :: BW C.D ad S))
      refine v_astore g [(4, .ref ev), (0, .ref (ad 0)), (1, .int (nI i)), (2, .int (nI 1)), (3, .ref ao)] dL_keep_17 (by decide) rfl ?_
      refine v_iconst g dL_keep_19 (v := nI 2) (by decide +kernel) ?_
      exact v_iret g R dL_keep_20 (by decide) (by decide) ⟨S, 2, 0, tj, rfl, rfl, Or.inr ⟨i, rfl, h1, Or.inl ⟨rfl, Nat.not_le.mp h3, rfl⟩⟩, (fun h => absurd h (by decide)), hI⟩
theorem dL_mac_0 : decode cL_mac 0 = .ok (.aload_n 0, 1) := by decide +kernel
theorem dL_mac_1 : decode cL_mac 1 = .ok (.iload_n 1, 1) := by decide +kernel
theorem dL_mac_2 : decode cL_mac 2 = .ok (.invokevirtual 21, 3) := by decide +kernel
theorem dL_mac_5 : decode cL_mac 5 = .ok (.goto 6, 3) := by decide +kernel
theorem dL_mac_8 : decode cL_mac 8 = .ok (.astore_n 2, 1) := by decide +kernel
theorem dL_mac_9 : decode cL_mac 9 = .ok (.iconst 1, 1) := by decide +kernel
theorem dL_mac_10 : decode cL_mac 10 = .ok (.ireturn, 1) := by decide +kernel
theorem dL_mac_11 : decode cL_mac 11 = .ok (.iconst 0, 1) := by decide +kernel
theorem dL_mac_12 : decode cL_mac 12 = .ok (.ireturn, 1) := by decide +kernel
set_option maxRecDepth 100000 in
set_option maxHeartbeats 4000000 in
theorem w_mac (l : Launch) (hL : noTr l) (D : va_G) (ad : Nat → Nat) (S : Sc) (hI : IB S) (p : Int32) : vMW l D yL_mac cL_mac 3 (some .int) [(0, 5, 8, 13)] { frames := 8, cells := 1, slots := 6, locals := 143 } [.ref (ad 0), .int p] (BW D ad S) (fun r ws' => ∃ (S' : Sc) (c : Nat), ws' = BW D ad S' ∧ r = some (.int (nI c)) ∧ RF_mac S.k p S'.k c ∧ IB S') := by
  refine vMW.of (by decide) (Nat.le_of_ble_eq_true rfl) (fun C hCl hCD hT hNA g R => ?_)
  subst hCl; subst hCD
  show VJ C 0 0 0 [(0, .ref (ad 0)), (1, .int p)] [] (BW C.D ad S)
  refine v_aload_n g dL_mac_0 0 rfl 0 rfl ?_
  refine v_iload_n g dL_mac_1 1 rfl 1 rfl ?_
  rcases cl_bad p (N := 8) (by decide) with h | ⟨i, rfl, h1⟩
  · skip
    refine v_callVC0 (As := [.int p]) (rest := []) cw_L_21 (hy_X7_mac) g (bx_mac C.l hL C.D ad S hI p h) dL_mac_2 0 rfl rfl rfl (by decide) (by decide) (Nat.le_of_ble_eq_true rfl) _ rfl [] ⟨0, 5, 8, 13⟩ [] (hT.trans rfl) (fun _ h => absurd h List.not_mem_nil) (by decide) (by decide) lk_13 ck_13 (fun ev => ?_)
    show VJ C 1 6 8 [(0, .ref (ad 0)), (1, .int p)] [.ref ev] ((BW C.D ad S))
    refine v_astore_n g [(2, .ref ev), (0, .ref (ad 0)), (1, .int p)] dL_mac_8 2 rfl (by decide) rfl ?_
    refine v_iconst g dL_mac_9 (v := nI 1) (by decide +kernel) ?_
    exact v_iret g R dL_mac_10 (by decide) (by decide) ⟨S, 1, rfl, rfl, Or.inl ⟨rfl, h, rfl⟩, hI⟩
  · skip
    refine v_callV0 (As := [.int (nI i)]) (rest := []) cw_L_21 (hy_X7_mac) g (b_mac C.l C.D ad S hI i h1) dL_mac_2 0 rfl rfl rfl (by decide) (by decide) (Nat.le_of_ble_eq_true rfl) _ rfl (fun r wo h => ?_)
    obtain ⟨S', rfl, rfl, hR, hI'⟩ := h
    show VJ C 0 0 5 [(0, .ref (ad 0)), (1, .int (nI i))] [] (BW C.D ad S')
    refine v_goto g 11 dL_mac_5 (by decide) ?_
    refine v_iconst g dL_mac_11 (v := nI 0) (by decide +kernel) ?_
    exact v_iret g R dL_mac_12 (by decide) (by decide) ⟨S', 0, rfl, rfl, Or.inr ⟨i, rfl, h1, rfl, hR⟩, hI'⟩
theorem dL_stretch_0 : decode cL_stretch 0 = .ok (.aload_n 0, 1) := by decide +kernel
theorem dL_stretch_1 : decode cL_stretch 1 = .ok (.iload_n 1, 1) := by decide +kernel
theorem dL_stretch_2 : decode cL_stretch 2 = .ok (.iload_n 2, 1) := by decide +kernel
theorem dL_stretch_3 : decode cL_stretch 3 = .ok (.invokevirtual 25, 3) := by decide +kernel
theorem dL_stretch_6 : decode cL_stretch 6 = .ok (.goto 6, 3) := by decide +kernel
theorem dL_stretch_9 : decode cL_stretch 9 = .ok (.astore_n 3, 1) := by decide +kernel
theorem dL_stretch_10 : decode cL_stretch 10 = .ok (.iconst 1, 1) := by decide +kernel
theorem dL_stretch_11 : decode cL_stretch 11 = .ok (.ireturn, 1) := by decide +kernel
theorem dL_stretch_12 : decode cL_stretch 12 = .ok (.iconst 0, 1) := by decide +kernel
theorem dL_stretch_13 : decode cL_stretch 13 = .ok (.ireturn, 1) := by decide +kernel
set_option maxRecDepth 100000 in
set_option maxHeartbeats 4000000 in
theorem w_stretch (l : Launch) (hL : noTr l) (D : va_G) (ad : Nat → Nat) (S : Sc) (hI : IB S) (p q : Int32) : vMW l D yL_stretch cL_stretch 4 (some .int) [(0, 6, 9, 13)] { frames := 8, cells := 1, slots := 6, locals := 148 } [.ref (ad 0), .int p, .int q] (BW D ad S) (fun r ws' => ∃ (S' : Sc) (c : Nat), ws' = BW D ad S' ∧ r = some (.int (nI c)) ∧ RF_str S.k p q S'.k c ∧ IB S') := by
  refine vMW.of (by decide) (Nat.le_of_ble_eq_true rfl) (fun C hCl hCD hT hNA g R => ?_)
  subst hCl; subst hCD
  show VJ C 0 0 0 [(0, .ref (ad 0)), (1, .int p), (2, .int q)] [] (BW C.D ad S)
  refine v_aload_n g dL_stretch_0 0 rfl 0 rfl ?_
  refine v_iload_n g dL_stretch_1 1 rfl 1 rfl ?_
  refine v_iload_n g dL_stretch_2 2 rfl 2 rfl ?_
  rcases cl_bad p (N := 8) (by decide) with h | ⟨i, rfl, h1⟩
  · skip
    refine v_callVC0 (As := [.int p, .int q]) (rest := []) cw_L_25 (hy_X7_stretch) g (bx_str1 C.l hL C.D ad S hI p q h) dL_stretch_3 0 rfl rfl rfl (by decide) (by decide) (Nat.le_of_ble_eq_true rfl) _ rfl [] ⟨0, 6, 9, 13⟩ [] (hT.trans rfl) (fun _ h => absurd h List.not_mem_nil) (by decide) (by decide) lk_13 ck_13 (fun ev => ?_)
    show VJ C 1 6 9 [(0, .ref (ad 0)), (1, .int p), (2, .int q)] [.ref ev] ((BW C.D ad S))
    refine v_astore_n g [(3, .ref ev), (0, .ref (ad 0)), (1, .int p), (2, .int q)] dL_stretch_9 3 rfl (by decide) rfl ?_
    refine v_iconst g dL_stretch_10 (v := nI 1) (by decide +kernel) ?_
    exact v_iret g R dL_stretch_11 (by decide) (by decide) ⟨S, 1, rfl, rfl, Or.inl ⟨rfl, h, rfl⟩, hI⟩
  · skip
    rcases cl_rng q (A := 1) (N := 1024) (by decide) (by decide) with h | ⟨n, rfl, h2, h3⟩
    · skip
      refine v_callVC0 (As := [.int (nI i), .int q]) (rest := []) cw_L_25 (hy_X7_stretch) g (bx_str2 C.l hL C.D ad S hI i q h1 h) dL_stretch_3 0 rfl rfl rfl (by decide) (by decide) (Nat.le_of_ble_eq_true rfl) _ rfl [] ⟨0, 6, 9, 13⟩ [] (hT.trans rfl) (fun _ h => absurd h List.not_mem_nil) (by decide) (by decide) lk_13 ck_13 (fun ev => ?_)
      show VJ C 1 6 9 [(0, .ref (ad 0)), (1, .int (nI i)), (2, .int q)] [.ref ev] ((BW C.D ad S))
      refine v_astore_n g [(3, .ref ev), (0, .ref (ad 0)), (1, .int (nI i)), (2, .int q)] dL_stretch_9 3 rfl (by decide) rfl ?_
      refine v_iconst g dL_stretch_10 (v := nI 1) (by decide +kernel) ?_
      exact v_iret g R dL_stretch_11 (by decide) (by decide) ⟨S, 1, rfl, rfl, Or.inr ⟨i, rfl, h1, Or.inl ⟨rfl, h, rfl⟩⟩, hI⟩
    · skip
      refine v_callV0 (As := [.int (nI i), .int (nI n)]) (rest := []) cw_L_25 (hy_X7_stretch) g (b_stretch C.l C.D ad S hI i n h1 h2 h3) dL_stretch_3 0 rfl rfl rfl (by decide) (by decide) (Nat.le_of_ble_eq_true rfl) _ rfl (fun r wo h => ?_)
      obtain ⟨S', rfl, rfl, hR, hI'⟩ := h
      show VJ C 0 0 6 [(0, .ref (ad 0)), (1, .int (nI i)), (2, .int (nI n))] [] (BW C.D ad S')
      refine v_goto g 12 dL_stretch_6 (by decide) ?_
      refine v_iconst g dL_stretch_12 (v := nI 0) (by decide +kernel) ?_
      exact v_iret g R dL_stretch_13 (by decide) (by decide) ⟨S', 0, rfl, rfl, Or.inr ⟨i, rfl, h1, Or.inr ⟨n, rfl, h2, h3, rfl, hR⟩⟩, hI'⟩
theorem dL_label_0 : decode cL_label 0 = .ok (.aload_n 0, 1) := by decide +kernel
theorem dL_label_1 : decode cL_label 1 = .ok (.iload_n 1, 1) := by decide +kernel
theorem dL_label_2 : decode cL_label 2 = .ok (.iload_n 2, 1) := by decide +kernel
theorem dL_label_3 : decode cL_label 3 = .ok (.iload_n 3, 1) := by decide +kernel
theorem dL_label_4 : decode cL_label 4 = .ok (.invokevirtual 29, 3) := by decide +kernel
theorem dL_label_7 : decode cL_label 7 = .ok (.goto 11, 3) := by decide +kernel
theorem dL_label_10 : decode cL_label 10 = .ok (.astore 4, 2) := by decide +kernel
theorem dL_label_12 : decode cL_label 12 = .ok (.iconst 1, 1) := by decide +kernel
theorem dL_label_13 : decode cL_label 13 = .ok (.ireturn, 1) := by decide +kernel
theorem dL_label_14 : decode cL_label 14 = .ok (.astore 4, 2) := by decide +kernel
theorem dL_label_16 : decode cL_label 16 = .ok (.iconst 2, 1) := by decide +kernel
theorem dL_label_17 : decode cL_label 17 = .ok (.ireturn, 1) := by decide +kernel
theorem dL_label_18 : decode cL_label 18 = .ok (.iconst 0, 1) := by decide +kernel
theorem dL_label_19 : decode cL_label 19 = .ok (.ireturn, 1) := by decide +kernel
set_option maxRecDepth 100000 in
set_option maxHeartbeats 4000000 in
theorem w_label (l : Launch) (hL : noTr l) (D : va_G) (ad : Nat → Nat) (S : Sc) (hI : IB S) (p w q : Int32) : vMW l D yL_label cL_label 5 (some .int) [(0, 7, 10, 13), (0, 7, 14, 15)] { frames := 8, cells := 1, slots := 6, locals := 176 } [.ref (ad 0), .int p, .int w, .int q] (BW D ad S) (fun r ws' => ∃ (S' : Sc) (c : Nat), ws' = BW D ad S' ∧ r = some (.int (nI c)) ∧ RF_lab S.k p w q S'.k c ∧ IB S') := by
  refine vMW.of (by decide) (Nat.le_of_ble_eq_true rfl) (fun C hCl hCD hT hNA g R => ?_)
  subst hCl; subst hCD
  show VJ C 0 0 0 [(0, .ref (ad 0)), (1, .int p), (2, .int w), (3, .int q)] [] (BW C.D ad S)
  refine v_aload_n g dL_label_0 0 rfl 0 rfl ?_
  refine v_iload_n g dL_label_1 1 rfl 1 rfl ?_
  refine v_iload_n g dL_label_2 2 rfl 2 rfl ?_
  refine v_iload_n g dL_label_3 3 rfl 3 rfl ?_
  rcases cl_bad p (N := 8) (by decide) with h | ⟨i, rfl, h1⟩
  · skip
    refine v_callVC0 (As := [.int p, .int w, .int q]) (rest := []) cw_L_29 (hy_X7_label) g (bx_lab1 C.l hL C.D ad S hI p w q h) dL_label_4 0 rfl rfl rfl (by decide) (by decide) (Nat.le_of_ble_eq_true rfl) _ rfl [] ⟨0, 7, 10, 13⟩ [⟨0, 7, 14, 15⟩] (hT.trans rfl) (fun _ h => absurd h List.not_mem_nil) (by decide) (by decide) lk_13 ck_13 (fun ev => ?_)
    show VJ C 1 6 10 [(0, .ref (ad 0)), (1, .int p), (2, .int w), (3, .int q)] [.ref ev] ((BW C.D ad S))
    refine v_astore g [(4, .ref ev), (0, .ref (ad 0)), (1, .int p), (2, .int w), (3, .int q)] dL_label_10 (by decide) rfl ?_
    refine v_iconst g dL_label_12 (v := nI 1) (by decide +kernel) ?_
    exact v_iret g R dL_label_13 (by decide) (by decide) ⟨S, 1, rfl, rfl, Or.inl ⟨rfl, h, rfl⟩, hI⟩
  · skip
    rcases cl_bad w (N := 11) (by decide) with h | ⟨v, rfl, h4⟩
    · skip
      refine v_callVC0 (As := [.int (nI i), .int w, .int q]) (rest := []) cw_L_29 (hy_X7_label) g (bx_lab2 C.l hL C.D ad S hI i w q h1 h) dL_label_4 0 rfl rfl rfl (by decide) (by decide) (Nat.le_of_ble_eq_true rfl) _ rfl [] ⟨0, 7, 10, 13⟩ [⟨0, 7, 14, 15⟩] (hT.trans rfl) (fun _ h => absurd h List.not_mem_nil) (by decide) (by decide) lk_13 ck_13 (fun ev => ?_)
      show VJ C 1 6 10 [(0, .ref (ad 0)), (1, .int (nI i)), (2, .int w), (3, .int q)] [.ref ev] ((BW C.D ad S))
      refine v_astore g [(4, .ref ev), (0, .ref (ad 0)), (1, .int (nI i)), (2, .int w), (3, .int q)] dL_label_10 (by decide) rfl ?_
      refine v_iconst g dL_label_12 (v := nI 1) (by decide +kernel) ?_
      exact v_iret g R dL_label_13 (by decide) (by decide) ⟨S, 1, rfl, rfl, Or.inr ⟨i, rfl, h1, Or.inl ⟨rfl, h, rfl⟩⟩, hI⟩
    · skip
      rcases cl_rng q (A := 1) (N := 1024) (by decide) (by decide) with h | ⟨n, rfl, h2, h3⟩
      · skip
        refine v_callVC0 (As := [.int (nI i), .int (nI v), .int q]) (rest := []) cw_L_29 (hy_X7_label) g (bx_lab3 C.l hL C.D ad S hI i v q h1 h4 h) dL_label_4 0 rfl rfl rfl (by decide) (by decide) (Nat.le_of_ble_eq_true rfl) _ rfl [] ⟨0, 7, 10, 13⟩ [⟨0, 7, 14, 15⟩] (hT.trans rfl) (fun _ h => absurd h List.not_mem_nil) (by decide) (by decide) lk_13 ck_13 (fun ev => ?_)
        show VJ C 1 6 10 [(0, .ref (ad 0)), (1, .int (nI i)), (2, .int (nI v)), (3, .int q)] [.ref ev] ((BW C.D ad S))
        refine v_astore g [(4, .ref ev), (0, .ref (ad 0)), (1, .int (nI i)), (2, .int (nI v)), (3, .int q)] dL_label_10 (by decide) rfl ?_
        refine v_iconst g dL_label_12 (v := nI 1) (by decide +kernel) ?_
        exact v_iret g R dL_label_13 (by decide) (by decide) ⟨S, 1, rfl, rfl, Or.inr ⟨i, rfl, h1, Or.inr ⟨v, rfl, h4, Or.inl ⟨rfl, h, rfl⟩⟩⟩, hI⟩
      · skip
        by_cases h5 : S.k.tn ≤ 255
        · skip
          refine v_callV0 (As := [.int (nI i), .int (nI v), .int (nI n)]) (rest := []) cw_L_29 (hy_X7_label) g (b_label C.l C.D ad S hI i v n h1 h4 h2 h3 h5) dL_label_4 0 rfl rfl rfl (by decide) (by decide) (Nat.le_of_ble_eq_true rfl) _ rfl (fun r wo h => ?_)
          obtain ⟨S', rfl, rfl, hR, hI'⟩ := h
          show VJ C 0 0 7 [(0, .ref (ad 0)), (1, .int (nI i)), (2, .int (nI v)), (3, .int (nI n))] [] (BW C.D ad S')
          refine v_goto g 18 dL_label_7 (by decide) ?_
          refine v_iconst g dL_label_18 (v := nI 0) (by decide +kernel) ?_
          exact v_iret g R dL_label_19 (by decide) (by decide) ⟨S', 0, rfl, rfl, Or.inr ⟨i, rfl, h1, Or.inr ⟨v, rfl, h4, Or.inr ⟨n, rfl, h2, h3, Or.inr ⟨rfl, h5, hR⟩⟩⟩⟩, hI'⟩
        · skip
          refine v_callVC0 (As := [.int (nI i), .int (nI v), .int (nI n)]) (rest := []) cw_L_29 (hy_X7_label) g (bx_lab4 C.l hL C.D ad S hI i v n h1 h4 h2 h3 (by omega)) dL_label_4 0 rfl rfl rfl (by decide) (by decide) (Nat.le_of_ble_eq_true rfl) _ rfl [⟨0, 7, 10, 13⟩] ⟨0, 7, 14, 15⟩ [] (hT.trans rfl) (fun y hy => by rw [List.mem_singleton.mp hy]; exact ⟨by decide, _, lk_13, hNA.to (Vm.Alike.refl _) _⟩) (by decide) (by decide) lk_15 ck_15 (fun ev => ?_)
          show VJ C 1 6 14 [(0, .ref (ad 0)), (1, .int (nI i)), (2, .int (nI v)), (3, .int (nI n))] [.ref ev] ((BW C.D ad S))
          refine v_astore g [(4, .ref ev), (0, .ref (ad 0)), (1, .int (nI i)), (2, .int (nI v)), (3, .int (nI n))] dL_label_14 (by decide) rfl ?_
          refine v_iconst g dL_label_16 (v := nI 2) (by decide +kernel) ?_
          exact v_iret g R dL_label_17 (by decide) (by decide) ⟨S, 2, rfl, rfl, Or.inr ⟨i, rfl, h1, Or.inr ⟨v, rfl, h4, Or.inr ⟨n, rfl, h2, h3, Or.inl ⟨rfl, by omega, rfl⟩⟩⟩⟩, hI⟩
theorem dL_block_0 : decode cL_block 0 = .ok (.aload_n 0, 1) := by decide +kernel
theorem dL_block_1 : decode cL_block 1 = .ok (.iload_n 1, 1) := by decide +kernel
theorem dL_block_2 : decode cL_block 2 = .ok (.iload_n 2, 1) := by decide +kernel
theorem dL_block_3 : decode cL_block 3 = .ok (.invokevirtual 33, 3) := by decide +kernel
theorem dL_block_6 : decode cL_block 6 = .ok (.goto 9, 3) := by decide +kernel
theorem dL_block_9 : decode cL_block 9 = .ok (.astore_n 3, 1) := by decide +kernel
theorem dL_block_10 : decode cL_block 10 = .ok (.iconst 1, 1) := by decide +kernel
theorem dL_block_11 : decode cL_block 11 = .ok (.ireturn, 1) := by decide +kernel
theorem dL_block_12 : decode cL_block 12 = .ok (.astore_n 3, 1) := by decide +kernel
theorem dL_block_13 : decode cL_block 13 = .ok (.iconst 2, 1) := by decide +kernel
theorem dL_block_14 : decode cL_block 14 = .ok (.ireturn, 1) := by decide +kernel
theorem dL_block_15 : decode cL_block 15 = .ok (.iconst 0, 1) := by decide +kernel
theorem dL_block_16 : decode cL_block 16 = .ok (.ireturn, 1) := by decide +kernel
set_option maxRecDepth 100000 in
set_option maxHeartbeats 4000000 in
theorem w_block (l : Launch) (hL : noTr l) (D : va_G) (ad : Nat → Nat) (S : Sc) (hI : IB S) (p : Int32) (q : Wd) : vMW l D yL_block cL_block 4 (some .int) [(0, 6, 9, 13), (0, 6, 12, 15)] { frames := 8, cells := 1, slots := 6, locals := 125 } [.ref (ad 0), .int p, .int (wI q)] (BW D ad S) (fun r ws' => ∃ (S' : Sc) (c : Nat), ws' = BW D ad S' ∧ r = some (.int (nI c)) ∧ RF_blk S.k p q S'.k c ∧ IB S') := by
  refine vMW.of (by decide) (Nat.le_of_ble_eq_true rfl) (fun C hCl hCD hT hNA g R => ?_)
  subst hCl; subst hCD
  show VJ C 0 0 0 [(0, .ref (ad 0)), (1, .int p), (2, .int (wI q))] [] (BW C.D ad S)
  refine v_aload_n g dL_block_0 0 rfl 0 rfl ?_
  refine v_iload_n g dL_block_1 1 rfl 1 rfl ?_
  refine v_iload_n g dL_block_2 2 rfl 2 rfl ?_
  rcases cl_bad p (N := 8) (by decide) with h | ⟨i, rfl, h1⟩
  · skip
    refine v_callVC0 (As := [.int p, .int (wI q)]) (rest := []) cw_L_33 (hy_X7_block) g (bx_blk1 C.l hL C.D ad S hI p (wI q) h) dL_block_3 0 rfl rfl rfl (by decide) (by decide) (Nat.le_of_ble_eq_true rfl) _ rfl [] ⟨0, 6, 9, 13⟩ [⟨0, 6, 12, 15⟩] (hT.trans rfl) (fun _ h => absurd h List.not_mem_nil) (by decide) (by decide) lk_13 ck_13 (fun ev => ?_)
    show VJ C 1 6 9 [(0, .ref (ad 0)), (1, .int p), (2, .int (wI q))] [.ref ev] ((BW C.D ad S))
    refine v_astore_n g [(3, .ref ev), (0, .ref (ad 0)), (1, .int p), (2, .int (wI q))] dL_block_9 3 rfl (by decide) rfl ?_
    refine v_iconst g dL_block_10 (v := nI 1) (by decide +kernel) ?_
    exact v_iret g R dL_block_11 (by decide) (by decide) ⟨S, 1, rfl, rfl, Or.inl ⟨rfl, h, rfl⟩, hI⟩
  · skip
    by_cases h2 : S.k.sn i = 32
    · skip
      by_cases h3 : S.k.tn = 12
      · skip
        refine v_callV0 (As := [.int (nI i), .int (wI q)]) (rest := []) cw_L_33 (hy_X7_block) g (b_block C.l C.D ad S hI i q h1 h2 h3) dL_block_3 0 rfl rfl rfl (by decide) (by decide) (Nat.le_of_ble_eq_true rfl) _ rfl (fun r wo h => ?_)
        obtain ⟨S', rfl, rfl, hR, hI'⟩ := h
        show VJ C 0 0 6 [(0, .ref (ad 0)), (1, .int (nI i)), (2, .int (wI q))] [] (BW C.D ad S')
        refine v_goto g 15 dL_block_6 (by decide) ?_
        refine v_iconst g dL_block_15 (v := nI 0) (by decide +kernel) ?_
        exact v_iret g R dL_block_16 (by decide) (by decide) ⟨S', 0, rfl, rfl, Or.inr ⟨i, rfl, h1, Or.inr ⟨rfl, h2, h3, hR⟩⟩, hI'⟩
      · skip
        refine v_callVC0 (As := [.int (nI i), .int (wI q)]) (rest := []) cw_L_33 (hy_X7_block) g (bx_blk3 C.l hL C.D ad S hI i (wI q) h1 h2 h3) dL_block_3 0 rfl rfl rfl (by decide) (by decide) (Nat.le_of_ble_eq_true rfl) _ rfl [⟨0, 6, 9, 13⟩] ⟨0, 6, 12, 15⟩ [] (hT.trans rfl) (fun y hy => by rw [List.mem_singleton.mp hy]; exact ⟨by decide, _, lk_13, hNA.to (Vm.Alike.refl _) _⟩) (by decide) (by decide) lk_15 ck_15 (fun ev => ?_)
        show VJ C 1 6 12 [(0, .ref (ad 0)), (1, .int (nI i)), (2, .int (wI q))] [.ref ev] ((BW C.D ad S))
        refine v_astore_n g [(3, .ref ev), (0, .ref (ad 0)), (1, .int (nI i)), (2, .int (wI q))] dL_block_12 3 rfl (by decide) rfl ?_
        refine v_iconst g dL_block_13 (v := nI 2) (by decide +kernel) ?_
        exact v_iret g R dL_block_14 (by decide) (by decide) ⟨S, 2, rfl, rfl, Or.inr ⟨i, rfl, h1, Or.inl ⟨rfl, Or.inr h3, rfl⟩⟩, hI⟩
    · skip
      refine v_callVC0 (As := [.int (nI i), .int (wI q)]) (rest := []) cw_L_33 (hy_X7_block) g (bx_blk2 C.l hL C.D ad S hI i (wI q) h1 h2) dL_block_3 0 rfl rfl rfl (by decide) (by decide) (Nat.le_of_ble_eq_true rfl) _ rfl [⟨0, 6, 9, 13⟩] ⟨0, 6, 12, 15⟩ [] (hT.trans rfl) (fun y hy => by rw [List.mem_singleton.mp hy]; exact ⟨by decide, _, lk_13, hNA.to (Vm.Alike.refl _) _⟩) (by decide) (by decide) lk_15 ck_15 (fun ev => ?_)
      show VJ C 1 6 12 [(0, .ref (ad 0)), (1, .int (nI i)), (2, .int (wI q))] [.ref ev] ((BW C.D ad S))
      refine v_astore_n g [(3, .ref ev), (0, .ref (ad 0)), (1, .int (nI i)), (2, .int (wI q))] dL_block_12 3 rfl (by decide) rfl ?_
      refine v_iconst g dL_block_13 (v := nI 2) (by decide +kernel) ?_
      exact v_iret g R dL_block_14 (by decide) (by decide) ⟨S, 2, rfl, rfl, Or.inr ⟨i, rfl, h1, Or.inl ⟨rfl, Or.inl h2, rfl⟩⟩, hI⟩
theorem dL_tally_0 : decode cL_tally 0 = .ok (.aload_n 0, 1) := by decide +kernel
theorem dL_tally_1 : decode cL_tally 1 = .ok (.iload_n 1, 1) := by decide +kernel
theorem dL_tally_2 : decode cL_tally 2 = .ok (.invokevirtual 36, 3) := by decide +kernel
theorem dL_tally_5 : decode cL_tally 5 = .ok (.goto 9, 3) := by decide +kernel
theorem dL_tally_8 : decode cL_tally 8 = .ok (.astore_n 2, 1) := by decide +kernel
theorem dL_tally_9 : decode cL_tally 9 = .ok (.iconst 1, 1) := by decide +kernel
theorem dL_tally_10 : decode cL_tally 10 = .ok (.ireturn, 1) := by decide +kernel
theorem dL_tally_11 : decode cL_tally 11 = .ok (.astore_n 2, 1) := by decide +kernel
theorem dL_tally_12 : decode cL_tally 12 = .ok (.iconst 2, 1) := by decide +kernel
theorem dL_tally_13 : decode cL_tally 13 = .ok (.ireturn, 1) := by decide +kernel
theorem dL_tally_14 : decode cL_tally 14 = .ok (.iconst 0, 1) := by decide +kernel
theorem dL_tally_15 : decode cL_tally 15 = .ok (.ireturn, 1) := by decide +kernel
set_option maxRecDepth 100000 in
set_option maxHeartbeats 4000000 in
theorem w_tally (l : Launch) (hL : noTr l) (D : va_G) (ad : Nat → Nat) (S : Sc) (hI : IB S) (p : Int32) : vMW l D yL_tally cL_tally 3 (some .int) [(0, 5, 8, 13), (0, 5, 11, 15)] { frames := 8, cells := 1, slots := 6, locals := 124 } [.ref (ad 0), .int p] (BW D ad S) (fun r ws' => ∃ (S' : Sc) (c : Nat), ws' = BW D ad S' ∧ r = some (.int (nI c)) ∧ RF_tal S.k p S'.k c ∧ IB S') := by
  refine vMW.of (by decide) (Nat.le_of_ble_eq_true rfl) (fun C hCl hCD hT hNA g R => ?_)
  subst hCl; subst hCD
  show VJ C 0 0 0 [(0, .ref (ad 0)), (1, .int p)] [] (BW C.D ad S)
  refine v_aload_n g dL_tally_0 0 rfl 0 rfl ?_
  refine v_iload_n g dL_tally_1 1 rfl 1 rfl ?_
  rcases cl_bad p (N := 8) (by decide) with h | ⟨i, rfl, h1⟩
  · skip
    refine v_callVC0 (As := [.int p]) (rest := []) cw_L_36 (hy_X7_tally) g (bx_tal1 C.l hL C.D ad S hI p h) dL_tally_2 0 rfl rfl rfl (by decide) (by decide) (Nat.le_of_ble_eq_true rfl) _ rfl [] ⟨0, 5, 8, 13⟩ [⟨0, 5, 11, 15⟩] (hT.trans rfl) (fun _ h => absurd h List.not_mem_nil) (by decide) (by decide) lk_13 ck_13 (fun ev => ?_)
    show VJ C 1 6 8 [(0, .ref (ad 0)), (1, .int p)] [.ref ev] ((BW C.D ad S))
    refine v_astore_n g [(2, .ref ev), (0, .ref (ad 0)), (1, .int p)] dL_tally_8 2 rfl (by decide) rfl ?_
    refine v_iconst g dL_tally_9 (v := nI 1) (by decide +kernel) ?_
    exact v_iret g R dL_tally_10 (by decide) (by decide) ⟨S, 1, rfl, rfl, Or.inl ⟨rfl, h, rfl⟩, hI⟩
  · skip
    by_cases h2 : S.k.sn i = 32
    · skip
      refine v_callV0 (As := [.int (nI i)]) (rest := []) cw_L_36 (hy_X7_tally) g (b_tally C.l C.D ad S hI i h1 h2) dL_tally_2 0 rfl rfl rfl (by decide) (by decide) (Nat.le_of_ble_eq_true rfl) _ rfl (fun r wo h => ?_)
      obtain ⟨S', rfl, rfl, hR, hI'⟩ := h
      show VJ C 0 0 5 [(0, .ref (ad 0)), (1, .int (nI i))] [] (BW C.D ad S')
      refine v_goto g 14 dL_tally_5 (by decide) ?_
      refine v_iconst g dL_tally_14 (v := nI 0) (by decide +kernel) ?_
      exact v_iret g R dL_tally_15 (by decide) (by decide) ⟨S', 0, rfl, rfl, Or.inr ⟨i, rfl, h1, Or.inr ⟨rfl, h2, hR⟩⟩, hI'⟩
    · skip
      refine v_callVC0 (As := [.int (nI i)]) (rest := []) cw_L_36 (hy_X7_tally) g (bx_tal2 C.l hL C.D ad S hI i h1 h2) dL_tally_2 0 rfl rfl rfl (by decide) (by decide) (Nat.le_of_ble_eq_true rfl) _ rfl [⟨0, 5, 8, 13⟩] ⟨0, 5, 11, 15⟩ [] (hT.trans rfl) (fun y hy => by rw [List.mem_singleton.mp hy]; exact ⟨by decide, _, lk_13, hNA.to (Vm.Alike.refl _) _⟩) (by decide) (by decide) lk_15 ck_15 (fun ev => ?_)
      show VJ C 1 6 11 [(0, .ref (ad 0)), (1, .int (nI i))] [.ref ev] ((BW C.D ad S))
      refine v_astore_n g [(2, .ref ev), (0, .ref (ad 0)), (1, .int (nI i))] dL_tally_11 2 rfl (by decide) rfl ?_
      refine v_iconst g dL_tally_12 (v := nI 2) (by decide +kernel) ?_
      exact v_iret g R dL_tally_13 (by decide) (by decide) ⟨S, 2, rfl, rfl, Or.inr ⟨i, rfl, h1, Or.inl ⟨rfl, h2, rfl⟩⟩, hI⟩
theorem dL_arm_0 : decode cL_arm 0 = .ok (.aload_n 0, 1) := by decide +kernel
theorem dL_arm_1 : decode cL_arm 1 = .ok (.iload_n 1, 1) := by decide +kernel
theorem dL_arm_2 : decode cL_arm 2 = .ok (.iload_n 2, 1) := by decide +kernel
theorem dL_arm_3 : decode cL_arm 3 = .ok (.invokevirtual 39, 3) := by decide +kernel
theorem dL_arm_6 : decode cL_arm 6 = .ok (.goto 9, 3) := by decide +kernel
theorem dL_arm_9 : decode cL_arm 9 = .ok (.astore_n 3, 1) := by decide +kernel
theorem dL_arm_10 : decode cL_arm 10 = .ok (.iconst 1, 1) := by decide +kernel
theorem dL_arm_11 : decode cL_arm 11 = .ok (.ireturn, 1) := by decide +kernel
theorem dL_arm_12 : decode cL_arm 12 = .ok (.astore_n 3, 1) := by decide +kernel
theorem dL_arm_13 : decode cL_arm 13 = .ok (.iconst 2, 1) := by decide +kernel
theorem dL_arm_14 : decode cL_arm 14 = .ok (.ireturn, 1) := by decide +kernel
theorem dL_arm_15 : decode cL_arm 15 = .ok (.iconst 0, 1) := by decide +kernel
theorem dL_arm_16 : decode cL_arm 16 = .ok (.ireturn, 1) := by decide +kernel
set_option maxRecDepth 100000 in
set_option maxHeartbeats 4000000 in
theorem w_arm (l : Launch) (hL : noTr l) (D : va_G) (ad : Nat → Nat) (S : Sc) (hI : IB S) (p q : Int32) : vMW l D yL_arm cL_arm 4 (some .int) [(0, 6, 9, 13), (0, 6, 12, 15)] { frames := 8, cells := 1, slots := 6, locals := 197 } [.ref (ad 0), .int p, .int q] (BW D ad S) (fun r ws' => ∃ (S' : Sc) (c : Nat), ws' = BW D ad S' ∧ r = some (.int (nI c)) ∧ RF_arm S.k p q S'.k c ∧ IB S') := by
  refine vMW.of (by decide) (Nat.le_of_ble_eq_true rfl) (fun C hCl hCD hT hNA g R => ?_)
  subst hCl; subst hCD
  show VJ C 0 0 0 [(0, .ref (ad 0)), (1, .int p), (2, .int q)] [] (BW C.D ad S)
  refine v_aload_n g dL_arm_0 0 rfl 0 rfl ?_
  refine v_iload_n g dL_arm_1 1 rfl 1 rfl ?_
  refine v_iload_n g dL_arm_2 2 rfl 2 rfl ?_
  rcases cl_bad p (N := 4) (by decide) with h | ⟨g1, rfl, h1⟩
  · skip
    refine v_callVC0 (As := [.int p, .int q]) (rest := []) cw_L_39 (hy_X7_arm) g (bx_arm1 C.l hL C.D ad S hI p q h) dL_arm_3 0 rfl rfl rfl (by decide) (by decide) (Nat.le_of_ble_eq_true rfl) _ rfl [] ⟨0, 6, 9, 13⟩ [⟨0, 6, 12, 15⟩] (hT.trans rfl) (fun _ h => absurd h List.not_mem_nil) (by decide) (by decide) lk_13 ck_13 (fun ev => ?_)
    show VJ C 1 6 9 [(0, .ref (ad 0)), (1, .int p), (2, .int q)] [.ref ev] ((BW C.D ad S))
    refine v_astore_n g [(3, .ref ev), (0, .ref (ad 0)), (1, .int p), (2, .int q)] dL_arm_9 3 rfl (by decide) rfl ?_
    refine v_iconst g dL_arm_10 (v := nI 1) (by decide +kernel) ?_
    exact v_iret g R dL_arm_11 (by decide) (by decide) ⟨S, 1, rfl, rfl, Or.inl ⟨rfl, h, rfl⟩, hI⟩
  · skip
    rcases cl_bad q (N := 8) (by decide) with h | ⟨i, rfl, h2⟩
    · skip
      refine v_callVC0 (As := [.int (nI g1), .int q]) (rest := []) cw_L_39 (hy_X7_arm) g (bx_arm2 C.l hL C.D ad S hI g1 q h1 h) dL_arm_3 0 rfl rfl rfl (by decide) (by decide) (Nat.le_of_ble_eq_true rfl) _ rfl [] ⟨0, 6, 9, 13⟩ [⟨0, 6, 12, 15⟩] (hT.trans rfl) (fun _ h => absurd h List.not_mem_nil) (by decide) (by decide) lk_13 ck_13 (fun ev => ?_)
      show VJ C 1 6 9 [(0, .ref (ad 0)), (1, .int (nI g1)), (2, .int q)] [.ref ev] ((BW C.D ad S))
      refine v_astore_n g [(3, .ref ev), (0, .ref (ad 0)), (1, .int (nI g1)), (2, .int q)] dL_arm_9 3 rfl (by decide) rfl ?_
      refine v_iconst g dL_arm_10 (v := nI 1) (by decide +kernel) ?_
      exact v_iret g R dL_arm_11 (by decide) (by decide) ⟨S, 1, rfl, rfl, Or.inr ⟨g1, rfl, h1, Or.inl ⟨rfl, h, rfl⟩⟩, hI⟩
    · skip
      by_cases h3 : S.k.sn i = 32
      · skip
        refine v_callV0 (As := [.int (nI g1), .int (nI i)]) (rest := []) cw_L_39 (hy_X7_arm) g (b_arm C.l C.D ad S hI g1 i h1 h2 h3) dL_arm_3 0 rfl rfl rfl (by decide) (by decide) (Nat.le_of_ble_eq_true rfl) _ rfl (fun r wo h => ?_)
        obtain ⟨S', rfl, rfl, hR, hI'⟩ := h
        show VJ C 0 0 6 [(0, .ref (ad 0)), (1, .int (nI g1)), (2, .int (nI i))] [] (BW C.D ad S')
        refine v_goto g 15 dL_arm_6 (by decide) ?_
        refine v_iconst g dL_arm_15 (v := nI 0) (by decide +kernel) ?_
        exact v_iret g R dL_arm_16 (by decide) (by decide) ⟨S', 0, rfl, rfl, Or.inr ⟨g1, rfl, h1, Or.inr ⟨i, rfl, h2, Or.inr ⟨rfl, h3, hR⟩⟩⟩, hI'⟩
      · skip
        refine v_callVC0 (As := [.int (nI g1), .int (nI i)]) (rest := []) cw_L_39 (hy_X7_arm) g (bx_arm3 C.l hL C.D ad S hI g1 i h1 h2 h3) dL_arm_3 0 rfl rfl rfl (by decide) (by decide) (Nat.le_of_ble_eq_true rfl) _ rfl [⟨0, 6, 9, 13⟩] ⟨0, 6, 12, 15⟩ [] (hT.trans rfl) (fun y hy => by rw [List.mem_singleton.mp hy]; exact ⟨by decide, _, lk_13, hNA.to (Vm.Alike.refl _) _⟩) (by decide) (by decide) lk_15 ck_15 (fun ev => ?_)
        show VJ C 1 6 12 [(0, .ref (ad 0)), (1, .int (nI g1)), (2, .int (nI i))] [.ref ev] ((BW C.D ad S))
        refine v_astore_n g [(3, .ref ev), (0, .ref (ad 0)), (1, .int (nI g1)), (2, .int (nI i))] dL_arm_12 3 rfl (by decide) rfl ?_
        refine v_iconst g dL_arm_13 (v := nI 2) (by decide +kernel) ?_
        exact v_iret g R dL_arm_14 (by decide) (by decide) ⟨S, 2, rfl, rfl, Or.inr ⟨g1, rfl, h1, Or.inr ⟨i, rfl, h2, Or.inl ⟨rfl, h3, rfl⟩⟩⟩, hI⟩
theorem dL_turn_0 : decode cL_turn 0 = .ok (.aload_n 2, 1) := by decide +kernel
theorem dL_turn_1 : decode cL_turn 1 = .ok (.iconst 0, 1) := by decide +kernel
theorem dL_turn_2 : decode cL_turn 2 = .ok (.aload_n 0, 1) := by decide +kernel
theorem dL_turn_3 : decode cL_turn 3 = .ok (.iload_n 1, 1) := by decide +kernel
theorem dL_turn_4 : decode cL_turn 4 = .ok (.invokevirtual 42, 3) := by decide +kernel
theorem dL_turn_7 : decode cL_turn 7 = .ok (.i2l, 1) := by decide +kernel
theorem dL_turn_8 : decode cL_turn 8 = .ok (.lastore, 1) := by decide +kernel
theorem dL_turn_9 : decode cL_turn 9 = .ok (.goto 9, 3) := by decide +kernel
theorem dL_turn_12 : decode cL_turn 12 = .ok (.astore_n 3, 1) := by decide +kernel
theorem dL_turn_13 : decode cL_turn 13 = .ok (.iconst 1, 1) := by decide +kernel
theorem dL_turn_14 : decode cL_turn 14 = .ok (.ireturn, 1) := by decide +kernel
theorem dL_turn_15 : decode cL_turn 15 = .ok (.astore_n 3, 1) := by decide +kernel
theorem dL_turn_16 : decode cL_turn 16 = .ok (.iconst 2, 1) := by decide +kernel
theorem dL_turn_17 : decode cL_turn 17 = .ok (.ireturn, 1) := by decide +kernel
theorem dL_turn_18 : decode cL_turn 18 = .ok (.iconst 0, 1) := by decide +kernel
theorem dL_turn_19 : decode cL_turn 19 = .ok (.ireturn, 1) := by decide +kernel
set_option maxRecDepth 100000 in
set_option maxHeartbeats 4000000 in
theorem w_turn (l : Launch) (hL : noTr l) (D : va_G) (ad : Nat → Nat) (S : Sc) (hI : IB S) (ao : Nat) (tj : Nat → Int64) (p : Int32) : vMW l D yL_turn cL_turn 4 (some .int) [(0, 9, 12, 13), (0, 9, 15, 15)] { frames := 8, cells := 1, slots := 6, locals := 196 } [.ref (ad 0), .int p, .ref ao] ((ao, aJ D 1 tj) :: BW D ad S) (fun r ws' => ∃ (S' : Sc) (c : Nat) (a : Int32) (tj' : Nat → Int64), ws' = (ao, aJ D 1 tj') :: BW D ad S' ∧ r = some (.int (nI c)) ∧ RF_turn S.k p S'.k c a ∧ (c = 0 → tj' 0 = a.toInt64) ∧ IB S') := by
  refine vMW.of (by decide) (Nat.le_of_ble_eq_true rfl) (fun C hCl hCD hT hNA g R => ?_)
  subst hCl; subst hCD
  show VJ C 0 0 0 [(0, .ref (ad 0)), (1, .int p), (2, .ref ao)] [] ((ao, aJ C.D 1 tj) :: BW C.D ad S)
  refine v_aload_n g dL_turn_0 2 rfl 2 rfl ?_
  refine v_iconst g dL_turn_1 (v := nI 0) (by decide +kernel) ?_
  refine v_aload_n g dL_turn_2 0 rfl 0 rfl ?_
  refine v_iload_n g dL_turn_3 1 rfl 1 rfl ?_
  rcases cl_bad p (N := 4) (by decide) with h | ⟨g1, rfl, h1⟩
  · skip
    refine v_callVC0 (As := [.int p]) (rest := [.int (nI 0), .ref ao]) cw_L_42 (hy_X7_turn) g (vMX.frameL (bx_turn1 C.l hL C.D ad S hI p h) [(ao, aJ C.D 1 tj)]) dL_turn_4 1 rfl rfl rfl (by decide) (by decide) (Nat.le_of_ble_eq_true rfl) _ rfl [] ⟨0, 9, 12, 13⟩ [⟨0, 9, 15, 15⟩] (hT.trans rfl) (fun _ h => absurd h List.not_mem_nil) (by decide) (by decide) lk_13 ck_13 (fun ev => ?_)
    show VJ C 1 6 12 [(0, .ref (ad 0)), (1, .int p), (2, .ref ao)] [.ref ev] (((ao, aJ C.D 1 tj) :: BW C.D ad S))
    refine v_astore_n g [(3, .ref ev), (0, .ref (ad 0)), (1, .int p), (2, .ref ao)] dL_turn_12 3 rfl (by decide) rfl ?_
    refine v_iconst g dL_turn_13 (v := nI 1) (by decide +kernel) ?_
    exact v_iret g R dL_turn_14 (by decide) (by decide) ⟨S, 1, 0, tj, rfl, rfl, Or.inl ⟨rfl, h, rfl⟩, (fun h => absurd h (by decide)), hI⟩
  · skip
    by_cases h3 : S.k.gp g1 = NA
    · skip
      refine v_callVC0 (As := [.int (nI g1)]) (rest := [.int (nI 0), .ref ao]) cw_L_42 (hy_X7_turn) g (vMX.frameL (bx_turn2 C.l hL C.D ad S hI g1 h1 h3) [(ao, aJ C.D 1 tj)]) dL_turn_4 1 rfl rfl rfl (by decide) (by decide) (Nat.le_of_ble_eq_true rfl) _ rfl [⟨0, 9, 12, 13⟩] ⟨0, 9, 15, 15⟩ [] (hT.trans rfl) (fun y hy => by rw [List.mem_singleton.mp hy]; exact ⟨by decide, _, lk_13, hNA.to (Vm.Alike.refl _) _⟩) (by decide) (by decide) lk_15 ck_15 (fun ev => ?_)
      show VJ C 1 6 15 [(0, .ref (ad 0)), (1, .int (nI g1)), (2, .ref ao)] [.ref ev] (((ao, aJ C.D 1 tj) :: BW C.D ad S))
      refine v_astore_n g [(3, .ref ev), (0, .ref (ad 0)), (1, .int (nI g1)), (2, .ref ao)] dL_turn_15 3 rfl (by decide) rfl ?_
      refine v_iconst g dL_turn_16 (v := nI 2) (by decide +kernel) ?_
      exact v_iret g R dL_turn_17 (by decide) (by decide) ⟨S, 2, 0, tj, rfl, rfl, Or.inr ⟨g1, rfl, h1, Or.inl ⟨rfl, h3, rfl⟩⟩, (fun h => absurd h (by decide)), hI⟩
    · skip
      refine v_callV0 (As := [.int (nI g1)]) (rest := [.int (nI 0), .ref ao]) cw_L_42 (hy_X7_turn) g (vM.frameL (b_turn C.l C.D ad S hI g1 h1 h3) [(ao, aJ C.D 1 tj)]) dL_turn_4 1 rfl rfl rfl (by decide) (by decide) (Nat.le_of_ble_eq_true rfl) _ rfl (fun r wo h => ?_)
      obtain ⟨wo', ⟨S', rfl, rfl, hR, hI'⟩, rfl⟩ := h
      show VJ C 0 0 7 [(0, .ref (ad 0)), (1, .int (nI g1)), (2, .ref ao)] [.int (wI (1#32 - S.k.gp g1)), .int (nI 0), .ref ao] ((ao, aJ C.D 1 tj) :: BW C.D ad S')
      refine v_i2l g dL_turn_7 ?_
      refine v_lastJ g 0 (((ao, aJ C.D 1 (va_up tj 0 ((wI (1#32 - S.k.gp g1)).toInt64))) :: BW C.D ad S')) rfl (by decide) (by decide) dL_turn_8 rfl ?_
      refine v_goto g 18 dL_turn_9 (by decide) ?_
      refine v_iconst g dL_turn_18 (v := nI 0) (by decide +kernel) ?_
      exact v_iret g R dL_turn_19 (by decide) (by decide) ⟨S', 0, _, _, rfl, rfl, Or.inr ⟨g1, rfl, h1, Or.inr ⟨rfl, h3, hR, rfl⟩⟩, (fun _ => va_up_at _ _ _), hI'⟩
theorem dL_seal_0 : decode cL_seal 0 = .ok (.aload 5, 2) := by decide +kernel
theorem dL_seal_2 : decode cL_seal 2 = .ok (.iconst 0, 1) := by decide +kernel
theorem dL_seal_3 : decode cL_seal 3 = .ok (.aload_n 0, 1) := by decide +kernel
theorem dL_seal_4 : decode cL_seal 4 = .ok (.iload_n 1, 1) := by decide +kernel
theorem dL_seal_5 : decode cL_seal 5 = .ok (.lload_n 2, 1) := by decide +kernel
theorem dL_seal_6 : decode cL_seal 6 = .ok (.iload 4, 2) := by decide +kernel
theorem dL_seal_8 : decode cL_seal 8 = .ok (.invokevirtual 46, 3) := by decide +kernel
theorem dL_seal_11 : decode cL_seal 11 = .ok (.i2l, 1) := by decide +kernel
theorem dL_seal_12 : decode cL_seal 12 = .ok (.lastore, 1) := by decide +kernel
theorem dL_seal_13 : decode cL_seal 13 = .ok (.goto 11, 3) := by decide +kernel
theorem dL_seal_16 : decode cL_seal 16 = .ok (.astore 6, 2) := by decide +kernel
theorem dL_seal_18 : decode cL_seal 18 = .ok (.iconst 1, 1) := by decide +kernel
theorem dL_seal_19 : decode cL_seal 19 = .ok (.ireturn, 1) := by decide +kernel
theorem dL_seal_20 : decode cL_seal 20 = .ok (.astore 6, 2) := by decide +kernel
theorem dL_seal_22 : decode cL_seal 22 = .ok (.iconst 2, 1) := by decide +kernel
theorem dL_seal_23 : decode cL_seal 23 = .ok (.ireturn, 1) := by decide +kernel
theorem dL_seal_24 : decode cL_seal 24 = .ok (.iconst 0, 1) := by decide +kernel
theorem dL_seal_25 : decode cL_seal 25 = .ok (.ireturn, 1) := by decide +kernel
set_option maxRecDepth 100000 in
set_option maxHeartbeats 4000000 in
theorem w_seal (l : Launch) (hL : noTr l) (D : va_G) (ad : Nat → Nat) (S : Sc) (hI : IB S) (ao : Nat) (tj : Nat → Int64) (p : Int32) (x : BitVec 64) (h : Int32) : vMW l D yL_seal cL_seal 7 (some .int) [(0, 13, 16, 13), (0, 13, 20, 15)] { frames := 8, cells := 1, slots := 6, locals := 167 } [.ref (ad 0), .int p, .long (xL x), .int h, .ref ao] ((ao, aJ D 1 tj) :: BW D ad S) (fun r ws' => ∃ (S' : Sc) (c : Nat) (a : Int32) (tj' : Nat → Int64), ws' = (ao, aJ D 1 tj') :: BW D ad S' ∧ r = some (.int (nI c)) ∧ RF_seal S.k p x h S'.k c a ∧ (c = 0 → tj' 0 = a.toInt64) ∧ IB S') := by
  refine vMW.of (by decide) (Nat.le_of_ble_eq_true rfl) (fun C hCl hCD hT hNA g R => ?_)
  subst hCl; subst hCD
  show VJ C 0 0 0 [(0, .ref (ad 0)), (1, .int p), (2, .long (xL x)), (4, .int h), (5, .ref ao)] [] ((ao, aJ C.D 1 tj) :: BW C.D ad S)
  refine v_aload g dL_seal_0 4 rfl ?_
  refine v_iconst g dL_seal_2 (v := nI 0) (by decide +kernel) ?_
  refine v_aload_n g dL_seal_3 0 rfl 0 rfl ?_
  refine v_iload_n g dL_seal_4 1 rfl 1 rfl ?_
  refine v_lload_n g dL_seal_5 2 rfl 2 rfl ?_
  refine v_iload g dL_seal_6 3 rfl ?_
  rcases cl_bad p (N := 4) (by decide) with h0 | ⟨g1, rfl, h1⟩
  · skip
    refine v_callVC0 (As := [.int p, .long (xL x), .int h]) (rest := [.int (nI 0), .ref ao]) cw_L_46 (hy_X7_seal) g (vMX.frameL (bx_seal1 C.l hL C.D ad S hI p x h h0) [(ao, aJ C.D 1 tj)]) dL_seal_8 1 rfl rfl rfl (by decide) (by decide) (Nat.le_of_ble_eq_true rfl) _ rfl [] ⟨0, 13, 16, 13⟩ [⟨0, 13, 20, 15⟩] (hT.trans rfl) (fun _ h => absurd h List.not_mem_nil) (by decide) (by decide) lk_13 ck_13 (fun ev => ?_)
    show VJ C 1 6 16 [(0, .ref (ad 0)), (1, .int p), (2, .long (xL x)), (4, .int h), (5, .ref ao)] [.ref ev] (((ao, aJ C.D 1 tj) :: BW C.D ad S))
    refine v_astore g [(6, .ref ev), (0, .ref (ad 0)), (1, .int p), (2, .long (xL x)), (4, .int h), (5, .ref ao)] dL_seal_16 (by decide) rfl ?_
    refine v_iconst g dL_seal_18 (v := nI 1) (by decide +kernel) ?_
    exact v_iret g R dL_seal_19 (by decide) (by decide) ⟨S, 1, 0, tj, rfl, rfl, Or.inl ⟨rfl, h0, rfl⟩, (fun h => absurd h (by decide)), hI⟩
  · skip
    by_cases h2 : xL x < 0
    · skip
      refine v_callVC0 (As := [.int (nI g1), .long (xL x), .int h]) (rest := [.int (nI 0), .ref ao]) cw_L_46 (hy_X7_seal) g (vMX.frameL (bx_seal2 C.l hL C.D ad S hI g1 x h h1 h2) [(ao, aJ C.D 1 tj)]) dL_seal_8 1 rfl rfl rfl (by decide) (by decide) (Nat.le_of_ble_eq_true rfl) _ rfl [] ⟨0, 13, 16, 13⟩ [⟨0, 13, 20, 15⟩] (hT.trans rfl) (fun _ h => absurd h List.not_mem_nil) (by decide) (by decide) lk_13 ck_13 (fun ev => ?_)
      show VJ C 1 6 16 [(0, .ref (ad 0)), (1, .int (nI g1)), (2, .long (xL x)), (4, .int h), (5, .ref ao)] [.ref ev] (((ao, aJ C.D 1 tj) :: BW C.D ad S))
      refine v_astore g [(6, .ref ev), (0, .ref (ad 0)), (1, .int (nI g1)), (2, .long (xL x)), (4, .int h), (5, .ref ao)] dL_seal_16 (by decide) rfl ?_
      refine v_iconst g dL_seal_18 (v := nI 1) (by decide +kernel) ?_
      exact v_iret g R dL_seal_19 (by decide) (by decide) ⟨S, 1, 0, tj, rfl, rfl, Or.inr ⟨g1, rfl, h1, Or.inl ⟨rfl, h2, rfl⟩⟩, (fun h => absurd h (by decide)), hI⟩
    · skip
      rcases cl_low h (N := S.k.tn) (by have := hI.1.1; omega) with h0 | ⟨n, rfl, h3⟩
      · skip
        refine v_callVC0 (As := [.int (nI g1), .long (xL x), .int h]) (rest := [.int (nI 0), .ref ao]) cw_L_46 (hy_X7_seal) g (vMX.frameL (bx_seal3 C.l hL C.D ad S hI g1 x h h1 h2 h0) [(ao, aJ C.D 1 tj)]) dL_seal_8 1 rfl rfl rfl (by decide) (by decide) (Nat.le_of_ble_eq_true rfl) _ rfl [] ⟨0, 13, 16, 13⟩ [⟨0, 13, 20, 15⟩] (hT.trans rfl) (fun _ h => absurd h List.not_mem_nil) (by decide) (by decide) lk_13 ck_13 (fun ev => ?_)
        show VJ C 1 6 16 [(0, .ref (ad 0)), (1, .int (nI g1)), (2, .long (xL x)), (4, .int h), (5, .ref ao)] [.ref ev] (((ao, aJ C.D 1 tj) :: BW C.D ad S))
        refine v_astore g [(6, .ref ev), (0, .ref (ad 0)), (1, .int (nI g1)), (2, .long (xL x)), (4, .int h), (5, .ref ao)] dL_seal_16 (by decide) rfl ?_
        refine v_iconst g dL_seal_18 (v := nI 1) (by decide +kernel) ?_
        exact v_iret g R dL_seal_19 (by decide) (by decide) ⟨S, 1, 0, tj, rfl, rfl, Or.inr ⟨g1, rfl, h1, Or.inr ⟨h2, Or.inl ⟨rfl, h0, rfl⟩⟩⟩, (fun h => absurd h (by decide)), hI⟩
      · skip
        by_cases h4 : S.k.gp g1 = NA
        · skip
          refine v_callVC0 (As := [.int (nI g1), .long (xL x), .int (nI n)]) (rest := [.int (nI 0), .ref ao]) cw_L_46 (hy_X7_seal) g (vMX.frameL (bx_seal4 C.l hL C.D ad S hI g1 x n h1 h2 h3 h4) [(ao, aJ C.D 1 tj)]) dL_seal_8 1 rfl rfl rfl (by decide) (by decide) (Nat.le_of_ble_eq_true rfl) _ rfl [⟨0, 13, 16, 13⟩] ⟨0, 13, 20, 15⟩ [] (hT.trans rfl) (fun y hy => by rw [List.mem_singleton.mp hy]; exact ⟨by decide, _, lk_13, hNA.to (Vm.Alike.refl _) _⟩) (by decide) (by decide) lk_15 ck_15 (fun ev => ?_)
          show VJ C 1 6 20 [(0, .ref (ad 0)), (1, .int (nI g1)), (2, .long (xL x)), (4, .int (nI n)), (5, .ref ao)] [.ref ev] (((ao, aJ C.D 1 tj) :: BW C.D ad S))
          refine v_astore g [(6, .ref ev), (0, .ref (ad 0)), (1, .int (nI g1)), (2, .long (xL x)), (4, .int (nI n)), (5, .ref ao)] dL_seal_20 (by decide) rfl ?_
          refine v_iconst g dL_seal_22 (v := nI 2) (by decide +kernel) ?_
          exact v_iret g R dL_seal_23 (by decide) (by decide) ⟨S, 2, 0, tj, rfl, rfl, Or.inr ⟨g1, rfl, h1, Or.inr ⟨h2, Or.inr ⟨n, rfl, h3, Or.inl ⟨rfl, h4, rfl⟩⟩⟩⟩, (fun h => absurd h (by decide)), hI⟩
        · skip
          refine v_callV0 (As := [.int (nI g1), .long (xL x), .int (nI n)]) (rest := [.int (nI 0), .ref ao]) cw_L_46 (hy_X7_seal) g (vM.frameL (b_seal C.l C.D ad S hI g1 x n h1 h4 h2 h3) [(ao, aJ C.D 1 tj)]) dL_seal_8 1 rfl rfl rfl (by decide) (by decide) (Nat.le_of_ble_eq_true rfl) _ rfl (fun r wo h => ?_)
          obtain ⟨wo', ⟨S', rfl, rfl, hR, hI'⟩, rfl⟩ := h
          show VJ C 0 0 11 [(0, .ref (ad 0)), (1, .int (nI g1)), (2, .long (xL x)), (4, .int (nI n)), (5, .ref ao)] [.int (nI (S.k.tn + 16)), .int (nI 0), .ref ao] ((ao, aJ C.D 1 tj) :: BW C.D ad S')
          refine v_i2l g dL_seal_11 ?_
          refine v_lastJ g 0 (((ao, aJ C.D 1 (va_up tj 0 ((nI (S.k.tn + 16)).toInt64))) :: BW C.D ad S')) rfl (by decide) (by decide) dL_seal_12 rfl ?_
          refine v_goto g 24 dL_seal_13 (by decide) ?_
          refine v_iconst g dL_seal_24 (v := nI 0) (by decide +kernel) ?_
          exact v_iret g R dL_seal_25 (by decide) (by decide) ⟨S', 0, _, _, rfl, rfl, Or.inr ⟨g1, rfl, h1, Or.inr ⟨h2, Or.inr ⟨n, rfl, h3, Or.inr ⟨rfl, h4, hR, rfl⟩⟩⟩⟩, (fun _ => va_up_at _ _ _), hI'⟩
theorem dL_open_0 : decode cL_open 0 = .ok (.aload 5, 2) := by decide +kernel
theorem dL_open_2 : decode cL_open 2 = .ok (.iconst 0, 1) := by decide +kernel
theorem dL_open_3 : decode cL_open 3 = .ok (.aload_n 0, 1) := by decide +kernel
theorem dL_open_4 : decode cL_open 4 = .ok (.iload_n 1, 1) := by decide +kernel
theorem dL_open_5 : decode cL_open 5 = .ok (.lload_n 2, 1) := by decide +kernel
theorem dL_open_6 : decode cL_open 6 = .ok (.iload 4, 2) := by decide +kernel
theorem dL_open_8 : decode cL_open 8 = .ok (.invokevirtual 50, 3) := by decide +kernel
theorem dL_open_11 : decode cL_open 11 = .ok (.i2l, 1) := by decide +kernel
theorem dL_open_12 : decode cL_open 12 = .ok (.lastore, 1) := by decide +kernel
theorem dL_open_13 : decode cL_open 13 = .ok (.goto 11, 3) := by decide +kernel
theorem dL_open_16 : decode cL_open 16 = .ok (.astore 6, 2) := by decide +kernel
theorem dL_open_18 : decode cL_open 18 = .ok (.iconst 1, 1) := by decide +kernel
theorem dL_open_19 : decode cL_open 19 = .ok (.ireturn, 1) := by decide +kernel
theorem dL_open_20 : decode cL_open 20 = .ok (.astore 6, 2) := by decide +kernel
theorem dL_open_22 : decode cL_open 22 = .ok (.iconst 2, 1) := by decide +kernel
theorem dL_open_23 : decode cL_open 23 = .ok (.ireturn, 1) := by decide +kernel
theorem dL_open_24 : decode cL_open 24 = .ok (.iconst 0, 1) := by decide +kernel
theorem dL_open_25 : decode cL_open 25 = .ok (.ireturn, 1) := by decide +kernel
set_option maxRecDepth 100000 in
set_option maxHeartbeats 4000000 in
theorem w_unseal (l : Launch) (hL : noTr l) (D : va_G) (ad : Nat → Nat) (S : Sc) (hI : IB S) (ao : Nat) (tj : Nat → Int64) (p : Int32) (x : BitVec 64) (h : Int32) : vMW l D yL_open cL_open 7 (some .int) [(0, 13, 16, 13), (0, 13, 20, 15)] { frames := 8, cells := 1, slots := 6, locals := 169 } [.ref (ad 0), .int p, .long (xL x), .int h, .ref ao] ((ao, aJ D 1 tj) :: BW D ad S) (fun r ws' => ∃ (S' : Sc) (c : Nat) (a : Int32) (tj' : Nat → Int64), ws' = (ao, aJ D 1 tj') :: BW D ad S' ∧ r = some (.int (nI c)) ∧ RF_unseal S.k p x h S'.k c a ∧ (c = 0 → tj' 0 = a.toInt64) ∧ IB S') := by
  refine vMW.of (by decide) (Nat.le_of_ble_eq_true rfl) (fun C hCl hCD hT hNA g R => ?_)
  subst hCl; subst hCD
  show VJ C 0 0 0 [(0, .ref (ad 0)), (1, .int p), (2, .long (xL x)), (4, .int h), (5, .ref ao)] [] ((ao, aJ C.D 1 tj) :: BW C.D ad S)
  refine v_aload g dL_open_0 4 rfl ?_
  refine v_iconst g dL_open_2 (v := nI 0) (by decide +kernel) ?_
  refine v_aload_n g dL_open_3 0 rfl 0 rfl ?_
  refine v_iload_n g dL_open_4 1 rfl 1 rfl ?_
  refine v_lload_n g dL_open_5 2 rfl 2 rfl ?_
  refine v_iload g dL_open_6 3 rfl ?_
  rcases cl_bad p (N := 4) (by decide) with h0 | ⟨g1, rfl, h1⟩
  · skip
    refine v_callVC0 (As := [.int p, .long (xL x), .int h]) (rest := [.int (nI 0), .ref ao]) cw_L_50 (hy_X7_open) g (vMX.frameL (bx_unseal1 C.l hL C.D ad S hI p x h h0) [(ao, aJ C.D 1 tj)]) dL_open_8 1 rfl rfl rfl (by decide) (by decide) (Nat.le_of_ble_eq_true rfl) _ rfl [] ⟨0, 13, 16, 13⟩ [⟨0, 13, 20, 15⟩] (hT.trans rfl) (fun _ h => absurd h List.not_mem_nil) (by decide) (by decide) lk_13 ck_13 (fun ev => ?_)
    show VJ C 1 6 16 [(0, .ref (ad 0)), (1, .int p), (2, .long (xL x)), (4, .int h), (5, .ref ao)] [.ref ev] (((ao, aJ C.D 1 tj) :: BW C.D ad S))
    refine v_astore g [(6, .ref ev), (0, .ref (ad 0)), (1, .int p), (2, .long (xL x)), (4, .int h), (5, .ref ao)] dL_open_16 (by decide) rfl ?_
    refine v_iconst g dL_open_18 (v := nI 1) (by decide +kernel) ?_
    exact v_iret g R dL_open_19 (by decide) (by decide) ⟨S, 1, 0, tj, rfl, rfl, Or.inl ⟨rfl, h0, rfl⟩, (fun h => absurd h (by decide)), hI⟩
  · skip
    by_cases h2 : xL x < 0
    · skip
      refine v_callVC0 (As := [.int (nI g1), .long (xL x), .int h]) (rest := [.int (nI 0), .ref ao]) cw_L_50 (hy_X7_open) g (vMX.frameL (bx_unseal2 C.l hL C.D ad S hI g1 x h h1 h2) [(ao, aJ C.D 1 tj)]) dL_open_8 1 rfl rfl rfl (by decide) (by decide) (Nat.le_of_ble_eq_true rfl) _ rfl [] ⟨0, 13, 16, 13⟩ [⟨0, 13, 20, 15⟩] (hT.trans rfl) (fun _ h => absurd h List.not_mem_nil) (by decide) (by decide) lk_13 ck_13 (fun ev => ?_)
      show VJ C 1 6 16 [(0, .ref (ad 0)), (1, .int (nI g1)), (2, .long (xL x)), (4, .int h), (5, .ref ao)] [.ref ev] (((ao, aJ C.D 1 tj) :: BW C.D ad S))
      refine v_astore g [(6, .ref ev), (0, .ref (ad 0)), (1, .int (nI g1)), (2, .long (xL x)), (4, .int h), (5, .ref ao)] dL_open_16 (by decide) rfl ?_
      refine v_iconst g dL_open_18 (v := nI 1) (by decide +kernel) ?_
      exact v_iret g R dL_open_19 (by decide) (by decide) ⟨S, 1, 0, tj, rfl, rfl, Or.inr ⟨g1, rfl, h1, Or.inl ⟨rfl, h2, rfl⟩⟩, (fun h => absurd h (by decide)), hI⟩
    · skip
      rcases cl_sub0 h (T := S.k.tn) (k := 16) (by have := hI.1.1; omega) (by decide) with h0 | ⟨n, rfl, h3⟩
      · skip
        refine v_callVC0 (As := [.int (nI g1), .long (xL x), .int h]) (rest := [.int (nI 0), .ref ao]) cw_L_50 (hy_X7_open) g (vMX.frameL (bx_unseal3 C.l hL C.D ad S hI g1 x h h1 h2 h0) [(ao, aJ C.D 1 tj)]) dL_open_8 1 rfl rfl rfl (by decide) (by decide) (Nat.le_of_ble_eq_true rfl) _ rfl [] ⟨0, 13, 16, 13⟩ [⟨0, 13, 20, 15⟩] (hT.trans rfl) (fun _ h => absurd h List.not_mem_nil) (by decide) (by decide) lk_13 ck_13 (fun ev => ?_)
        show VJ C 1 6 16 [(0, .ref (ad 0)), (1, .int (nI g1)), (2, .long (xL x)), (4, .int h), (5, .ref ao)] [.ref ev] (((ao, aJ C.D 1 tj) :: BW C.D ad S))
        refine v_astore g [(6, .ref ev), (0, .ref (ad 0)), (1, .int (nI g1)), (2, .long (xL x)), (4, .int h), (5, .ref ao)] dL_open_16 (by decide) rfl ?_
        refine v_iconst g dL_open_18 (v := nI 1) (by decide +kernel) ?_
        exact v_iret g R dL_open_19 (by decide) (by decide) ⟨S, 1, 0, tj, rfl, rfl, Or.inr ⟨g1, rfl, h1, Or.inr ⟨h2, Or.inl ⟨rfl, h0, rfl⟩⟩⟩, (fun h => absurd h (by decide)), hI⟩
      · skip
        by_cases h4 : S.k.gp g1 = NA
        · skip
          refine v_callVC0 (As := [.int (nI g1), .long (xL x), .int (nI n)]) (rest := [.int (nI 0), .ref ao]) cw_L_50 (hy_X7_open) g (vMX.frameL (bx_unseal4 C.l hL C.D ad S hI g1 x n h1 h2 h3 h4) [(ao, aJ C.D 1 tj)]) dL_open_8 1 rfl rfl rfl (by decide) (by decide) (Nat.le_of_ble_eq_true rfl) _ rfl [⟨0, 13, 16, 13⟩] ⟨0, 13, 20, 15⟩ [] (hT.trans rfl) (fun y hy => by rw [List.mem_singleton.mp hy]; exact ⟨by decide, _, lk_13, hNA.to (Vm.Alike.refl _) _⟩) (by decide) (by decide) lk_15 ck_15 (fun ev => ?_)
          show VJ C 1 6 20 [(0, .ref (ad 0)), (1, .int (nI g1)), (2, .long (xL x)), (4, .int (nI n)), (5, .ref ao)] [.ref ev] (((ao, aJ C.D 1 tj) :: BW C.D ad S))
          refine v_astore g [(6, .ref ev), (0, .ref (ad 0)), (1, .int (nI g1)), (2, .long (xL x)), (4, .int (nI n)), (5, .ref ao)] dL_open_20 (by decide) rfl ?_
          refine v_iconst g dL_open_22 (v := nI 2) (by decide +kernel) ?_
          exact v_iret g R dL_open_23 (by decide) (by decide) ⟨S, 2, 0, tj, rfl, rfl, Or.inr ⟨g1, rfl, h1, Or.inr ⟨h2, Or.inr ⟨n, rfl, h3, Or.inl ⟨rfl, h4, rfl⟩⟩⟩⟩, (fun h => absurd h (by decide)), hI⟩
        · skip
          refine v_callV0 (As := [.int (nI g1), .long (xL x), .int (nI n)]) (rest := [.int (nI 0), .ref ao]) cw_L_50 (hy_X7_open) g (vM.frameL (b_unseal C.l C.D ad S hI g1 x n h1 h4 h2 h3) [(ao, aJ C.D 1 tj)]) dL_open_8 1 rfl rfl rfl (by decide) (by decide) (Nat.le_of_ble_eq_true rfl) _ rfl (fun r wo h => ?_)
          obtain ⟨wo', ⟨S', rfl, an, rfl, hR, hI'⟩, rfl⟩ := h
          show VJ C 0 0 11 [(0, .ref (ad 0)), (1, .int (nI g1)), (2, .long (xL x)), (4, .int (nI n)), (5, .ref ao)] [.int an, .int (nI 0), .ref ao] ((ao, aJ C.D 1 tj) :: BW C.D ad S')
          refine v_i2l g dL_open_11 ?_
          refine v_lastJ g 0 (((ao, aJ C.D 1 (va_up tj 0 ((an).toInt64))) :: BW C.D ad S')) rfl (by decide) (by decide) dL_open_12 rfl ?_
          refine v_goto g 24 dL_open_13 (by decide) ?_
          refine v_iconst g dL_open_24 (v := nI 0) (by decide +kernel) ?_
          exact v_iret g R dL_open_25 (by decide) (by decide) ⟨S', 0, _, _, rfl, rfl, Or.inr ⟨g1, rfl, h1, Or.inr ⟨h2, Or.inr ⟨n, rfl, h3, Or.inr ⟨rfl, h4, hR⟩⟩⟩⟩, (fun _ => va_up_at _ _ _), hI'⟩
theorem dL_shield_0 : decode cL_shield 0 = .ok (.aload 4, 2) := by decide +kernel
theorem dL_shield_2 : decode cL_shield 2 = .ok (.iconst 0, 1) := by decide +kernel
theorem dL_shield_3 : decode cL_shield 3 = .ok (.aload_n 0, 1) := by decide +kernel
theorem dL_shield_4 : decode cL_shield 4 = .ok (.iload_n 1, 1) := by decide +kernel
theorem dL_shield_5 : decode cL_shield 5 = .ok (.iload_n 2, 1) := by decide +kernel
theorem dL_shield_6 : decode cL_shield 6 = .ok (.iload_n 3, 1) := by decide +kernel
theorem dL_shield_7 : decode cL_shield 7 = .ok (.invokevirtual 53, 3) := by decide +kernel
theorem dL_shield_10 : decode cL_shield 10 = .ok (.i2l, 1) := by decide +kernel
theorem dL_shield_11 : decode cL_shield 11 = .ok (.lastore, 1) := by decide +kernel
theorem dL_shield_12 : decode cL_shield 12 = .ok (.goto 11, 3) := by decide +kernel
theorem dL_shield_15 : decode cL_shield 15 = .ok (.astore 5, 2) := by decide +kernel
theorem dL_shield_17 : decode cL_shield 17 = .ok (.iconst 1, 1) := by decide +kernel
theorem dL_shield_18 : decode cL_shield 18 = .ok (.ireturn, 1) := by decide +kernel
theorem dL_shield_19 : decode cL_shield 19 = .ok (.astore 5, 2) := by decide +kernel
theorem dL_shield_21 : decode cL_shield 21 = .ok (.iconst 2, 1) := by decide +kernel
theorem dL_shield_22 : decode cL_shield 22 = .ok (.ireturn, 1) := by decide +kernel
theorem dL_shield_23 : decode cL_shield 23 = .ok (.iconst 0, 1) := by decide +kernel
theorem dL_shield_24 : decode cL_shield 24 = .ok (.ireturn, 1) := by decide +kernel
set_option maxRecDepth 100000 in
set_option maxHeartbeats 4000000 in
theorem w_shield (l : Launch) (hL : noTr l) (D : va_G) (ad : Nat → Nat) (S : Sc) (hI : IB S) (ao : Nat) (tj : Nat → Int64) (p q : Int32) (d : Nat) (hz : d < 2 ^ 31) : vMW l D yL_shield cL_shield 6 (some .int) [(0, 12, 15, 13), (0, 12, 19, 15)] { frames := 8, cells := 1, slots := 6, locals := 143 } [.ref (ad 0), .int p, .int q, .int (nI d), .ref ao] ((ao, aJ D 1 tj) :: BW D ad S) (fun r ws' => ∃ (S' : Sc) (c : Nat) (a : Int32) (tj' : Nat → Int64), ws' = (ao, aJ D 1 tj') :: BW D ad S' ∧ r = some (.int (nI c)) ∧ RF_shd S.k p q d S'.k c a ∧ (c = 0 → tj' 0 = a.toInt64) ∧ IB S') := by
  refine vMW.of (by decide) (Nat.le_of_ble_eq_true rfl) (fun C hCl hCD hT hNA g R => ?_)
  subst hCl; subst hCD
  show VJ C 0 0 0 [(0, .ref (ad 0)), (1, .int p), (2, .int q), (3, .int (nI d)), (4, .ref ao)] [] ((ao, aJ C.D 1 tj) :: BW C.D ad S)
  refine v_aload g dL_shield_0 4 rfl ?_
  refine v_iconst g dL_shield_2 (v := nI 0) (by decide +kernel) ?_
  refine v_aload_n g dL_shield_3 0 rfl 0 rfl ?_
  refine v_iload_n g dL_shield_4 1 rfl 1 rfl ?_
  refine v_iload_n g dL_shield_5 2 rfl 2 rfl ?_
  refine v_iload_n g dL_shield_6 3 rfl 3 rfl ?_
  rcases cl_bad p (N := 4) (by decide) with h0 | ⟨g1, rfl, h1⟩
  · skip
    refine v_callVC0 (As := [.int p, .int q, .int (nI d)]) (rest := [.int (nI 0), .ref ao]) cw_L_53 (hy_X7_shield) g (vMX.frameL (bx_shd1 C.l hL C.D ad S hI p q (nI d) h0) [(ao, aJ C.D 1 tj)]) dL_shield_7 1 rfl rfl rfl (by decide) (by decide) (Nat.le_of_ble_eq_true rfl) _ rfl [] ⟨0, 12, 15, 13⟩ [⟨0, 12, 19, 15⟩] (hT.trans rfl) (fun _ h => absurd h List.not_mem_nil) (by decide) (by decide) lk_13 ck_13 (fun ev => ?_)
    show VJ C 1 6 15 [(0, .ref (ad 0)), (1, .int p), (2, .int q), (3, .int (nI d)), (4, .ref ao)] [.ref ev] (((ao, aJ C.D 1 tj) :: BW C.D ad S))
    refine v_astore g [(5, .ref ev), (0, .ref (ad 0)), (1, .int p), (2, .int q), (3, .int (nI d)), (4, .ref ao)] dL_shield_15 (by decide) rfl ?_
    refine v_iconst g dL_shield_17 (v := nI 1) (by decide +kernel) ?_
    exact v_iret g R dL_shield_18 (by decide) (by decide) ⟨S, 1, 0, tj, rfl, rfl, Or.inl ⟨rfl, h0, rfl⟩, (fun h => absurd h (by decide)), hI⟩
  · skip
    rcases cl_sub q (A := 1) (T := S.k.tn) (k := 20) (by decide) (by have := hI.1.1; omega) (by decide) with h0 | ⟨n, rfl, h2, h3⟩
    · skip
      refine v_callVC0 (As := [.int (nI g1), .int q, .int (nI d)]) (rest := [.int (nI 0), .ref ao]) cw_L_53 (hy_X7_shield) g (vMX.frameL (bx_shd2 C.l hL C.D ad S hI g1 q (nI d) h1 h0) [(ao, aJ C.D 1 tj)]) dL_shield_7 1 rfl rfl rfl (by decide) (by decide) (Nat.le_of_ble_eq_true rfl) _ rfl [] ⟨0, 12, 15, 13⟩ [⟨0, 12, 19, 15⟩] (hT.trans rfl) (fun _ h => absurd h List.not_mem_nil) (by decide) (by decide) lk_13 ck_13 (fun ev => ?_)
      show VJ C 1 6 15 [(0, .ref (ad 0)), (1, .int (nI g1)), (2, .int q), (3, .int (nI d)), (4, .ref ao)] [.ref ev] (((ao, aJ C.D 1 tj) :: BW C.D ad S))
      refine v_astore g [(5, .ref ev), (0, .ref (ad 0)), (1, .int (nI g1)), (2, .int q), (3, .int (nI d)), (4, .ref ao)] dL_shield_15 (by decide) rfl ?_
      refine v_iconst g dL_shield_17 (v := nI 1) (by decide +kernel) ?_
      exact v_iret g R dL_shield_18 (by decide) (by decide) ⟨S, 1, 0, tj, rfl, rfl, Or.inr ⟨g1, rfl, h1, Or.inl ⟨rfl, h0, rfl⟩⟩, (fun h => absurd h (by decide)), hI⟩
    · skip
      by_cases h4 : S.k.gp g1 = NA
      · skip
        refine v_callVC0 (As := [.int (nI g1), .int (nI n), .int (nI d)]) (rest := [.int (nI 0), .ref ao]) cw_L_53 (hy_X7_shield) g (vMX.frameL (bx_shd3 C.l hL C.D ad S hI g1 n (nI d) h1 h2 h3 h4) [(ao, aJ C.D 1 tj)]) dL_shield_7 1 rfl rfl rfl (by decide) (by decide) (Nat.le_of_ble_eq_true rfl) _ rfl [⟨0, 12, 15, 13⟩] ⟨0, 12, 19, 15⟩ [] (hT.trans rfl) (fun y hy => by rw [List.mem_singleton.mp hy]; exact ⟨by decide, _, lk_13, hNA.to (Vm.Alike.refl _) _⟩) (by decide) (by decide) lk_15 ck_15 (fun ev => ?_)
        show VJ C 1 6 19 [(0, .ref (ad 0)), (1, .int (nI g1)), (2, .int (nI n)), (3, .int (nI d)), (4, .ref ao)] [.ref ev] (((ao, aJ C.D 1 tj) :: BW C.D ad S))
        refine v_astore g [(5, .ref ev), (0, .ref (ad 0)), (1, .int (nI g1)), (2, .int (nI n)), (3, .int (nI d)), (4, .ref ao)] dL_shield_19 (by decide) rfl ?_
        refine v_iconst g dL_shield_21 (v := nI 2) (by decide +kernel) ?_
        exact v_iret g R dL_shield_22 (by decide) (by decide) ⟨S, 2, 0, tj, rfl, rfl, Or.inr ⟨g1, rfl, h1, Or.inr ⟨n, rfl, h2, h3, Or.inl ⟨rfl, h4, rfl⟩⟩⟩, (fun h => absurd h (by decide)), hI⟩
      · skip
        refine v_callV0 (As := [.int (nI g1), .int (nI n), .int (nI d)]) (rest := [.int (nI 0), .ref ao]) cw_L_53 (hy_X7_shield) g (vM.frameL (b_shield C.l C.D ad S hI g1 n d h1 h4 h2 h3 hz) [(ao, aJ C.D 1 tj)]) dL_shield_7 1 rfl rfl rfl (by decide) (by decide) (Nat.le_of_ble_eq_true rfl) _ rfl (fun r wo h => ?_)
        obtain ⟨wo', ⟨S', rfl, rfl, hR, hI'⟩, rfl⟩ := h
        show VJ C 0 0 10 [(0, .ref (ad 0)), (1, .int (nI g1)), (2, .int (nI n)), (3, .int (nI d)), (4, .ref ao)] [.int (nI (hdN (S.k.gh g1) S.k.tt n d)), .int (nI 0), .ref ao] ((ao, aJ C.D 1 tj) :: BW C.D ad S')
        refine v_i2l g dL_shield_10 ?_
        refine v_lastJ g 0 (((ao, aJ C.D 1 (va_up tj 0 ((nI (hdN (S.k.gh g1) S.k.tt n d)).toInt64))) :: BW C.D ad S')) rfl (by decide) (by decide) dL_shield_11 rfl ?_
        refine v_goto g 23 dL_shield_12 (by decide) ?_
        refine v_iconst g dL_shield_23 (v := nI 0) (by decide +kernel) ?_
        exact v_iret g R dL_shield_24 (by decide) (by decide) ⟨S', 0, _, _, rfl, rfl, Or.inr ⟨g1, rfl, h1, Or.inr ⟨n, rfl, h2, h3, Or.inr ⟨rfl, h4, hR, rfl⟩⟩⟩, (fun _ => va_up_at _ _ _), hI'⟩
theorem dL_out_0 : decode cL_out 0 = .ok (.aload_n 2, 1) := by decide +kernel
theorem dL_out_1 : decode cL_out 1 = .ok (.iconst 0, 1) := by decide +kernel
theorem dL_out_2 : decode cL_out 2 = .ok (.aload_n 0, 1) := by decide +kernel
theorem dL_out_3 : decode cL_out 3 = .ok (.iload_n 1, 1) := by decide +kernel
theorem dL_out_4 : decode cL_out 4 = .ok (.invokevirtual 57, 3) := by decide +kernel
theorem dL_out_7 : decode cL_out 7 = .ok (.i2l, 1) := by decide +kernel
theorem dL_out_8 : decode cL_out 8 = .ok (.lastore, 1) := by decide +kernel
theorem dL_out_9 : decode cL_out 9 = .ok (.goto 6, 3) := by decide +kernel
theorem dL_out_12 : decode cL_out 12 = .ok (.astore_n 3, 1) := by decide +kernel
theorem dL_out_13 : decode cL_out 13 = .ok (.iconst 1, 1) := by decide +kernel
theorem dL_out_14 : decode cL_out 14 = .ok (.ireturn, 1) := by decide +kernel
theorem dL_out_15 : decode cL_out 15 = .ok (.iconst 0, 1) := by decide +kernel
theorem dL_out_16 : decode cL_out 16 = .ok (.ireturn, 1) := by decide +kernel
set_option maxRecDepth 100000 in
set_option maxHeartbeats 4000000 in
theorem w_get (l : Launch) (hL : noTr l) (D : va_G) (ad : Nat → Nat) (S : Sc) (hI : IB S) (ao : Nat) (tj : Nat → Int64) (p : Int32) : vMW l D yL_out cL_out 4 (some .int) [(0, 9, 12, 60)] { frames := 8, cells := 1, slots := 6, locals := 124 } [.ref (ad 0), .int p, .ref ao] ((ao, aJ D 1 tj) :: BW D ad S) (fun r ws' => ∃ (S' : Sc) (c : Nat) (a : Int32) (tj' : Nat → Int64), ws' = (ao, aJ D 1 tj') :: BW D ad S' ∧ r = some (.int (nI c)) ∧ RF_get S.k p S'.k c a ∧ (c = 0 → tj' 0 = a.toInt64) ∧ IB S') := by
  refine vMW.of (by decide) (Nat.le_of_ble_eq_true rfl) (fun C hCl hCD hT hNA g R => ?_)
  subst hCl; subst hCD
  show VJ C 0 0 0 [(0, .ref (ad 0)), (1, .int p), (2, .ref ao)] [] ((ao, aJ C.D 1 tj) :: BW C.D ad S)
  refine v_aload_n g dL_out_0 2 rfl 2 rfl ?_
  refine v_iconst g dL_out_1 (v := nI 0) (by decide +kernel) ?_
  refine v_aload_n g dL_out_2 0 rfl 0 rfl ?_
  refine v_iload_n g dL_out_3 1 rfl 1 rfl ?_
  rcases cl_bad p (N := S.k.on) (by have := hI.1.2.1; omega) with h | ⟨i, rfl, h1⟩
  · skip
    refine v_callVC0 (As := [.int p]) (rest := [.int (nI 0), .ref ao]) cw_L_57 (hy_X7_out) g (vMX.frameL (bx_out C.l hL C.D ad S hI p h) [(ao, aJ C.D 1 tj)]) dL_out_4 1 rfl rfl rfl (by decide) (by decide) (Nat.le_of_ble_eq_true rfl) _ rfl [] ⟨0, 9, 12, 60⟩ [] (hT.trans rfl) (fun _ h => absurd h List.not_mem_nil) (by decide) (by decide) lk_60 ck_60 (fun ev => ?_)
    show VJ C 1 6 12 [(0, .ref (ad 0)), (1, .int p), (2, .ref ao)] [.ref ev] (((ao, aJ C.D 1 tj) :: BW C.D ad S))
    refine v_astore_n g [(3, .ref ev), (0, .ref (ad 0)), (1, .int p), (2, .ref ao)] dL_out_12 3 rfl (by decide) rfl ?_
    refine v_iconst g dL_out_13 (v := nI 1) (by decide +kernel) ?_
    exact v_iret g R dL_out_14 (by decide) (by decide) ⟨S, 1, 0, tj, rfl, rfl, Or.inl ⟨rfl, h, rfl⟩, (fun h => absurd h (by decide)), hI⟩
  · skip
    refine v_callV0 (As := [.int (nI i)]) (rest := [.int (nI 0), .ref ao]) cw_L_57 (hy_X7_out) g (vM.frameL (b_out C.l C.D ad S hI i h1) [(ao, aJ C.D 1 tj)]) dL_out_4 1 rfl rfl rfl (by decide) (by decide) (Nat.le_of_ble_eq_true rfl) _ rfl (fun r wo h => ?_)
    obtain ⟨wo', ⟨S', rfl, rfl, hR, hI'⟩, rfl⟩ := h
    show VJ C 0 0 7 [(0, .ref (ad 0)), (1, .int (nI i)), (2, .ref ao)] [.int (nI ((S.k.ot i).toNat)), .int (nI 0), .ref ao] ((ao, aJ C.D 1 tj) :: BW C.D ad S')
    refine v_i2l g dL_out_7 ?_
    refine v_lastJ g 0 (((ao, aJ C.D 1 (va_up tj 0 ((nI ((S.k.ot i).toNat)).toInt64))) :: BW C.D ad S')) rfl (by decide) (by decide) dL_out_8 rfl ?_
    refine v_goto g 15 dL_out_9 (by decide) ?_
    refine v_iconst g dL_out_15 (v := nI 0) (by decide +kernel) ?_
    exact v_iret g R dL_out_16 (by decide) (by decide) ⟨S', 0, _, _, rfl, rfl, Or.inr ⟨i, rfl, h1, rfl, hR, rfl⟩, (fun _ => va_up_at _ _ _), hI'⟩
theorem dL_outs_0 : decode cL_outs 0 = .ok (.aload_n 2, 1) := by decide +kernel
theorem dL_outs_1 : decode cL_outs 1 = .ok (.iconst 0, 1) := by decide +kernel
theorem dL_outs_2 : decode cL_outs 2 = .ok (.aload_n 0, 1) := by decide +kernel
theorem dL_outs_3 : decode cL_outs 3 = .ok (.iload_n 1, 1) := by decide +kernel
theorem dL_outs_4 : decode cL_outs 4 = .ok (.invokevirtual 62, 3) := by decide +kernel
theorem dL_outs_7 : decode cL_outs 7 = .ok (.lastore, 1) := by decide +kernel
theorem dL_outs_8 : decode cL_outs 8 = .ok (.goto 6, 3) := by decide +kernel
theorem dL_outs_11 : decode cL_outs 11 = .ok (.astore_n 3, 1) := by decide +kernel
theorem dL_outs_12 : decode cL_outs 12 = .ok (.iconst 1, 1) := by decide +kernel
theorem dL_outs_13 : decode cL_outs 13 = .ok (.ireturn, 1) := by decide +kernel
theorem dL_outs_14 : decode cL_outs 14 = .ok (.iconst 0, 1) := by decide +kernel
theorem dL_outs_15 : decode cL_outs 15 = .ok (.ireturn, 1) := by decide +kernel
set_option maxRecDepth 100000 in
set_option maxHeartbeats 4000000 in
theorem w_outs (l : Launch) (hL : noTr l) (D : va_G) (ad : Nat → Nat) (S : Sc) (hI : IB S) (ao : Nat) (tj : Nat → Int64) (p : Int32) : vMW l D yL_outs cL_outs 4 (some .int) [(0, 8, 11, 60)] { frames := 8, cells := 1, slots := 6, locals := 128 } [.ref (ad 0), .int p, .ref ao] ((ao, aJ D 1 tj) :: BW D ad S) (fun r ws' => ∃ (S' : Sc) (c : Nat) (a : Int64) (tj' : Nat → Int64), ws' = (ao, aJ D 1 tj') :: BW D ad S' ∧ r = some (.int (nI c)) ∧ RF_outs S.k p S'.k c a ∧ (c = 0 → tj' 0 = a) ∧ IB S') := by
  refine vMW.of (by decide) (Nat.le_of_ble_eq_true rfl) (fun C hCl hCD hT hNA g R => ?_)
  subst hCl; subst hCD
  show VJ C 0 0 0 [(0, .ref (ad 0)), (1, .int p), (2, .ref ao)] [] ((ao, aJ C.D 1 tj) :: BW C.D ad S)
  refine v_aload_n g dL_outs_0 2 rfl 2 rfl ?_
  refine v_iconst g dL_outs_1 (v := nI 0) (by decide +kernel) ?_
  refine v_aload_n g dL_outs_2 0 rfl 0 rfl ?_
  refine v_iload_n g dL_outs_3 1 rfl 1 rfl ?_
  rcases cl_bad p (N := S.k.on) (by have := hI.1.2.1; omega) with h | ⟨i, rfl, h1⟩
  · skip
    refine v_callVC0 (As := [.int p]) (rest := [.int (nI 0), .ref ao]) cw_L_62 (hy_X7_outs) g (vMX.frameL (bx_outs C.l hL C.D ad S hI p h) [(ao, aJ C.D 1 tj)]) dL_outs_4 1 rfl rfl rfl (by decide) (by decide) (Nat.le_of_ble_eq_true rfl) _ rfl [] ⟨0, 8, 11, 60⟩ [] (hT.trans rfl) (fun _ h => absurd h List.not_mem_nil) (by decide) (by decide) lk_60 ck_60 (fun ev => ?_)
    show VJ C 1 6 11 [(0, .ref (ad 0)), (1, .int p), (2, .ref ao)] [.ref ev] (((ao, aJ C.D 1 tj) :: BW C.D ad S))
    refine v_astore_n g [(3, .ref ev), (0, .ref (ad 0)), (1, .int p), (2, .ref ao)] dL_outs_11 3 rfl (by decide) rfl ?_
    refine v_iconst g dL_outs_12 (v := nI 1) (by decide +kernel) ?_
    exact v_iret g R dL_outs_13 (by decide) (by decide) ⟨S, 1, 0, tj, rfl, rfl, Or.inl ⟨rfl, h, rfl⟩, (fun h => absurd h (by decide)), hI⟩
  · skip
    refine v_callV0 (As := [.int (nI i)]) (rest := [.int (nI 0), .ref ao]) cw_L_62 (hy_X7_outs) g (vM.frameL (b_outs C.l C.D ad S hI i h1) [(ao, aJ C.D 1 tj)]) dL_outs_4 1 rfl rfl rfl (by decide) (by decide) (Nat.le_of_ble_eq_true rfl) _ rfl (fun r wo h => ?_)
    obtain ⟨wo', ⟨S', rfl, rfl, hR, hI'⟩, rfl⟩ := h
    show VJ C 0 0 7 [(0, .ref (ad 0)), (1, .int (nI i)), (2, .ref ao)] [.long (xL (ouF S.k.ot i (min 8 (S.k.on - i)))), .int (nI 0), .ref ao] ((ao, aJ C.D 1 tj) :: BW C.D ad S')
    refine v_lastJ g 0 (((ao, aJ C.D 1 (va_up tj 0 (xL (ouF S.k.ot i (min 8 (S.k.on - i)))))) :: BW C.D ad S')) rfl (by decide) (by decide) dL_outs_7 rfl ?_
    refine v_goto g 14 dL_outs_8 (by decide) ?_
    refine v_iconst g dL_outs_14 (v := nI 0) (by decide +kernel) ?_
    exact v_iret g R dL_outs_15 (by decide) (by decide) ⟨S', 0, _, _, rfl, rfl, Or.inr ⟨i, rfl, h1, rfl, hR, rfl⟩, (fun _ => va_up_at _ _ _), hI'⟩
theorem dL_look_0 : decode cL_look 0 = .ok (.aload_n 2, 1) := by decide +kernel
theorem dL_look_1 : decode cL_look 1 = .ok (.iconst 0, 1) := by decide +kernel
theorem dL_look_2 : decode cL_look 2 = .ok (.aload_n 0, 1) := by decide +kernel
theorem dL_look_3 : decode cL_look 3 = .ok (.iload_n 1, 1) := by decide +kernel
theorem dL_look_4 : decode cL_look 4 = .ok (.invokevirtual 66, 3) := by decide +kernel
theorem dL_look_7 : decode cL_look 7 = .ok (.i2l, 1) := by decide +kernel
theorem dL_look_8 : decode cL_look 8 = .ok (.lastore, 1) := by decide +kernel
theorem dL_look_9 : decode cL_look 9 = .ok (.goto 6, 3) := by decide +kernel
theorem dL_look_12 : decode cL_look 12 = .ok (.astore_n 3, 1) := by decide +kernel
theorem dL_look_13 : decode cL_look 13 = .ok (.iconst 1, 1) := by decide +kernel
theorem dL_look_14 : decode cL_look 14 = .ok (.ireturn, 1) := by decide +kernel
theorem dL_look_15 : decode cL_look 15 = .ok (.iconst 0, 1) := by decide +kernel
theorem dL_look_16 : decode cL_look 16 = .ok (.ireturn, 1) := by decide +kernel
set_option maxRecDepth 100000 in
set_option maxHeartbeats 4000000 in
theorem w_look (l : Launch) (hL : noTr l) (D : va_G) (ad : Nat → Nat) (S : Sc) (hI : IB S) (ao : Nat) (tj : Nat → Int64) (p : Int32) : vMW l D yL_look cL_look 4 (some .int) [(0, 9, 12, 60)] { frames := 7, cells := 1, slots := 6, locals := 103 } [.ref (ad 0), .int p, .ref ao] ((ao, aJ D 1 tj) :: BW D ad S) (fun r ws' => ∃ (S' : Sc) (c : Nat) (a : Int32) (tj' : Nat → Int64), ws' = (ao, aJ D 1 tj') :: BW D ad S' ∧ r = some (.int (nI c)) ∧ RF_look S.k p S'.k c a ∧ (c = 0 → tj' 0 = a.toInt64) ∧ IB S') := by
  refine vMW.of (by decide) (Nat.le_of_ble_eq_true rfl) (fun C hCl hCD hT hNA g R => ?_)
  subst hCl; subst hCD
  show VJ C 0 0 0 [(0, .ref (ad 0)), (1, .int p), (2, .ref ao)] [] ((ao, aJ C.D 1 tj) :: BW C.D ad S)
  refine v_aload_n g dL_look_0 2 rfl 2 rfl ?_
  refine v_iconst g dL_look_1 (v := nI 0) (by decide +kernel) ?_
  refine v_aload_n g dL_look_2 0 rfl 0 rfl ?_
  refine v_iload_n g dL_look_3 1 rfl 1 rfl ?_
  rcases cl_bad p (N := 14) (by decide) with h | ⟨i, rfl, h1⟩
  · skip
    refine v_callVC0 (As := [.int p]) (rest := [.int (nI 0), .ref ao]) cw_L_66 (hy_X7_look) g (vMX.frameL (bx_look C.l hL C.D ad S hI p h) [(ao, aJ C.D 1 tj)]) dL_look_4 1 rfl rfl rfl (by decide) (by decide) (Nat.le_of_ble_eq_true rfl) _ rfl [] ⟨0, 9, 12, 60⟩ [] (hT.trans rfl) (fun _ h => absurd h List.not_mem_nil) (by decide) (by decide) lk_60 ck_60 (fun ev => ?_)
    show VJ C 1 6 12 [(0, .ref (ad 0)), (1, .int p), (2, .ref ao)] [.ref ev] (((ao, aJ C.D 1 tj) :: BW C.D ad S))
    refine v_astore_n g [(3, .ref ev), (0, .ref (ad 0)), (1, .int p), (2, .ref ao)] dL_look_12 3 rfl (by decide) rfl ?_
    refine v_iconst g dL_look_13 (v := nI 1) (by decide +kernel) ?_
    exact v_iret g R dL_look_14 (by decide) (by decide) ⟨S, 1, 0, tj, rfl, rfl, Or.inl ⟨rfl, h, rfl⟩, (fun h => absurd h (by decide)), hI⟩
  · skip
    refine v_callV0 (As := [.int (nI i)]) (rest := [.int (nI 0), .ref ao]) cw_L_66 (hy_X7_look) g (vM.frameL (b_look C.l C.D ad S hI i h1) [(ao, aJ C.D 1 tj)]) dL_look_4 1 rfl rfl rfl (by decide) (by decide) (Nat.le_of_ble_eq_true rfl) _ rfl (fun r wo h => ?_)
    obtain ⟨wo', ⟨S', rfl, rfl, hR, hI'⟩, rfl⟩ := h
    show VJ C 0 0 7 [(0, .ref (ad 0)), (1, .int (nI i)), (2, .ref ao)] [.int (lookF S.k i), .int (nI 0), .ref ao] ((ao, aJ C.D 1 tj) :: BW C.D ad S')
    refine v_i2l g dL_look_7 ?_
    refine v_lastJ g 0 (((ao, aJ C.D 1 (va_up tj 0 ((lookF S.k i).toInt64))) :: BW C.D ad S')) rfl (by decide) (by decide) dL_look_8 rfl ?_
    refine v_goto g 15 dL_look_9 (by decide) ?_
    refine v_iconst g dL_look_15 (v := nI 0) (by decide +kernel) ?_
    exact v_iret g R dL_look_16 (by decide) (by decide) ⟨S', 0, _, _, rfl, rfl, Or.inr ⟨i, rfl, h1, rfl, hR, rfl⟩, (fun _ => va_up_at _ _ _), hI'⟩
