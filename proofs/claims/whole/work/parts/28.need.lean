theorem dX7_needSlot_0 : decode cX7_needSlot 0 = .ok (.iload_n 0, 1) := by decide +kernel
theorem dX7_needSlot_1 : decode cX7_needSlot 1 = .ok (.ifCond .lt 9, 3) := by decide +kernel
theorem dX7_needSlot_4 : decode cX7_needSlot 4 = .ok (.iload_n 0, 1) := by decide +kernel
theorem dX7_needSlot_5 : decode cX7_needSlot 5 = .ok (.bipush 8, 2) := by decide +kernel
theorem dX7_needSlot_7 : decode cX7_needSlot 7 = .ok (.if_icmp .lt 13, 3) := by decide +kernel
theorem dX7_needSlot_10 : decode cX7_needSlot 10 = .ok (.new 74, 3) := by decide +kernel
theorem dX7_needSlot_13 : decode cX7_needSlot 13 = .ok (.dup, 1) := by decide +kernel
theorem dX7_needSlot_14 : decode cX7_needSlot 14 = .ok (.ldc 221, 2) := by decide +kernel
theorem dX7_needSlot_16 : decode cX7_needSlot 16 = .ok (.invokespecial 78, 3) := by decide +kernel
theorem dX7_needSlot_19 : decode cX7_needSlot 19 = .ok (.athrow, 1) := by decide +kernel
theorem dX7_needSlot_20 : decode cX7_needSlot 20 = .ok (.return_, 1) := by decide +kernel
theorem dX7_needGuard_0 : decode cX7_needGuard 0 = .ok (.iload_n 0, 1) := by decide +kernel
theorem dX7_needGuard_1 : decode cX7_needGuard 1 = .ok (.ifCond .lt 8, 3) := by decide +kernel
theorem dX7_needGuard_4 : decode cX7_needGuard 4 = .ok (.iload_n 0, 1) := by decide +kernel
theorem dX7_needGuard_5 : decode cX7_needGuard 5 = .ok (.iconst 4, 1) := by decide +kernel
theorem dX7_needGuard_6 : decode cX7_needGuard 6 = .ok (.if_icmp .lt 13, 3) := by decide +kernel
theorem dX7_needGuard_9 : decode cX7_needGuard 9 = .ok (.new 74, 3) := by decide +kernel
theorem dX7_needGuard_12 : decode cX7_needGuard 12 = .ok (.dup, 1) := by decide +kernel
theorem dX7_needGuard_13 : decode cX7_needGuard 13 = .ok (.ldc 227, 2) := by decide +kernel
theorem dX7_needGuard_15 : decode cX7_needGuard 15 = .ok (.invokespecial 78, 3) := by decide +kernel
theorem dX7_needGuard_18 : decode cX7_needGuard 18 = .ok (.athrow, 1) := by decide +kernel
theorem dX7_needGuard_19 : decode cX7_needGuard 19 = .ok (.return_, 1) := by decide +kernel
theorem dX7_needMadeSize_0 : decode cX7_needMadeSize 0 = .ok (.iload_n 0, 1) := by decide +kernel
theorem dX7_needMadeSize_1 : decode cX7_needMadeSize 1 = .ok (.iconst 1, 1) := by decide +kernel
theorem dX7_needMadeSize_2 : decode cX7_needMadeSize 2 = .ok (.if_icmp .lt 10, 3) := by decide +kernel
theorem dX7_needMadeSize_5 : decode cX7_needMadeSize 5 = .ok (.iload_n 0, 1) := by decide +kernel
theorem dX7_needMadeSize_6 : decode cX7_needMadeSize 6 = .ok (.sipush 1024, 3) := by decide +kernel
theorem dX7_needMadeSize_9 : decode cX7_needMadeSize 9 = .ok (.if_icmp .le 13, 3) := by decide +kernel
theorem dX7_needMadeSize_12 : decode cX7_needMadeSize 12 = .ok (.new 74, 3) := by decide +kernel
theorem dX7_needMadeSize_15 : decode cX7_needMadeSize 15 = .ok (.dup, 1) := by decide +kernel
theorem dX7_needMadeSize_16 : decode cX7_needMadeSize 16 = .ok (.ldc 225, 2) := by decide +kernel
theorem dX7_needMadeSize_18 : decode cX7_needMadeSize 18 = .ok (.invokespecial 78, 3) := by decide +kernel
theorem dX7_needMadeSize_21 : decode cX7_needMadeSize 21 = .ok (.athrow, 1) := by decide +kernel
theorem dX7_needMadeSize_22 : decode cX7_needMadeSize 22 = .ok (.return_, 1) := by decide +kernel
theorem i_le_nlt {a b : Int32} (h : b ≤ a) : ¬ a < b := Int32.not_lt.mpr h
theorem i_lt_nle {a b : Int32} (h : b < a) : ¬ a ≤ b := Int32.not_le.mpr h
set_option maxHeartbeats 4000000 in
set_option maxRecDepth 100000 in
theorem c_needSlot (l : Launch) (D : va_G) (p0 : Nat)  (h0 : p0 < 8) : vM l D yX7_needSlot cX7_needSlot 1 none { frames := 0, cells := 0, slots := 0, locals := 0 } [.int (nI p0)] [] (fun r wo => r = none ∧ wo = []) := by
  refine vM.of (by decide) (Nat.le_of_ble_eq_true rfl) (fun C hCl hCD g R => ?_)
  subst hCl; subst hCD
  show VJ C 0 0 0 [(0, .int (nI p0))] [] []
  refine v_iload_n g dX7_needSlot_0 0 rfl 0 rfl ?_
  refine v_if_ltN g 10 dX7_needSlot_1 (by decide) (by omega) (fun h => h.elim) (fun _ => ?_)
  refine v_iload_n g dX7_needSlot_4 0 rfl 0 rfl ?_
  refine v_bipush g dX7_needSlot_5 (v := nI 8) (by decide +kernel) ?_
  refine v_icmp_ltN g 20 dX7_needSlot_7 (by decide) (by omega) (by omega) (fun _ => ?_) (fun h => absurd h (by omega))
  exact v_ret g R dX7_needSlot_20 (by decide) (by decide) ⟨rfl, rfl⟩
set_option maxHeartbeats 4000000 in
set_option maxRecDepth 100000 in
theorem c_needGuard (l : Launch) (D : va_G) (p0 : Nat)  (h0 : p0 < 4) : vM l D yX7_needGuard cX7_needGuard 1 none { frames := 0, cells := 0, slots := 0, locals := 0 } [.int (nI p0)] [] (fun r wo => r = none ∧ wo = []) := by
  refine vM.of (by decide) (Nat.le_of_ble_eq_true rfl) (fun C hCl hCD g R => ?_)
  subst hCl; subst hCD
  show VJ C 0 0 0 [(0, .int (nI p0))] [] []
  refine v_iload_n g dX7_needGuard_0 0 rfl 0 rfl ?_
  refine v_if_ltN g 9 dX7_needGuard_1 (by decide) (by omega) (fun h => h.elim) (fun _ => ?_)
  refine v_iload_n g dX7_needGuard_4 0 rfl 0 rfl ?_
  refine v_iconst g dX7_needGuard_5 (v := nI 4) (by decide +kernel) ?_
  refine v_icmp_ltN g 19 dX7_needGuard_6 (by decide) (by omega) (by omega) (fun _ => ?_) (fun h => absurd h (by omega))
  exact v_ret g R dX7_needGuard_19 (by decide) (by decide) ⟨rfl, rfl⟩
set_option maxHeartbeats 4000000 in
set_option maxRecDepth 100000 in
theorem x_needSlot (l : Launch) (hL : noTr l) (D : va_G) (p0 : Int32)  (h0 : p0 < 0 ∨ nI 8 ≤ p0) : vMX l D yX7_needSlot cX7_needSlot 1 none { frames := 6, cells := 1, slots := 6, locals := 82 } [.int p0] [] "java/lang/IllegalArgumentException" := by
  refine vMX.of (by decide) (Nat.le_of_ble_eq_true rfl) (fun C hCl hCD g R => ?_)
  subst hCl; subst hCD
  show VJ C 0 0 0 [(0, .int p0)] [] []
  refine v_iload_n g dX7_needSlot_0 0 rfl 0 rfl ?_
  refine v_if_lt g 10 dX7_needSlot_1 (by decide) (fun h1 => ?_) (fun h1 => ?_)
  · skip
    exact v_throw g hL R th_78 (List.mem_of_getElem? (i := 319) (by decide +kernel)) (List.mem_of_getElem? (i := 320) (by decide +kernel)) (List.mem_of_getElem? (i := 55) (by decide +kernel)) (by decide +kernel) (g.gx.2.2.2.2.2.1 (221, "no such slot") (by decide)) dX7_needSlot_10 dX7_needSlot_13 dX7_needSlot_14 dX7_needSlot_16 dX7_needSlot_19 (by decide) (by decide) (by decide) (by decide)
  · skip
    refine v_iload_n g dX7_needSlot_4 0 rfl 0 rfl ?_
    refine v_bipush g dX7_needSlot_5 (v := nI 8) (by decide +kernel) ?_
    refine v_icmp_lt g 20 dX7_needSlot_7 (by decide) (fun h2 => ?_) (fun h2 => ?_)
    · skip
      exact absurd h2 (h0.elim (fun q => absurd q h1) i_le_nlt)
    · skip
      exact v_throw g hL R th_78 (List.mem_of_getElem? (i := 319) (by decide +kernel)) (List.mem_of_getElem? (i := 320) (by decide +kernel)) (List.mem_of_getElem? (i := 55) (by decide +kernel)) (by decide +kernel) (g.gx.2.2.2.2.2.1 (221, "no such slot") (by decide)) dX7_needSlot_10 dX7_needSlot_13 dX7_needSlot_14 dX7_needSlot_16 dX7_needSlot_19 (by decide) (by decide) (by decide) (by decide)
set_option maxHeartbeats 4000000 in
set_option maxRecDepth 100000 in
theorem x_needGuard (l : Launch) (hL : noTr l) (D : va_G) (p0 : Int32)  (h0 : p0 < 0 ∨ nI 4 ≤ p0) : vMX l D yX7_needGuard cX7_needGuard 1 none { frames := 6, cells := 1, slots := 6, locals := 82 } [.int p0] [] "java/lang/IllegalArgumentException" := by
  refine vMX.of (by decide) (Nat.le_of_ble_eq_true rfl) (fun C hCl hCD g R => ?_)
  subst hCl; subst hCD
  show VJ C 0 0 0 [(0, .int p0)] [] []
  refine v_iload_n g dX7_needGuard_0 0 rfl 0 rfl ?_
  refine v_if_lt g 9 dX7_needGuard_1 (by decide) (fun h1 => ?_) (fun h1 => ?_)
  · skip
    exact v_throw g hL R th_78 (List.mem_of_getElem? (i := 319) (by decide +kernel)) (List.mem_of_getElem? (i := 320) (by decide +kernel)) (List.mem_of_getElem? (i := 55) (by decide +kernel)) (by decide +kernel) (g.gx.2.2.2.2.2.1 (227, "no such guard") (by decide)) dX7_needGuard_9 dX7_needGuard_12 dX7_needGuard_13 dX7_needGuard_15 dX7_needGuard_18 (by decide) (by decide) (by decide) (by decide)
  · skip
    refine v_iload_n g dX7_needGuard_4 0 rfl 0 rfl ?_
    refine v_iconst g dX7_needGuard_5 (v := nI 4) (by decide +kernel) ?_
    refine v_icmp_lt g 19 dX7_needGuard_6 (by decide) (fun h2 => ?_) (fun h2 => ?_)
    · skip
      exact absurd h2 (h0.elim (fun q => absurd q h1) i_le_nlt)
    · skip
      exact v_throw g hL R th_78 (List.mem_of_getElem? (i := 319) (by decide +kernel)) (List.mem_of_getElem? (i := 320) (by decide +kernel)) (List.mem_of_getElem? (i := 55) (by decide +kernel)) (by decide +kernel) (g.gx.2.2.2.2.2.1 (227, "no such guard") (by decide)) dX7_needGuard_9 dX7_needGuard_12 dX7_needGuard_13 dX7_needGuard_15 dX7_needGuard_18 (by decide) (by decide) (by decide) (by decide)
set_option maxHeartbeats 4000000 in
set_option maxRecDepth 100000 in
theorem c_needMade (l : Launch) (D : va_G) (p0 : Nat)  (h0 : 1 ≤ p0) (h1 : p0 ≤ 1024) : vM l D yX7_needMadeSize cX7_needMadeSize 1 none { frames := 0, cells := 0, slots := 0, locals := 0 } [.int (nI p0)] [] (fun r wo => r = none ∧ wo = []) := by
  refine vM.of (by decide) (Nat.le_of_ble_eq_true rfl) (fun C hCl hCD g R => ?_)
  subst hCl; subst hCD
  show VJ C 0 0 0 [(0, .int (nI p0))] [] []
  refine v_iload_n g dX7_needMadeSize_0 0 rfl 0 rfl ?_
  refine v_iconst g dX7_needMadeSize_1 (v := nI 1) (by decide +kernel) ?_
  refine v_icmp_ltN g 12 dX7_needMadeSize_2 (by decide) (by omega) (by omega) (fun h => absurd h (by omega)) (fun _ => ?_)
  refine v_iload_n g dX7_needMadeSize_5 0 rfl 0 rfl ?_
  refine v_sipush g dX7_needMadeSize_6 (v := nI 1024) (by decide +kernel) ?_
  refine v_icmp_leN g 22 dX7_needMadeSize_9 (by decide) (by omega) (by omega) (fun _ => ?_) (fun h => absurd h (by omega))
  exact v_ret g R dX7_needMadeSize_22 (by decide) (by decide) ⟨rfl, rfl⟩
set_option maxHeartbeats 4000000 in
set_option maxRecDepth 100000 in
theorem x_needMade (l : Launch) (hL : noTr l) (D : va_G) (p0 : Int32)  (h0 : p0 < nI 1 ∨ nI 1024 < p0) : vMX l D yX7_needMadeSize cX7_needMadeSize 1 none { frames := 6, cells := 1, slots := 6, locals := 82 } [.int p0] [] "java/lang/IllegalArgumentException" := by
  refine vMX.of (by decide) (Nat.le_of_ble_eq_true rfl) (fun C hCl hCD g R => ?_)
  subst hCl; subst hCD
  show VJ C 0 0 0 [(0, .int p0)] [] []
  refine v_iload_n g dX7_needMadeSize_0 0 rfl 0 rfl ?_
  refine v_iconst g dX7_needMadeSize_1 (v := nI 1) (by decide +kernel) ?_
  refine v_icmp_lt g 12 dX7_needMadeSize_2 (by decide) (fun h1 => ?_) (fun h1 => ?_)
  · skip
    exact v_throw g hL R th_78 (List.mem_of_getElem? (i := 319) (by decide +kernel)) (List.mem_of_getElem? (i := 320) (by decide +kernel)) (List.mem_of_getElem? (i := 55) (by decide +kernel)) (by decide +kernel) (g.gx.2.2.2.2.2.1 (225, "1 to 1024 bytes can be made") (by decide)) dX7_needMadeSize_12 dX7_needMadeSize_15 dX7_needMadeSize_16 dX7_needMadeSize_18 dX7_needMadeSize_21 (by decide) (by decide) (by decide) (by decide)
  · skip
    refine v_iload_n g dX7_needMadeSize_5 0 rfl 0 rfl ?_
    refine v_sipush g dX7_needMadeSize_6 (v := nI 1024) (by decide +kernel) ?_
    refine v_icmp_le g 22 dX7_needMadeSize_9 (by decide) (fun h2 => ?_) (fun h2 => ?_)
    · skip
      exact absurd h2 (h0.elim (fun q => absurd q h1) i_lt_nle)
    · skip
      exact v_throw g hL R th_78 (List.mem_of_getElem? (i := 319) (by decide +kernel)) (List.mem_of_getElem? (i := 320) (by decide +kernel)) (List.mem_of_getElem? (i := 55) (by decide +kernel)) (by decide +kernel) (g.gx.2.2.2.2.2.1 (225, "1 to 1024 bytes can be made") (by decide)) dX7_needMadeSize_12 dX7_needMadeSize_15 dX7_needMadeSize_16 dX7_needMadeSize_18 dX7_needMadeSize_21 (by decide) (by decide) (by decide) (by decide)
