/-! bytes of a number, a word of bytes, the least of two -/
def wb (t : Nat → By) (o n : Nat) (x : BitVec 64) : Nat → By := fun j => if o ≤ j ∧ j < o + n then (x >>> (8 * (j - o))).setWidth 8 else t j
theorem wb_0 (t : Nat → By) (o : Nat) (x : BitVec 64) : wb t o 0 x = t := by
  funext j
  unfold wb
  rw [if_neg (by omega)]
theorem wb_s (t : Nat → By) (o i : Nat) (x : BitVec 64) : va_up (wb t o i x) (o + i) (((x >>> (8 * i)).setWidth 32).setWidth 8) = wb t o (i + 1) x := by
  funext j
  unfold va_up wb
  by_cases h : j = o + i
  · rw [if_pos h, if_pos (by omega)]
    rw [show j - o = i by omega]
    rw [BitVec.setWidth_setWidth_of_le _ (by omega)]
  · rw [if_neg h]
    by_cases h2 : o ≤ j ∧ j < o + i
    · rw [if_pos h2, if_pos (by omega)]
    · rw [if_neg h2, if_neg (by omega)]
theorem up_lt {α : Type} {t t' F : Nat → α} {m : Nat} {v : α} (h : ∀ j, j < m → t j = F j) (hv : v = F m) (ht : t' = va_up t m v) : ∀ j, j < m + 1 → t' j = F j := by
  intro j hj
  rw [ht]
  unfold va_up
  by_cases e : j = m
  · rw [if_pos e, e, hv]
  · rw [if_neg e]; exact h j (by omega)
theorem dX7_readWord_0 : decode cX7_readWord 0 = .ok (.aload_n 0, 1) := by decide +kernel
theorem dX7_readWord_1 : decode cX7_readWord 1 = .ok (.iload_n 1, 1) := by decide +kernel
theorem dX7_readWord_2 : decode cX7_readWord 2 = .ok (.baload, 1) := by decide +kernel
theorem dX7_readWord_3 : decode cX7_readWord 3 = .ok (.sipush 255, 3) := by decide +kernel
theorem dX7_readWord_6 : decode cX7_readWord 6 = .ok (.iand, 1) := by decide +kernel
theorem dX7_readWord_7 : decode cX7_readWord 7 = .ok (.aload_n 0, 1) := by decide +kernel
theorem dX7_readWord_8 : decode cX7_readWord 8 = .ok (.iload_n 1, 1) := by decide +kernel
theorem dX7_readWord_9 : decode cX7_readWord 9 = .ok (.iconst 1, 1) := by decide +kernel
theorem dX7_readWord_10 : decode cX7_readWord 10 = .ok (.iadd, 1) := by decide +kernel
theorem dX7_readWord_11 : decode cX7_readWord 11 = .ok (.baload, 1) := by decide +kernel
theorem dX7_readWord_12 : decode cX7_readWord 12 = .ok (.sipush 255, 3) := by decide +kernel
theorem dX7_readWord_15 : decode cX7_readWord 15 = .ok (.iand, 1) := by decide +kernel
theorem dX7_readWord_16 : decode cX7_readWord 16 = .ok (.bipush 8, 2) := by decide +kernel
theorem dX7_readWord_18 : decode cX7_readWord 18 = .ok (.ishl, 1) := by decide +kernel
theorem dX7_readWord_19 : decode cX7_readWord 19 = .ok (.ior, 1) := by decide +kernel
theorem dX7_readWord_20 : decode cX7_readWord 20 = .ok (.aload_n 0, 1) := by decide +kernel
theorem dX7_readWord_21 : decode cX7_readWord 21 = .ok (.iload_n 1, 1) := by decide +kernel
theorem dX7_readWord_22 : decode cX7_readWord 22 = .ok (.iconst 2, 1) := by decide +kernel
theorem dX7_readWord_23 : decode cX7_readWord 23 = .ok (.iadd, 1) := by decide +kernel
theorem dX7_readWord_24 : decode cX7_readWord 24 = .ok (.baload, 1) := by decide +kernel
theorem dX7_readWord_25 : decode cX7_readWord 25 = .ok (.sipush 255, 3) := by decide +kernel
theorem dX7_readWord_28 : decode cX7_readWord 28 = .ok (.iand, 1) := by decide +kernel
theorem dX7_readWord_29 : decode cX7_readWord 29 = .ok (.bipush 16, 2) := by decide +kernel
theorem dX7_readWord_31 : decode cX7_readWord 31 = .ok (.ishl, 1) := by decide +kernel
theorem dX7_readWord_32 : decode cX7_readWord 32 = .ok (.ior, 1) := by decide +kernel
theorem dX7_readWord_33 : decode cX7_readWord 33 = .ok (.aload_n 0, 1) := by decide +kernel
theorem dX7_readWord_34 : decode cX7_readWord 34 = .ok (.iload_n 1, 1) := by decide +kernel
theorem dX7_readWord_35 : decode cX7_readWord 35 = .ok (.iconst 3, 1) := by decide +kernel
theorem dX7_readWord_36 : decode cX7_readWord 36 = .ok (.iadd, 1) := by decide +kernel
theorem dX7_readWord_37 : decode cX7_readWord 37 = .ok (.baload, 1) := by decide +kernel
theorem dX7_readWord_38 : decode cX7_readWord 38 = .ok (.sipush 255, 3) := by decide +kernel
theorem dX7_readWord_41 : decode cX7_readWord 41 = .ok (.iand, 1) := by decide +kernel
theorem dX7_readWord_42 : decode cX7_readWord 42 = .ok (.bipush 24, 2) := by decide +kernel
theorem dX7_readWord_44 : decode cX7_readWord 44 = .ok (.ishl, 1) := by decide +kernel
theorem dX7_readWord_45 : decode cX7_readWord 45 = .ok (.ior, 1) := by decide +kernel
theorem dX7_readWord_46 : decode cX7_readWord 46 = .ok (.ireturn, 1) := by decide +kernel
theorem dX7_writeBytes_0 : decode cX7_writeBytes 0 = .ok (.iconst 0, 1) := by decide +kernel
theorem dX7_writeBytes_1 : decode cX7_writeBytes 1 = .ok (.istore 5, 2) := by decide +kernel
theorem dX7_writeBytes_3 : decode cX7_writeBytes 3 = .ok (.iload 5, 2) := by decide +kernel
theorem dX7_writeBytes_5 : decode cX7_writeBytes 5 = .ok (.iload_n 2, 1) := by decide +kernel
theorem dX7_writeBytes_6 : decode cX7_writeBytes 6 = .ok (.if_icmp .ge 24, 3) := by decide +kernel
theorem dX7_writeBytes_9 : decode cX7_writeBytes 9 = .ok (.aload_n 0, 1) := by decide +kernel
theorem dX7_writeBytes_10 : decode cX7_writeBytes 10 = .ok (.iload_n 1, 1) := by decide +kernel
theorem dX7_writeBytes_11 : decode cX7_writeBytes 11 = .ok (.iload 5, 2) := by decide +kernel
theorem dX7_writeBytes_13 : decode cX7_writeBytes 13 = .ok (.iadd, 1) := by decide +kernel
theorem dX7_writeBytes_14 : decode cX7_writeBytes 14 = .ok (.lload_n 3, 1) := by decide +kernel
theorem dX7_writeBytes_15 : decode cX7_writeBytes 15 = .ok (.bipush 8, 2) := by decide +kernel
theorem dX7_writeBytes_17 : decode cX7_writeBytes 17 = .ok (.iload 5, 2) := by decide +kernel
theorem dX7_writeBytes_19 : decode cX7_writeBytes 19 = .ok (.imul, 1) := by decide +kernel
theorem dX7_writeBytes_20 : decode cX7_writeBytes 20 = .ok (.lushr, 1) := by decide +kernel
theorem dX7_writeBytes_21 : decode cX7_writeBytes 21 = .ok (.l2i, 1) := by decide +kernel
theorem dX7_writeBytes_22 : decode cX7_writeBytes 22 = .ok (.i2b, 1) := by decide +kernel
theorem dX7_writeBytes_23 : decode cX7_writeBytes 23 = .ok (.bastore, 1) := by decide +kernel
theorem dX7_writeBytes_24 : decode cX7_writeBytes 24 = .ok (.iinc 5 1, 3) := by decide +kernel
theorem dX7_writeBytes_27 : decode cX7_writeBytes 27 = .ok (.goto (-24), 3) := by decide +kernel
theorem dX7_writeBytes_30 : decode cX7_writeBytes 30 = .ok (.return_, 1) := by decide +kernel
set_option maxHeartbeats 4000000 in
set_option maxRecDepth 100000 in
theorem c_readWord (l : Launch) (D : va_G) (a0 : Nat) (p1 : Nat) (n0 : Nat) (t_a0 : Nat → By)  (h1 : p1 + 4 ≤ n0) (hn : n0 < 2 ^ 31) : vM l D yX7_readWord cX7_readWord 2 (some .int) { frames := 0, cells := 0, slots := 0, locals := 0 } [.ref a0, .int (nI p1)] [(a0, aB D n0 t_a0)] (fun r wo => r = some (.int (wI (le4 t_a0 p1))) ∧ wo = [(a0, aB D n0 t_a0)]) := by
  refine vM.of (by decide) (Nat.le_of_ble_eq_true rfl) (fun C hCl hCD g R => ?_)
  subst hCl; subst hCD
  show VJ C 0 0 0 [(0, .ref a0), (1, .int (nI p1))] [] [(a0, aB C.D n0 t_a0)]
  refine v_aload_n g dX7_readWord_0 0 rfl 0 rfl ?_
  refine v_iload_n g dX7_readWord_1 1 rfl 1 rfl ?_
  refine v_baldB g 0 rfl (by omega) (by omega) dX7_readWord_2 ?_
  refine v_sipush g dX7_readWord_3 (v := nI 255) (by decide +kernel) ?_
  refine v_iandB g dX7_readWord_6 ?_
  refine v_aload_n g dX7_readWord_7 0 rfl 0 rfl ?_
  refine v_iload_n g dX7_readWord_8 1 rfl 1 rfl ?_
  refine v_iconst g dX7_readWord_9 (v := nI 1) (by decide +kernel) ?_
  refine v_iaddN g dX7_readWord_10 ?_
  refine v_baldB g 0 rfl (by omega) (by omega) dX7_readWord_11 ?_
  refine v_sipush g dX7_readWord_12 (v := nI 255) (by decide +kernel) ?_
  refine v_iandB g dX7_readWord_15 ?_
  refine v_bipush g dX7_readWord_16 (v := nI 8) (by decide +kernel) ?_
  refine v_ishlW g ((t_a0 (p1 + 1)).setWidth 32) rfl (by omega) dX7_readWord_18 ?_
  refine v_iorW g ((t_a0 p1).setWidth 32) (((t_a0 (p1 + 1)).setWidth 32) <<< 8) rfl rfl dX7_readWord_19 ?_
  refine v_aload_n g dX7_readWord_20 0 rfl 0 rfl ?_
  refine v_iload_n g dX7_readWord_21 1 rfl 1 rfl ?_
  refine v_iconst g dX7_readWord_22 (v := nI 2) (by decide +kernel) ?_
  refine v_iaddN g dX7_readWord_23 ?_
  refine v_baldB g 0 rfl (by omega) (by omega) dX7_readWord_24 ?_
  refine v_sipush g dX7_readWord_25 (v := nI 255) (by decide +kernel) ?_
  refine v_iandB g dX7_readWord_28 ?_
  refine v_bipush g dX7_readWord_29 (v := nI 16) (by decide +kernel) ?_
  refine v_ishlW g ((t_a0 (p1 + 2)).setWidth 32) rfl (by omega) dX7_readWord_31 ?_
  refine v_iorW g (((t_a0 p1).setWidth 32) ||| (((t_a0 (p1 + 1)).setWidth 32) <<< 8)) (((t_a0 (p1 + 2)).setWidth 32) <<< 16) rfl rfl dX7_readWord_32 ?_
  refine v_aload_n g dX7_readWord_33 0 rfl 0 rfl ?_
  refine v_iload_n g dX7_readWord_34 1 rfl 1 rfl ?_
  refine v_iconst g dX7_readWord_35 (v := nI 3) (by decide +kernel) ?_
  refine v_iaddN g dX7_readWord_36 ?_
  refine v_baldB g 0 rfl (by omega) (by omega) dX7_readWord_37 ?_
  refine v_sipush g dX7_readWord_38 (v := nI 255) (by decide +kernel) ?_
  refine v_iandB g dX7_readWord_41 ?_
  refine v_bipush g dX7_readWord_42 (v := nI 24) (by decide +kernel) ?_
  refine v_ishlW g ((t_a0 (p1 + 3)).setWidth 32) rfl (by omega) dX7_readWord_44 ?_
  refine v_iorW g ((((t_a0 p1).setWidth 32) ||| (((t_a0 (p1 + 1)).setWidth 32) <<< 8)) ||| (((t_a0 (p1 + 2)).setWidth 32) <<< 16)) (((t_a0 (p1 + 3)).setWidth 32) <<< 24) rfl rfl dX7_readWord_45 ?_
  exact v_iret g R dX7_readWord_46 (by decide) (by decide) ⟨rfl, rfl⟩
set_option maxHeartbeats 4000000 in
set_option maxRecDepth 100000 in
theorem c_writeBytes (l : Launch) (D : va_G) (a0 : Nat) (p1 : Nat) (p2 : Nat) (p3 : BitVec 64) (n0 : Nat) (t_a0 : Nat → By)  (h1 : p1 + p2 ≤ n0) (h2 : p2 ≤ 8) (hn : n0 < 2 ^ 31) : vM l D yX7_writeBytes cX7_writeBytes 6 none { frames := 0, cells := 0, slots := 0, locals := 0 } [.ref a0, .int (nI p1), .int (nI p2), .long (xL p3)] [(a0, aB D n0 t_a0)] (fun r wo => r = none ∧ wo = [(a0, aB D n0 (wb t_a0 p1 p2 p3))]) := by
  refine vM.of (by decide) (Nat.le_of_ble_eq_true rfl) (fun C hCl hCD g R => ?_)
  subst hCl; subst hCD
  show VJ C 0 0 0 [(0, .ref a0), (1, .int (nI p1)), (2, .int (nI p2)), (3, .long (xL p3))] [] [(a0, aB C.D n0 t_a0)]
  refine v_iconst g dX7_writeBytes_0 (v := nI 0) (by decide +kernel) ?_
  refine v_istore g [(5, .int (nI 0)), (0, .ref a0), (1, .int (nI p1)), (2, .int (nI p2)), (3, .long (xL p3))] dX7_writeBytes_1 (by decide) rfl ?_
  have L3_0 : ∀ i : Nat, i ≤ p2 → ∀ (tt : Nat → By), (tt = wb t_a0 p1 i p3) → VJ C 0 0 3 [(5, .int (nI i)), (0, .ref a0), (1, .int (nI p1)), (2, .int (nI p2)), (3, .long (xL p3))] [] [(a0, aB C.D n0 tt)] := by
    refine v_for (p2) ?_ ?_
    · skip
      intro i hii ih tt hv0
      refine v_iload g dX7_writeBytes_3 0 rfl ?_
      refine v_iload_n g dX7_writeBytes_5 2 rfl 3 rfl ?_
      refine v_icmp_geN g 30 dX7_writeBytes_6 (by decide) (by omega) (by omega) (fun h1 => ?_) (fun h1 => ?_)
      · skip
        exact absurd h1 (by omega)
      · skip
        refine v_aload_n g dX7_writeBytes_9 0 rfl 1 rfl ?_
        refine v_iload_n g dX7_writeBytes_10 1 rfl 2 rfl ?_
        refine v_iload g dX7_writeBytes_11 0 rfl ?_
        refine v_iaddN g dX7_writeBytes_13 ?_
        refine v_lload_n g dX7_writeBytes_14 3 rfl 4 rfl ?_
        refine v_bipush g dX7_writeBytes_15 (v := nI 8) (by decide +kernel) ?_
        refine v_iload g dX7_writeBytes_17 0 rfl ?_
        refine v_imulN g dX7_writeBytes_19 ?_
        refine v_lushrX g (by omega) dX7_writeBytes_20 ?_
        refine v_l2iX g dX7_writeBytes_21 ?_
        refine v_i2bW g ((p3 >>> (8 * i)).setWidth 32) rfl dX7_writeBytes_22 ?_
        obtain ⟨t2, ht2⟩ : ∃ z : Nat → By, z = va_up tt (p1 + i) (((p3 >>> (8 * i)).setWidth 32).setWidth 8) := ⟨_, rfl⟩
        refine v_bastB g (((p3 >>> (8 * i)).setWidth 32).setWidth 8) rfl t2 ht2 0 [(a0, aB C.D n0 t2)] rfl (by omega) (by omega) dX7_writeBytes_23 rfl ?_
        refine v_iincN g 1 [(5, .int (nI (i + 1))), (0, .ref a0), (1, .int (nI p1)), (2, .int (nI p2)), (3, .long (xL p3))] dX7_writeBytes_24 0 rfl (by decide +kernel) (by decide) rfl ?_
        refine v_goto g 3 dX7_writeBytes_27 (by decide) ?_
        exact ih t2 (by rw [ht2, hv0]; exact wb_s t_a0 p1 i p3)
    · skip
      intro tt hv0
      refine v_iload g dX7_writeBytes_3 0 rfl ?_
      refine v_iload_n g dX7_writeBytes_5 2 rfl 3 rfl ?_
      refine v_icmp_geN g 30 dX7_writeBytes_6 (by decide) (by omega) (by omega) (fun h3 => ?_) (fun h3 => ?_)
      · skip
        rw [hv0]
        exact v_ret g R dX7_writeBytes_30 (by decide) (by decide) ⟨rfl, rfl⟩
      · skip
        exact absurd h3 (by omega)
  exact L3_0 0 (by omega) t_a0 ((wb_0 t_a0 p1 p3).symm)
