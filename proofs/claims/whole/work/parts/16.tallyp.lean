theorem dX6_put_0 : decode cX6_put 0 = .ok (.iconst 0, 1) := by decide +kernel
theorem dX6_put_1 : decode cX6_put 1 = .ok (.istore 5, 2) := by decide +kernel
theorem dX6_put_3 : decode cX6_put 3 = .ok (.iload 5, 2) := by decide +kernel
theorem dX6_put_5 : decode cX6_put 5 = .ok (.iload_n 3, 1) := by decide +kernel
theorem dX6_put_6 : decode cX6_put 6 = .ok (.if_icmp .ge 82, 3) := by decide +kernel
theorem dX6_put_9 : decode cX6_put 9 = .ok (.bipush 16, 2) := by decide +kernel
theorem dX6_put_11 : decode cX6_put 11 = .ok (.iload_n 3, 1) := by decide +kernel
theorem dX6_put_12 : decode cX6_put 12 = .ok (.iload 5, 2) := by decide +kernel
theorem dX6_put_14 : decode cX6_put 14 = .ok (.isub, 1) := by decide +kernel
theorem dX6_put_15 : decode cX6_put 15 = .ok (.invokestatic 44, 3) := by decide +kernel
theorem dX6_put_18 : decode cX6_put 18 = .ok (.istore 6, 2) := by decide +kernel
theorem dX6_put_20 : decode cX6_put 20 = .ok (.aload_n 1, 1) := by decide +kernel
theorem dX6_put_21 : decode cX6_put 21 = .ok (.iload_n 2, 1) := by decide +kernel
theorem dX6_put_22 : decode cX6_put 22 = .ok (.iload 5, 2) := by decide +kernel
theorem dX6_put_24 : decode cX6_put 24 = .ok (.iadd, 1) := by decide +kernel
theorem dX6_put_25 : decode cX6_put 25 = .ok (.aload_n 0, 1) := by decide +kernel
theorem dX6_put_26 : decode cX6_put 26 = .ok (.getfield 24, 3) := by decide +kernel
theorem dX6_put_29 : decode cX6_put 29 = .ok (.iconst 0, 1) := by decide +kernel
theorem dX6_put_30 : decode cX6_put 30 = .ok (.iload 6, 2) := by decide +kernel
theorem dX6_put_32 : decode cX6_put 32 = .ok (.invokestatic 28, 3) := by decide +kernel
theorem dX6_put_35 : decode cX6_put 35 = .ok (.iload 6, 2) := by decide +kernel
theorem dX6_put_37 : decode cX6_put 37 = .ok (.istore 7, 2) := by decide +kernel
theorem dX6_put_39 : decode cX6_put 39 = .ok (.iload 7, 2) := by decide +kernel
theorem dX6_put_41 : decode cX6_put 41 = .ok (.bipush 16, 2) := by decide +kernel
theorem dX6_put_43 : decode cX6_put 43 = .ok (.if_icmp .gt 17, 3) := by decide +kernel
theorem dX6_put_46 : decode cX6_put 46 = .ok (.aload_n 0, 1) := by decide +kernel
theorem dX6_put_47 : decode cX6_put 47 = .ok (.getfield 24, 3) := by decide +kernel
theorem dX6_put_50 : decode cX6_put 50 = .ok (.iload 7, 2) := by decide +kernel
theorem dX6_put_52 : decode cX6_put 52 = .ok (.iconst 0, 1) := by decide +kernel
theorem dX6_put_53 : decode cX6_put 53 = .ok (.bastore, 1) := by decide +kernel
theorem dX6_put_54 : decode cX6_put 54 = .ok (.iinc 7 1, 3) := by decide +kernel
theorem dX6_put_57 : decode cX6_put 57 = .ok (.goto (-18), 3) := by decide +kernel
theorem dX6_put_60 : decode cX6_put 60 = .ok (.aload_n 0, 1) := by decide +kernel
theorem dX6_put_61 : decode cX6_put 61 = .ok (.getfield 24, 3) := by decide +kernel
theorem dX6_put_64 : decode cX6_put 64 = .ok (.iload 4, 2) := by decide +kernel
theorem dX6_put_66 : decode cX6_put 66 = .ok (.ifCond .eq 8, 3) := by decide +kernel
theorem dX6_put_69 : decode cX6_put 69 = .ok (.bipush 16, 2) := by decide +kernel
theorem dX6_put_71 : decode cX6_put 71 = .ok (.goto 5, 3) := by decide +kernel
theorem dX6_put_74 : decode cX6_put 74 = .ok (.iload 6, 2) := by decide +kernel
theorem dX6_put_76 : decode cX6_put 76 = .ok (.iconst 1, 1) := by decide +kernel
theorem dX6_put_77 : decode cX6_put 77 = .ok (.bastore, 1) := by decide +kernel
theorem dX6_put_78 : decode cX6_put 78 = .ok (.aload_n 0, 1) := by decide +kernel
theorem dX6_put_79 : decode cX6_put 79 = .ok (.invokevirtual 50, 3) := by decide +kernel
theorem dX6_put_82 : decode cX6_put 82 = .ok (.iinc 5 16, 3) := by decide +kernel
theorem dX6_put_85 : decode cX6_put 85 = .ok (.goto (-82), 3) := by decide +kernel
theorem dX6_put_88 : decode cX6_put 88 = .ok (.return_, 1) := by decide +kernel
set_option maxHeartbeats 4000000 in
set_option maxRecDepth 100000 in
theorem c_TL_put (l : Launch) (D : va_G) (a0 : Nat) (a1 : Nat) (p2 : Nat) (p3 : Nat) (p4 : Nat) (a0_a : Nat) (a0_r : Nat) (a0_product : Nat) (a0_s : Nat) (a0_piece : Nat) (t_a0_piece : Nat → By) (n1 : Nat) (t_a1 : Nat → By) (x0 x1 x2 x3 x4 r0 r1 r2 r3 r4 q0 q1 q2 q3 q4 acc : Nat) (h0 : x0 < 2 ^ 26 + 5) (h1 : x1 < 2 ^ 26) (h2 : x2 < 2 ^ 26) (h3 : x3 < 2 ^ 26) (h4 : x4 < 2 ^ 26) (g0 : r0 < 2 ^ 26) (g1 : r1 < 2 ^ 26) (g2 : r2 < 2 ^ 26) (g3 : r3 < 2 ^ 26) (g4 : r4 < 2 ^ 26) (hA : val5 x0 x1 x2 x3 x4 % po_p = acc) (hb : p2 + p3 ≤ n1) (hz : p4 < 2 ^ 31) (hn : n1 < 2 ^ 30) : vM l D yX6_put cX6_put 8 none { frames := 3, cells := 0, slots := 0, locals := 66 } [.ref a0, .ref a1, .int (nI p2), .int (nI p3), .int (nI p4)] [(a0, .inr (6, [.ref a0_a, .ref a0_r, .ref a0_product, .ref a0_s, .ref a0_piece])), (a0_a, aL D 5 (v5 x0 x1 x2 x3 x4)), (a0_r, aL D 5 (v5 r0 r1 r2 r3 r4)), (a0_product, aL D 5 (v5 q0 q1 q2 q3 q4)), (a0_piece, aB D 17 t_a0_piece), (a1, aB D n1 t_a1)] (fun r wo => ∃ (z0 : Nat) (z1 : Nat) (z2 : Nat) (z3 : Nat) (z4 : Nat) (u0 : Nat) (u1 : Nat) (u2 : Nat) (u3 : Nat) (u4 : Nat) (b1 : Nat → By), r = none ∧ wo = [(a0, .inr (6, [.ref a0_a, .ref a0_r, .ref a0_product, .ref a0_s, .ref a0_piece])), (a0_a, aL D 5 (v5 z0 z1 z2 z3 z4)), (a0_r, aL D 5 (v5 r0 r1 r2 r3 r4)), (a0_product, aL D 5 (v5 u0 u1 u2 u3 u4)), (a0_piece, aB D 17 b1), (a1, aB D n1 t_a1)] ∧ (z0 < 2 ^ 26 + 5) ∧ (z1 < 2 ^ 26) ∧ (z2 < 2 ^ 26) ∧ (z3 < 2 ^ 26) ∧ (z4 < 2 ^ 26) ∧ (val5 z0 z1 z2 z3 z4 % po_p = po_it (val5 r0 r1 r2 r3 r4) t_a1 p2 p3 p4 acc ((p3 + 15) / 16))) := by
  refine vM.of (by decide) (Nat.le_of_ble_eq_true rfl) (fun C hCl hCD g R => ?_)
  subst hCl; subst hCD
  show VJ C 0 0 0 [(0, .ref a0), (1, .ref a1), (2, .int (nI p2)), (3, .int (nI p3)), (4, .int (nI p4))] [] [(a0, .inr (6, [.ref a0_a, .ref a0_r, .ref a0_product, .ref a0_s, .ref a0_piece])), (a0_a, aL C.D 5 (v5 x0 x1 x2 x3 x4)), (a0_r, aL C.D 5 (v5 r0 r1 r2 r3 r4)), (a0_product, aL C.D 5 (v5 q0 q1 q2 q3 q4)), (a0_piece, aB C.D 17 t_a0_piece), (a1, aB C.D n1 t_a1)]
  refine v_iconst g dX6_put_0 (v := nI 0) (by decide +kernel) ?_
  refine v_istore g [(5, .int (nI 0)), (0, .ref a0), (1, .ref a1), (2, .int (nI p2)), (3, .int (nI p3)), (4, .int (nI p4))] dX6_put_1 (by decide) rfl ?_
  have L3_0 : ∀ i : Nat, i ≤ ((p3 + 15) / 16) → ∀ (xa0 : Nat) (xa1 : Nat) (xa2 : Nat) (xa3 : Nat) (xa4 : Nat) (qa0 : Nat) (qa1 : Nat) (qa2 : Nat) (qa3 : Nat) (qa4 : Nat) (b2 : Nat → By), (xa0 < 2 ^ 26 + 5) → (xa1 < 2 ^ 26) → (xa2 < 2 ^ 26) → (xa3 < 2 ^ 26) → (xa4 < 2 ^ 26) → (val5 xa0 xa1 xa2 xa3 xa4 % po_p = po_it (val5 r0 r1 r2 r3 r4) t_a1 p2 p3 p4 acc i) → VJ C 0 0 3 [(5, .int (nI (16 * i))), (0, .ref a0), (1, .ref a1), (2, .int (nI p2)), (3, .int (nI p3)), (4, .int (nI p4))] [] [(a0, .inr (6, [.ref a0_a, .ref a0_r, .ref a0_product, .ref a0_s, .ref a0_piece])), (a0_a, aL C.D 5 (v5 xa0 xa1 xa2 xa3 xa4)), (a0_r, aL C.D 5 (v5 r0 r1 r2 r3 r4)), (a0_product, aL C.D 5 (v5 qa0 qa1 qa2 qa3 qa4)), (a0_piece, aB C.D 17 b2), (a1, aB C.D n1 t_a1)] := by
    refine v_for (((p3 + 15) / 16)) ?_ ?_
    · skip
      intro i hii ih xa0 xa1 xa2 xa3 xa4 qa0 qa1 qa2 qa3 qa4 b2 hv0 hv1 hv2 hv3 hv4 hv5
      refine v_iload g dX6_put_3 0 rfl ?_
      refine v_iload_n g dX6_put_5 3 rfl 4 rfl ?_
      refine v_icmp_geN g 88 dX6_put_6 (by decide) (by omega) (by omega) (fun h1 => ?_) (fun h1 => ?_)
      · skip
        exact absurd h1 (by omega)
      · skip
        refine v_bipush g dX6_put_9 (v := nI 16) (by decide +kernel) ?_
        refine v_iload_n g dX6_put_11 3 rfl 4 rfl ?_
        refine v_iload g dX6_put_12 0 rfl ?_
        refine v_isubN g dX6_put_14 (by omega) ?_
        refine v_min g mn_X6_44 (by omega) (by omega) (by decide) (Nat.le_of_ble_eq_true rfl) (by decide) (by decide) dX6_put_15 ?_
        refine v_nmN (fun mm2 hmm2 => ?_)
        refine v_istore g [(6, .int (nI mm2)), (5, .int (nI (16 * i))), (0, .ref a0), (1, .ref a1), (2, .int (nI p2)), (3, .int (nI p3)), (4, .int (nI p4))] dX6_put_18 (by decide) rfl ?_
        refine v_aload_n g dX6_put_20 1 rfl 3 rfl ?_
        refine v_iload_n g dX6_put_21 2 rfl 4 rfl ?_
        refine v_iload g dX6_put_22 1 rfl ?_
        refine v_iaddN g dX6_put_24 ?_
        refine v_aload_n g dX6_put_25 0 rfl 2 rfl ?_
        refine gf_X6_24 g dX6_put_26 0 rfl rfl ?_
        refine v_iconst g dX6_put_29 (v := nI 0) (by decide +kernel) ?_
        refine v_iload g dX6_put_30 0 rfl ?_
        obtain ⟨t3, ht3⟩ : ∃ z : Nat → By, z = va_cpy t_a1 b2 (p2 + (16 * i)) 0 mm2 := ⟨_, rfl⟩
        refine v_acpB g ac_X6_28 t3 ht3 5 4 [(a0, .inr (6, [.ref a0_a, .ref a0_r, .ref a0_product, .ref a0_s, .ref a0_piece])), (a0_a, aL C.D 5 (v5 xa0 xa1 xa2 xa3 xa4)), (a0_r, aL C.D 5 (v5 r0 r1 r2 r3 r4)), (a0_product, aL C.D 5 (v5 qa0 qa1 qa2 qa3 qa4)), (a0_piece, aB C.D 17 t3), (a1, aB C.D n1 t_a1)] rfl rfl (by omega) (by omega) (by omega) (by omega) (by decide) (Nat.le_of_ble_eq_true rfl) dX6_put_32 rfl ?_
        refine v_iload g dX6_put_35 0 rfl ?_
        refine v_istore g [(7, .int (nI mm2)), (6, .int (nI mm2)), (5, .int (nI (16 * i))), (0, .ref a0), (1, .ref a1), (2, .int (nI p2)), (3, .int (nI p3)), (4, .int (nI p4))] dX6_put_37 (by decide) rfl ?_
        have hmm : mm2 ≤ 16 := by omega
        have L39_3 : ∀ k : Nat, k ≤ (17 - mm2) → ∀ (tt : Nat → By), (∀ j, j < mm2 + k → tt j = if j < mm2 then t_a1 (p2 + 16 * i + j) else 0#8) → VJ C 0 0 39 [(7, .int (nI (mm2 + k))), (6, .int (nI mm2)), (5, .int (nI (16 * i))), (0, .ref a0), (1, .ref a1), (2, .int (nI p2)), (3, .int (nI p3)), (4, .int (nI p4))] [] [(a0, .inr (6, [.ref a0_a, .ref a0_r, .ref a0_product, .ref a0_s, .ref a0_piece])), (a0_a, aL C.D 5 (v5 xa0 xa1 xa2 xa3 xa4)), (a0_r, aL C.D 5 (v5 r0 r1 r2 r3 r4)), (a0_product, aL C.D 5 (v5 qa0 qa1 qa2 qa3 qa4)), (a0_piece, aB C.D 17 tt), (a1, aB C.D n1 t_a1)] := by
          refine v_for ((17 - mm2)) ?_ ?_
          · skip
            intro k hik ik tt hw0
            refine v_iload g dX6_put_39 0 rfl ?_
            refine v_bipush g dX6_put_41 (v := nI 16) (by decide +kernel) ?_
            refine v_icmp_gtN g 60 dX6_put_43 (by decide) (by omega) (by omega) (fun h4 => ?_) (fun h4 => ?_)
            · skip
              exact absurd h4 (by omega)
            · skip
              refine v_aload_n g dX6_put_46 0 rfl 3 rfl ?_
              refine gf_X6_24 g dX6_put_47 0 rfl rfl ?_
              refine v_iload g dX6_put_50 0 rfl ?_
              refine v_iconst g dX6_put_52 (v := nI 0) (by decide +kernel) ?_
              obtain ⟨t5, ht5⟩ : ∃ z : Nat → By, z = va_up tt (mm2 + k) 0#8 := ⟨_, rfl⟩
              refine v_bastB g (0#8) (by decide +kernel) t5 ht5 4 [(a0, .inr (6, [.ref a0_a, .ref a0_r, .ref a0_product, .ref a0_s, .ref a0_piece])), (a0_a, aL C.D 5 (v5 xa0 xa1 xa2 xa3 xa4)), (a0_r, aL C.D 5 (v5 r0 r1 r2 r3 r4)), (a0_product, aL C.D 5 (v5 qa0 qa1 qa2 qa3 qa4)), (a0_piece, aB C.D 17 t5), (a1, aB C.D n1 t_a1)] rfl (by omega) (by decide) dX6_put_53 rfl ?_
              refine v_iincN g 1 [(7, .int (nI (mm2 + k + 1))), (6, .int (nI mm2)), (5, .int (nI (16 * i))), (0, .ref a0), (1, .ref a1), (2, .int (nI p2)), (3, .int (nI p3)), (4, .int (nI p4))] dX6_put_54 0 rfl (by decide +kernel) (by decide) rfl ?_
              refine v_goto g 39 dX6_put_57 (by decide) ?_
              exact ik t5 (up_lt (m := mm2 + k) (F := fun j => if j < mm2 then t_a1 (p2 + 16 * i + j) else 0#8) hw0 (by rw [if_neg (by omega)]) ht5)
          · skip
            intro tt hw0
            refine v_iload g dX6_put_39 0 rfl ?_
            refine v_bipush g dX6_put_41 (v := nI 16) (by decide +kernel) ?_
            refine v_icmp_gtN g 60 dX6_put_43 (by decide) (by omega) (by omega) (fun h6 => ?_) (fun h6 => ?_)
            · skip
              have zt : ∀ j, j < 17 → tt j = if j < mm2 then t_a1 (p2 + 16 * i + j) else 0#8 := fun j hj => hw0 j (by omega)
              refine v_aload_n g dX6_put_60 0 rfl 3 rfl ?_
              refine gf_X6_24 g dX6_put_61 0 rfl rfl ?_
              refine v_iload g dX6_put_64 7 rfl ?_
              refine v_if_eqN g 74 dX6_put_66 (by decide) (by omega) (fun h7 => ?_) (fun h7 => ?_)
              · skip
                refine v_iload g dX6_put_74 1 rfl ?_
                refine v_iconst g dX6_put_76 (v := nI 1) (by decide +kernel) ?_
                obtain ⟨t8, ht8⟩ : ∃ z : Nat → By, z = va_up tt mm2 1#8 := ⟨_, rfl⟩
                refine v_bastB g (1#8) (by decide +kernel) t8 ht8 4 [(a0, .inr (6, [.ref a0_a, .ref a0_r, .ref a0_product, .ref a0_s, .ref a0_piece])), (a0_a, aL C.D 5 (v5 xa0 xa1 xa2 xa3 xa4)), (a0_r, aL C.D 5 (v5 r0 r1 r2 r3 r4)), (a0_product, aL C.D 5 (v5 qa0 qa1 qa2 qa3 qa4)), (a0_piece, aB C.D 17 t8), (a1, aB C.D n1 t_a1)] rfl (by omega) (by decide) dX6_put_77 rfl ?_
                refine v_aload_n g dX6_put_78 0 rfl 3 rfl ?_
                have ep : leN t8 17 = po_pc t_a1 p2 p3 p4 i := by rw [ht8]; unfold po_pc; rw [if_pos h7, ← hmm2]; exact po_piece hmm (by omega) (by omega) zt
                have eb : leN t8 17 < 2 ^ 130 := by rw [ht8, po_piece hmm (by omega) (by omega) zt]; exact po_piece_lt _ hmm (by omega)
                refine v_callV (As := []) (rest := []) (wr := [(a1, aB C.D n1 t_a1)]) cw_X6_50 (hy_X6_addPiece) g (c_TL_add C.l C.D a0 a0_a a0_r a0_product a0_s a0_piece t8 xa0 xa1 xa2 xa3 xa4 r0 r1 r2 r3 r4 qa0 qa1 qa2 qa3 qa4 hv0 hv1 hv2 hv3 hv4 g0 g1 g2 g3 g4 eb) dX6_put_79 0 rfl rfl rfl (by decide) (by decide) (Nat.le_of_ble_eq_true rfl) [0, 1, 2, 3, 4] [5] rfl rfl (by decide) rfl (by decide) (by decide) _ rfl (fun r wo hp9 => ?_)
                obtain ⟨za0, za1, za2, za3, za4, ua0, ua1, ua2, ua3, ua4, ka, rfl, rfl, hz0, hz1, hz2, hz3, hz4, hz5⟩ := hp9
                refine v_perm [1, 2, 3, 4, 5, 0] [(a0, .inr (6, [.ref a0_a, .ref a0_r, .ref a0_product, .ref a0_s, .ref a0_piece])), (a0_a, aL C.D 5 (v5 za0 za1 za2 za3 za4)), (a0_r, aL C.D 5 (v5 r0 r1 r2 r3 r4)), (a0_product, aL C.D 5 (v5 ua0 ua1 ua2 ua3 ua4)), (a0_piece, aB C.D 17 t8), (a1, aB C.D n1 t_a1)] (by decide) rfl rfl ?_
                show VJ C 0 0 82 [(7, .int (nI (mm2 + (17 - mm2)))), (6, .int (nI mm2)), (5, .int (nI (16 * i))), (0, .ref a0), (1, .ref a1), (2, .int (nI p2)), (3, .int (nI p3)), (4, .int (nI p4))] [] [(a0, .inr (6, [.ref a0_a, .ref a0_r, .ref a0_product, .ref a0_s, .ref a0_piece])), (a0_a, aL C.D 5 (v5 za0 za1 za2 za3 za4)), (a0_r, aL C.D 5 (v5 r0 r1 r2 r3 r4)), (a0_product, aL C.D 5 (v5 ua0 ua1 ua2 ua3 ua4)), (a0_piece, aB C.D 17 t8), (a1, aB C.D n1 t_a1)]
                refine v_iincN g 16 [(5, .int (nI (16 * i + 16))), (7, .int (nI (mm2 + (17 - mm2)))), (6, .int (nI mm2)), (0, .ref a0), (1, .ref a1), (2, .int (nI p2)), (3, .int (nI p3)), (4, .int (nI p4))] dX6_put_82 2 rfl (by decide +kernel) (by decide) rfl ?_
                refine v_goto g 3 dX6_put_85 (by decide) ?_
                refine v_lpick [0, 3, 4, 5, 6, 7] [(5, .int (nI (16 * i + 16))), (0, .ref a0), (1, .ref a1), (2, .int (nI p2)), (3, .int (nI p3)), (4, .int (nI p4))] rfl ?_
                rw [show 16 * i + 16 = 16 * (i + 1) by omega]
                exact ih za0 za1 za2 za3 za4 ua0 ua1 ua2 ua3 ua4 t8 hz0 hz1 hz2 hz3 hz4 (by simp only [po_it]; rw [← ep]; exact po_next hv5 hz5)
              · skip
                refine v_bipush g dX6_put_69 (v := nI 16) (by decide +kernel) ?_
                refine v_goto g 76 dX6_put_71 (by decide) ?_
                refine v_iconst g dX6_put_76 (v := nI 1) (by decide +kernel) ?_
                obtain ⟨t10, ht10⟩ : ∃ z : Nat → By, z = va_up tt 16 1#8 := ⟨_, rfl⟩
                refine v_bastB g (1#8) (by decide +kernel) t10 ht10 4 [(a0, .inr (6, [.ref a0_a, .ref a0_r, .ref a0_product, .ref a0_s, .ref a0_piece])), (a0_a, aL C.D 5 (v5 xa0 xa1 xa2 xa3 xa4)), (a0_r, aL C.D 5 (v5 r0 r1 r2 r3 r4)), (a0_product, aL C.D 5 (v5 qa0 qa1 qa2 qa3 qa4)), (a0_piece, aB C.D 17 t10), (a1, aB C.D n1 t_a1)] rfl (by decide) (by decide) dX6_put_77 rfl ?_
                refine v_aload_n g dX6_put_78 0 rfl 3 rfl ?_
                have ep : leN t10 17 = po_pc t_a1 p2 p3 p4 i := by rw [ht10]; unfold po_pc; rw [if_neg h7, ← hmm2]; exact po_piece hmm (by omega) (by omega) zt
                have eb : leN t10 17 < 2 ^ 130 := by rw [ht10, po_piece hmm (by omega) (by omega) zt]; exact po_piece_lt _ hmm (by omega)
                refine v_callV (As := []) (rest := []) (wr := [(a1, aB C.D n1 t_a1)]) cw_X6_50 (hy_X6_addPiece) g (c_TL_add C.l C.D a0 a0_a a0_r a0_product a0_s a0_piece t10 xa0 xa1 xa2 xa3 xa4 r0 r1 r2 r3 r4 qa0 qa1 qa2 qa3 qa4 hv0 hv1 hv2 hv3 hv4 g0 g1 g2 g3 g4 eb) dX6_put_79 0 rfl rfl rfl (by decide) (by decide) (Nat.le_of_ble_eq_true rfl) [0, 1, 2, 3, 4] [5] rfl rfl (by decide) rfl (by decide) (by decide) _ rfl (fun r wo hp11 => ?_)
                obtain ⟨za0, za1, za2, za3, za4, ua0, ua1, ua2, ua3, ua4, ka, rfl, rfl, hz0, hz1, hz2, hz3, hz4, hz5⟩ := hp11
                refine v_perm [1, 2, 3, 4, 5, 0] [(a0, .inr (6, [.ref a0_a, .ref a0_r, .ref a0_product, .ref a0_s, .ref a0_piece])), (a0_a, aL C.D 5 (v5 za0 za1 za2 za3 za4)), (a0_r, aL C.D 5 (v5 r0 r1 r2 r3 r4)), (a0_product, aL C.D 5 (v5 ua0 ua1 ua2 ua3 ua4)), (a0_piece, aB C.D 17 t10), (a1, aB C.D n1 t_a1)] (by decide) rfl rfl ?_
                show VJ C 0 0 82 [(7, .int (nI (mm2 + (17 - mm2)))), (6, .int (nI mm2)), (5, .int (nI (16 * i))), (0, .ref a0), (1, .ref a1), (2, .int (nI p2)), (3, .int (nI p3)), (4, .int (nI p4))] [] [(a0, .inr (6, [.ref a0_a, .ref a0_r, .ref a0_product, .ref a0_s, .ref a0_piece])), (a0_a, aL C.D 5 (v5 za0 za1 za2 za3 za4)), (a0_r, aL C.D 5 (v5 r0 r1 r2 r3 r4)), (a0_product, aL C.D 5 (v5 ua0 ua1 ua2 ua3 ua4)), (a0_piece, aB C.D 17 t10), (a1, aB C.D n1 t_a1)]
                refine v_iincN g 16 [(5, .int (nI (16 * i + 16))), (7, .int (nI (mm2 + (17 - mm2)))), (6, .int (nI mm2)), (0, .ref a0), (1, .ref a1), (2, .int (nI p2)), (3, .int (nI p3)), (4, .int (nI p4))] dX6_put_82 2 rfl (by decide +kernel) (by decide) rfl ?_
                refine v_goto g 3 dX6_put_85 (by decide) ?_
                refine v_lpick [0, 3, 4, 5, 6, 7] [(5, .int (nI (16 * i + 16))), (0, .ref a0), (1, .ref a1), (2, .int (nI p2)), (3, .int (nI p3)), (4, .int (nI p4))] rfl ?_
                rw [show 16 * i + 16 = 16 * (i + 1) by omega]
                exact ih za0 za1 za2 za3 za4 ua0 ua1 ua2 ua3 ua4 t10 hz0 hz1 hz2 hz3 hz4 (by simp only [po_it]; rw [← ep]; exact po_next hv5 hz5)
            · skip
              exact absurd h6 (by omega)
        exact L39_3 0 (by omega) t3 (fun j hj => by rw [ht3, pk_cpy_in (by omega) (by omega), if_pos (by omega), Nat.sub_zero])
    · skip
      intro xa0 xa1 xa2 xa3 xa4 qa0 qa1 qa2 qa3 qa4 b2 hv0 hv1 hv2 hv3 hv4 hv5
      refine v_iload g dX6_put_3 0 rfl ?_
      refine v_iload_n g dX6_put_5 3 rfl 4 rfl ?_
      refine v_icmp_geN g 88 dX6_put_6 (by decide) (by omega) (by omega) (fun h12 => ?_) (fun h12 => ?_)
      · skip
        exact v_ret g R dX6_put_88 (by decide) (by decide) ⟨xa0, xa1, xa2, xa3, xa4, qa0, qa1, qa2, qa3, qa4, b2, rfl, rfl, hv0, hv1, hv2, hv3, hv4, hv5⟩
      · skip
        exact absurd h12 (by omega)
  exact L3_0 0 (by omega) x0 x1 x2 x3 x4 q0 q1 q2 q3 q4 t_a0_piece h0 h1 h2 h3 h4 hA
