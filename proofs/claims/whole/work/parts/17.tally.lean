theorem dX6_finish_0 : decode cX6_finish 0 = .ok (.aload_n 0, 1) := by decide +kernel
theorem dX6_finish_1 : decode cX6_finish 1 = .ok (.invokevirtual 53, 3) := by decide +kernel
theorem dX6_finish_4 : decode cX6_finish 4 = .ok (.aload_n 0, 1) := by decide +kernel
theorem dX6_finish_5 : decode cX6_finish 5 = .ok (.invokevirtual 56, 3) := by decide +kernel
theorem dX6_finish_8 : decode cX6_finish 8 = .ok (.lconst 0, 1) := by decide +kernel
theorem dX6_finish_9 : decode cX6_finish 9 = .ok (.lstore_n 2, 1) := by decide +kernel
theorem dX6_finish_10 : decode cX6_finish 10 = .ok (.iconst 0, 1) := by decide +kernel
theorem dX6_finish_11 : decode cX6_finish 11 = .ok (.istore 4, 2) := by decide +kernel
theorem dX6_finish_13 : decode cX6_finish 13 = .ok (.iload 4, 2) := by decide +kernel
theorem dX6_finish_15 : decode cX6_finish 15 = .ok (.iconst 4, 1) := by decide +kernel
theorem dX6_finish_16 : decode cX6_finish 16 = .ok (.if_icmp .ge 73, 3) := by decide +kernel
theorem dX6_finish_19 : decode cX6_finish 19 = .ok (.aload_n 0, 1) := by decide +kernel
theorem dX6_finish_20 : decode cX6_finish 20 = .ok (.getfield 11, 3) := by decide +kernel
theorem dX6_finish_23 : decode cX6_finish 23 = .ok (.iload 4, 2) := by decide +kernel
theorem dX6_finish_25 : decode cX6_finish 25 = .ok (.laload, 1) := by decide +kernel
theorem dX6_finish_26 : decode cX6_finish 26 = .ok (.bipush 6, 2) := by decide +kernel
theorem dX6_finish_28 : decode cX6_finish 28 = .ok (.iload 4, 2) := by decide +kernel
theorem dX6_finish_30 : decode cX6_finish 30 = .ok (.imul, 1) := by decide +kernel
theorem dX6_finish_31 : decode cX6_finish 31 = .ok (.lushr, 1) := by decide +kernel
theorem dX6_finish_32 : decode cX6_finish 32 = .ok (.aload_n 0, 1) := by decide +kernel
theorem dX6_finish_33 : decode cX6_finish 33 = .ok (.getfield 11, 3) := by decide +kernel
theorem dX6_finish_36 : decode cX6_finish 36 = .ok (.iload 4, 2) := by decide +kernel
theorem dX6_finish_38 : decode cX6_finish 38 = .ok (.iconst 1, 1) := by decide +kernel
theorem dX6_finish_39 : decode cX6_finish 39 = .ok (.iadd, 1) := by decide +kernel
theorem dX6_finish_40 : decode cX6_finish 40 = .ok (.laload, 1) := by decide +kernel
theorem dX6_finish_41 : decode cX6_finish 41 = .ok (.bipush 26, 2) := by decide +kernel
theorem dX6_finish_43 : decode cX6_finish 43 = .ok (.bipush 6, 2) := by decide +kernel
theorem dX6_finish_45 : decode cX6_finish 45 = .ok (.iload 4, 2) := by decide +kernel
theorem dX6_finish_47 : decode cX6_finish 47 = .ok (.imul, 1) := by decide +kernel
theorem dX6_finish_48 : decode cX6_finish 48 = .ok (.isub, 1) := by decide +kernel
theorem dX6_finish_49 : decode cX6_finish 49 = .ok (.lshl, 1) := by decide +kernel
theorem dX6_finish_50 : decode cX6_finish 50 = .ok (.lor, 1) := by decide +kernel
theorem dX6_finish_51 : decode cX6_finish 51 = .ok (.lstore 5, 2) := by decide +kernel
theorem dX6_finish_53 : decode cX6_finish 53 = .ok (.lload_n 2, 1) := by decide +kernel
theorem dX6_finish_54 : decode cX6_finish 54 = .ok (.bipush 32, 2) := by decide +kernel
theorem dX6_finish_56 : decode cX6_finish 56 = .ok (.lushr, 1) := by decide +kernel
theorem dX6_finish_57 : decode cX6_finish 57 = .ok (.lload 5, 2) := by decide +kernel
theorem dX6_finish_59 : decode cX6_finish 59 = .ok (.ldc2_w 42, 3) := by decide +kernel
theorem dX6_finish_62 : decode cX6_finish 62 = .ok (.land, 1) := by decide +kernel
theorem dX6_finish_63 : decode cX6_finish 63 = .ok (.ladd, 1) := by decide +kernel
theorem dX6_finish_64 : decode cX6_finish 64 = .ok (.aload_n 0, 1) := by decide +kernel
theorem dX6_finish_65 : decode cX6_finish 65 = .ok (.getfield 21, 3) := by decide +kernel
theorem dX6_finish_68 : decode cX6_finish 68 = .ok (.iload 4, 2) := by decide +kernel
theorem dX6_finish_70 : decode cX6_finish 70 = .ok (.laload, 1) := by decide +kernel
theorem dX6_finish_71 : decode cX6_finish 71 = .ok (.ladd, 1) := by decide +kernel
theorem dX6_finish_72 : decode cX6_finish 72 = .ok (.lstore_n 2, 1) := by decide +kernel
theorem dX6_finish_73 : decode cX6_finish 73 = .ok (.aload_n 1, 1) := by decide +kernel
theorem dX6_finish_74 : decode cX6_finish 74 = .ok (.iconst 4, 1) := by decide +kernel
theorem dX6_finish_75 : decode cX6_finish 75 = .ok (.iload 4, 2) := by decide +kernel
theorem dX6_finish_77 : decode cX6_finish 77 = .ok (.imul, 1) := by decide +kernel
theorem dX6_finish_78 : decode cX6_finish 78 = .ok (.iconst 4, 1) := by decide +kernel
theorem dX6_finish_79 : decode cX6_finish 79 = .ok (.lload_n 2, 1) := by decide +kernel
theorem dX6_finish_80 : decode cX6_finish 80 = .ok (.invokestatic 59, 3) := by decide +kernel
theorem dX6_finish_83 : decode cX6_finish 83 = .ok (.iinc 4 1, 3) := by decide +kernel
theorem dX6_finish_86 : decode cX6_finish 86 = .ok (.goto (-73), 3) := by decide +kernel
theorem dX6_finish_89 : decode cX6_finish 89 = .ok (.return_, 1) := by decide +kernel
set_option maxHeartbeats 4000000 in
set_option maxRecDepth 100000 in
theorem c_TL_fin (l : Launch) (D : va_G) (a0 : Nat) (a1 : Nat) (a0_a : Nat) (a0_r : Nat) (a0_product : Nat) (a0_s : Nat) (a0_piece : Nat) (t_a0_s : Nat → Nat) (n1 : Nat) (t_a1 : Nat → By) (x0 x1 x2 x3 x4 : Nat) (h0 : x0 < 2 ^ 26 + 5) (h1 : x1 < 2 ^ 26) (h2 : x2 < 2 ^ 26) (h3 : x3 < 2 ^ 26) (h4 : x4 < 2 ^ 26) (g0 : t_a0_s 0 < 2 ^ 32) (g1 : t_a0_s 1 < 2 ^ 32) (g2 : t_a0_s 2 < 2 ^ 32) (g3 : t_a0_s 3 < 2 ^ 32) (hn1 : 16 ≤ n1) (hn : n1 < 2 ^ 31) : vM l D yX6_finish cX6_finish 7 none { frames := 1, cells := 0, slots := 0, locals := 25 } [.ref a0, .ref a1] [(a0, .inr (6, [.ref a0_a, .ref a0_r, .ref a0_product, .ref a0_s, .ref a0_piece])), (a0_a, aL D 5 (v5 x0 x1 x2 x3 x4)), (a0_s, aL D 4 t_a0_s), (a1, aB D n1 t_a1)] (fun r wo => ∃ (z0 : Nat) (z1 : Nat) (z2 : Nat) (z3 : Nat) (z4 : Nat) (r1 : Nat → By), r = none ∧ wo = [(a0, .inr (6, [.ref a0_a, .ref a0_r, .ref a0_product, .ref a0_s, .ref a0_piece])), (a0_a, aL D 5 (v5 z0 z1 z2 z3 z4)), (a0_s, aL D 4 t_a0_s), (a1, aB D n1 r1)] ∧ (∀ j, j < 16 → r1 j = BitVec.ofNat 8 ((val5 x0 x1 x2 x3 x4 % po_p + (t_a0_s 0 + t_a0_s 1 * 2 ^ 32 + t_a0_s 2 * 2 ^ 64 + t_a0_s 3 * 2 ^ 96)) / 256 ^ j)) ∧ (∀ j, 16 ≤ j → r1 j = t_a1 j)) := by
  refine vM.of (by decide) (Nat.le_of_ble_eq_true rfl) (fun C hCl hCD g R => ?_)
  subst hCl; subst hCD
  show VJ C 0 0 0 [(0, .ref a0), (1, .ref a1)] [] [(a0, .inr (6, [.ref a0_a, .ref a0_r, .ref a0_product, .ref a0_s, .ref a0_piece])), (a0_a, aL C.D 5 (v5 x0 x1 x2 x3 x4)), (a0_s, aL C.D 4 t_a0_s), (a1, aB C.D n1 t_a1)]
  refine v_aload_n g dX6_finish_0 0 rfl 0 rfl ?_
  refine v_callV (As := []) (rest := []) (wr := [(a0_s, aL C.D 4 t_a0_s), (a1, aB C.D n1 t_a1)]) cw_X6_53 (hy_X6_carry) g (c_TL_carry C.l C.D a0 a0_a a0_r a0_product a0_s a0_piece x0 x1 x2 x3 x4 (by omega) (by omega) (by omega) (by omega) (by omega)) dX6_finish_1 0 rfl rfl rfl (by decide) (by decide) (Nat.le_of_ble_eq_true rfl) [0, 1] [2, 3] rfl rfl (by decide) rfl (by decide) (by decide) _ rfl (fun r wo hp1 => ?_)
  obtain ⟨y0, y1, y2, y3, y4, c0, c1, c2, c3, c4, rfl, rfl, hc0, hc1, hc2, hc3, hc4, hc5, hc6, hc7, hc8, hc9⟩ := hp1
  refine v_perm [2, 3, 0, 1] [(a0, .inr (6, [.ref a0_a, .ref a0_r, .ref a0_product, .ref a0_s, .ref a0_piece])), (a0_a, aL C.D 5 (v5 y0 y1 y2 y3 y4)), (a0_s, aL C.D 4 t_a0_s), (a1, aB C.D n1 t_a1)] (by decide) rfl rfl ?_
  show VJ C 0 0 4 [(0, .ref a0), (1, .ref a1)] [] [(a0, .inr (6, [.ref a0_a, .ref a0_r, .ref a0_product, .ref a0_s, .ref a0_piece])), (a0_a, aL C.D 5 (v5 y0 y1 y2 y3 y4)), (a0_s, aL C.D 4 t_a0_s), (a1, aB C.D n1 t_a1)]
  refine v_aload_n g dX6_finish_4 0 rfl 0 rfl ?_
  refine v_callV (As := []) (rest := []) (wr := [(a0_s, aL C.D 4 t_a0_s), (a1, aB C.D n1 t_a1)]) cw_X6_56 (hy_X6_reduce) g (c_TL_reduce C.l C.D a0 a0_a a0_r a0_product a0_s a0_piece y0 y1 y2 y3 y4 (by omega) (by omega) (by omega) (by omega) (by omega)) dX6_finish_5 0 rfl rfl rfl (by decide) (by decide) (Nat.le_of_ble_eq_true rfl) [0, 1] [2, 3] rfl rfl (by decide) rfl (by decide) (by decide) _ rfl (fun r wo hp2 => ?_)
  obtain ⟨z0, z1, z2, z3, z4, rfl, rfl, hr0, hr1, hr2, hr3, hr4, hr5⟩ := hp2
  refine v_perm [2, 3, 0, 1] [(a0, .inr (6, [.ref a0_a, .ref a0_r, .ref a0_product, .ref a0_s, .ref a0_piece])), (a0_a, aL C.D 5 (v5 z0 z1 z2 z3 z4)), (a0_s, aL C.D 4 t_a0_s), (a1, aB C.D n1 t_a1)] (by decide) rfl rfl ?_
  show VJ C 0 0 8 [(0, .ref a0), (1, .ref a1)] [] [(a0, .inr (6, [.ref a0_a, .ref a0_r, .ref a0_product, .ref a0_s, .ref a0_piece])), (a0_a, aL C.D 5 (v5 z0 z1 z2 z3 z4)), (a0_s, aL C.D 4 t_a0_s), (a1, aB C.D n1 t_a1)]
  have hv : val5 z0 z1 z2 z3 z4 = val5 x0 x1 x2 x3 x4 % po_p := by
    rw [hr5, show val5 x0 x1 x2 x3 x4 = val5 y0 y1 y2 y3 y4 + c4 * po_p by (unfold val5 po_p; omega), Nat.add_mul_mod_self_right]
  clear hc0 hc1 hc2 hc3 hc4 hc5 hc6 hc7 hc8 hc9
  refine v_lconst g dX6_finish_8 (v := lN 0) (by decide +kernel) ?_
  refine v_lstore_n g [(2, .long (lN 0)), (0, .ref a0), (1, .ref a1)] dX6_finish_9 2 rfl (by decide) rfl ?_
  refine v_iconst g dX6_finish_10 (v := nI 0) (by decide +kernel) ?_
  refine v_istore g [(4, .int (nI 0)), (2, .long (lN 0)), (0, .ref a0), (1, .ref a1)] dX6_finish_11 (by decide) rfl ?_
  refine v_iload g dX6_finish_13 0 rfl ?_
  refine v_iconst g dX6_finish_15 (v := nI 4) (by decide +kernel) ?_
  refine v_icmp_geN g 89 dX6_finish_16 (by decide) (by decide) (by decide) (fun h => absurd h (by decide)) (fun _ => ?_)
  refine v_aload_n g dX6_finish_19 0 rfl 2 rfl ?_
  refine gf_X6_11 g dX6_finish_20 0 rfl rfl ?_
  refine v_iload g dX6_finish_23 0 rfl ?_
  refine v_laldL g 1 rfl (by decide) (by decide) dX6_finish_25 ?_
  refine v_tol (lN z0) rfl ?_
  refine v_bipush g dX6_finish_26 (v := nI 6) (by decide +kernel) ?_
  refine v_iload g dX6_finish_28 0 rfl ?_
  refine v_imulN g dX6_finish_30 ?_
  refine v_toi (nI 0) rfl ?_
  refine v_lushrN g (by omega) (by decide) dX6_finish_31 ?_
  refine v_aload_n g dX6_finish_32 0 rfl 2 rfl ?_
  refine gf_X6_11 g dX6_finish_33 0 rfl rfl ?_
  refine v_iload g dX6_finish_36 0 rfl ?_
  refine v_iconst g dX6_finish_38 (v := nI 1) (by decide +kernel) ?_
  refine v_iaddN g dX6_finish_39 ?_
  refine v_toi (nI 1) rfl ?_
  refine v_laldL g 1 rfl (by decide) (by decide) dX6_finish_40 ?_
  refine v_tol (lN z1) rfl ?_
  refine v_bipush g dX6_finish_41 (v := nI 26) (by decide +kernel) ?_
  refine v_bipush g dX6_finish_43 (v := nI 6) (by decide +kernel) ?_
  refine v_iload g dX6_finish_45 0 rfl ?_
  refine v_imulN g dX6_finish_47 ?_
  refine v_toi (nI 0) rfl ?_
  refine v_isubN g dX6_finish_48 (by decide) ?_
  refine v_toi (nI 26) rfl ?_
  refine v_lshlN g (by decide) dX6_finish_49 ?_
  refine v_lorN g dX6_finish_50 ?_
  refine v_tol (lN ((z0 / 2 ^ 0) + (z1 * 2 ^ 26))) (congrArg lN (or_add (k := 26) (by omega))) ?_
  refine v_lstore g [(5, .long (lN ((z0 / 2 ^ 0) + (z1 * 2 ^ 26)))), (4, .int (nI 0)), (2, .long (lN 0)), (0, .ref a0), (1, .ref a1)] dX6_finish_51 (by decide) rfl ?_
  refine v_lload_n g dX6_finish_53 2 rfl 2 rfl ?_
  refine v_bipush g dX6_finish_54 (v := nI 32) (by decide +kernel) ?_
  refine v_lushrN g (by omega) (by decide) dX6_finish_56 ?_
  refine v_lload g dX6_finish_57 0 rfl ?_
  refine v_ldc2 g dX6_finish_59 kl_X6_42 ?_
  refine v_landM g 32 (by decide) dX6_finish_62 ?_
  refine v_laddN g dX6_finish_63 ?_
  refine v_aload_n g dX6_finish_64 0 rfl 3 rfl ?_
  refine gf_X6_21 g dX6_finish_65 0 rfl rfl ?_
  refine v_iload g dX6_finish_68 1 rfl ?_
  refine v_laldL g 2 rfl (by decide) (by decide) dX6_finish_70 ?_
  refine v_laddN g dX6_finish_71 ?_
  refine v_nmL (fun S3 hS3 => ?_)
  refine v_lstore_n g [(2, .long (lN S3)), (5, .long (lN ((z0 / 2 ^ 0) + (z1 * 2 ^ 26)))), (4, .int (nI 0)), (0, .ref a0), (1, .ref a1)] dX6_finish_72 2 rfl (by decide) rfl ?_
  refine v_aload_n g dX6_finish_73 1 rfl 4 rfl ?_
  refine v_iconst g dX6_finish_74 (v := nI 4) (by decide +kernel) ?_
  refine v_iload g dX6_finish_75 2 rfl ?_
  refine v_imulN g dX6_finish_77 ?_
  refine v_toi (nI 0) rfl ?_
  refine v_iconst g dX6_finish_78 (v := nI 4) (by decide +kernel) ?_
  refine v_lload_n g dX6_finish_79 2 rfl 0 rfl ?_
  refine v_callSN (As := [.ref a1, .int (nI 0), .int (nI 4), .long (lN S3)]) (rest := []) (wr := [(a0, .inr (6, [.ref a0_a, .ref a0_r, .ref a0_product, .ref a0_s, .ref a0_piece])), (a0_a, aL C.D 5 (v5 z0 z1 z2 z3 z4)), (a0_s, aL C.D 4 t_a0_s)]) cw_X6_59 cl_X6_59 (hy_X7_writeBytes) g (c_writeBytes C.l C.D a1 0 4 (BitVec.ofNat 64 S3) n1 t_a1 (by omega) (by decide) (by omega)) dX6_finish_80 rfl (by decide) (by decide) (Nat.le_of_ble_eq_true rfl) [3] [0, 1, 2] rfl rfl (by decide) rfl (by decide) (by decide) _ rfl (fun r wo hp4 => ?_)
  obtain ⟨rfl, rfl⟩ := hp4
  show VJ C 0 0 83 [(2, .long (lN S3)), (5, .long (lN ((z0 / 2 ^ 0) + (z1 * 2 ^ 26)))), (4, .int (nI 0)), (0, .ref a0), (1, .ref a1)] [] [(a0, .inr (6, [.ref a0_a, .ref a0_r, .ref a0_product, .ref a0_s, .ref a0_piece])), (a0_a, aL C.D 5 (v5 z0 z1 z2 z3 z4)), (a0_s, aL C.D 4 t_a0_s), (a1, aB C.D n1 (wb t_a1 0 4 (BitVec.ofNat 64 S3)))]
  refine v_iincN g 1 [(4, .int (nI 1)), (2, .long (lN S3)), (5, .long (lN ((z0 / 2 ^ 0) + (z1 * 2 ^ 26)))), (0, .ref a0), (1, .ref a1)] dX6_finish_83 2 rfl (by decide +kernel) (by decide) rfl ?_
  refine v_goto g 13 dX6_finish_86 (by decide) ?_
  refine v_iload g dX6_finish_13 0 rfl ?_
  refine v_iconst g dX6_finish_15 (v := nI 4) (by decide +kernel) ?_
  refine v_icmp_geN g 89 dX6_finish_16 (by decide) (by decide) (by decide) (fun h => absurd h (by decide)) (fun _ => ?_)
  refine v_aload_n g dX6_finish_19 0 rfl 3 rfl ?_
  refine gf_X6_11 g dX6_finish_20 0 rfl rfl ?_
  refine v_iload g dX6_finish_23 0 rfl ?_
  refine v_laldL g 1 rfl (by decide) (by decide) dX6_finish_25 ?_
  refine v_tol (lN z1) rfl ?_
  refine v_bipush g dX6_finish_26 (v := nI 6) (by decide +kernel) ?_
  refine v_iload g dX6_finish_28 0 rfl ?_
  refine v_imulN g dX6_finish_30 ?_
  refine v_toi (nI 6) rfl ?_
  refine v_lushrN g (by omega) (by decide) dX6_finish_31 ?_
  refine v_aload_n g dX6_finish_32 0 rfl 3 rfl ?_
  refine gf_X6_11 g dX6_finish_33 0 rfl rfl ?_
  refine v_iload g dX6_finish_36 0 rfl ?_
  refine v_iconst g dX6_finish_38 (v := nI 1) (by decide +kernel) ?_
  refine v_iaddN g dX6_finish_39 ?_
  refine v_toi (nI 2) rfl ?_
  refine v_laldL g 1 rfl (by decide) (by decide) dX6_finish_40 ?_
  refine v_tol (lN z2) rfl ?_
  refine v_bipush g dX6_finish_41 (v := nI 26) (by decide +kernel) ?_
  refine v_bipush g dX6_finish_43 (v := nI 6) (by decide +kernel) ?_
  refine v_iload g dX6_finish_45 0 rfl ?_
  refine v_imulN g dX6_finish_47 ?_
  refine v_toi (nI 6) rfl ?_
  refine v_isubN g dX6_finish_48 (by decide) ?_
  refine v_toi (nI 20) rfl ?_
  refine v_lshlN g (by decide) dX6_finish_49 ?_
  refine v_lorN g dX6_finish_50 ?_
  refine v_tol (lN ((z1 / 2 ^ 6) + (z2 * 2 ^ 20))) (congrArg lN (or_add (k := 20) (by omega))) ?_
  refine v_lstore g [(5, .long (lN ((z1 / 2 ^ 6) + (z2 * 2 ^ 20)))), (4, .int (nI 1)), (2, .long (lN S3)), (0, .ref a0), (1, .ref a1)] dX6_finish_51 (by decide) rfl ?_
  refine v_lload_n g dX6_finish_53 2 rfl 2 rfl ?_
  refine v_bipush g dX6_finish_54 (v := nI 32) (by decide +kernel) ?_
  refine v_lushrN g (by omega) (by decide) dX6_finish_56 ?_
  refine v_lload g dX6_finish_57 0 rfl ?_
  refine v_ldc2 g dX6_finish_59 kl_X6_42 ?_
  refine v_landM g 32 (by decide) dX6_finish_62 ?_
  refine v_laddN g dX6_finish_63 ?_
  refine v_aload_n g dX6_finish_64 0 rfl 3 rfl ?_
  refine gf_X6_21 g dX6_finish_65 0 rfl rfl ?_
  refine v_iload g dX6_finish_68 1 rfl ?_
  refine v_laldL g 2 rfl (by decide) (by decide) dX6_finish_70 ?_
  refine v_laddN g dX6_finish_71 ?_
  refine v_nmL (fun S5 hS5 => ?_)
  refine v_lstore_n g [(2, .long (lN S5)), (5, .long (lN ((z1 / 2 ^ 6) + (z2 * 2 ^ 20)))), (4, .int (nI 1)), (0, .ref a0), (1, .ref a1)] dX6_finish_72 2 rfl (by decide) rfl ?_
  refine v_aload_n g dX6_finish_73 1 rfl 4 rfl ?_
  refine v_iconst g dX6_finish_74 (v := nI 4) (by decide +kernel) ?_
  refine v_iload g dX6_finish_75 2 rfl ?_
  refine v_imulN g dX6_finish_77 ?_
  refine v_toi (nI 4) rfl ?_
  refine v_iconst g dX6_finish_78 (v := nI 4) (by decide +kernel) ?_
  refine v_lload_n g dX6_finish_79 2 rfl 0 rfl ?_
  refine v_callSN (As := [.ref a1, .int (nI 4), .int (nI 4), .long (lN S5)]) (rest := []) (wr := [(a0, .inr (6, [.ref a0_a, .ref a0_r, .ref a0_product, .ref a0_s, .ref a0_piece])), (a0_a, aL C.D 5 (v5 z0 z1 z2 z3 z4)), (a0_s, aL C.D 4 t_a0_s)]) cw_X6_59 cl_X6_59 (hy_X7_writeBytes) g (c_writeBytes C.l C.D a1 4 4 (BitVec.ofNat 64 S5) n1 (wb t_a1 0 4 (BitVec.ofNat 64 S3)) (by omega) (by decide) (by omega)) dX6_finish_80 rfl (by decide) (by decide) (Nat.le_of_ble_eq_true rfl) [3] [0, 1, 2] rfl rfl (by decide) rfl (by decide) (by decide) _ rfl (fun r wo hp6 => ?_)
  obtain ⟨rfl, rfl⟩ := hp6
  show VJ C 0 0 83 [(2, .long (lN S5)), (5, .long (lN ((z1 / 2 ^ 6) + (z2 * 2 ^ 20)))), (4, .int (nI 1)), (0, .ref a0), (1, .ref a1)] [] [(a0, .inr (6, [.ref a0_a, .ref a0_r, .ref a0_product, .ref a0_s, .ref a0_piece])), (a0_a, aL C.D 5 (v5 z0 z1 z2 z3 z4)), (a0_s, aL C.D 4 t_a0_s), (a1, aB C.D n1 (wb (wb t_a1 0 4 (BitVec.ofNat 64 S3)) 4 4 (BitVec.ofNat 64 S5)))]
  refine v_iincN g 1 [(4, .int (nI 2)), (2, .long (lN S5)), (5, .long (lN ((z1 / 2 ^ 6) + (z2 * 2 ^ 20)))), (0, .ref a0), (1, .ref a1)] dX6_finish_83 2 rfl (by decide +kernel) (by decide) rfl ?_
  refine v_goto g 13 dX6_finish_86 (by decide) ?_
  refine v_iload g dX6_finish_13 0 rfl ?_
  refine v_iconst g dX6_finish_15 (v := nI 4) (by decide +kernel) ?_
  refine v_icmp_geN g 89 dX6_finish_16 (by decide) (by decide) (by decide) (fun h => absurd h (by decide)) (fun _ => ?_)
  refine v_aload_n g dX6_finish_19 0 rfl 3 rfl ?_
  refine gf_X6_11 g dX6_finish_20 0 rfl rfl ?_
  refine v_iload g dX6_finish_23 0 rfl ?_
  refine v_laldL g 1 rfl (by decide) (by decide) dX6_finish_25 ?_
  refine v_tol (lN z2) rfl ?_
  refine v_bipush g dX6_finish_26 (v := nI 6) (by decide +kernel) ?_
  refine v_iload g dX6_finish_28 0 rfl ?_
  refine v_imulN g dX6_finish_30 ?_
  refine v_toi (nI 12) rfl ?_
  refine v_lushrN g (by omega) (by decide) dX6_finish_31 ?_
  refine v_aload_n g dX6_finish_32 0 rfl 3 rfl ?_
  refine gf_X6_11 g dX6_finish_33 0 rfl rfl ?_
  refine v_iload g dX6_finish_36 0 rfl ?_
  refine v_iconst g dX6_finish_38 (v := nI 1) (by decide +kernel) ?_
  refine v_iaddN g dX6_finish_39 ?_
  refine v_toi (nI 3) rfl ?_
  refine v_laldL g 1 rfl (by decide) (by decide) dX6_finish_40 ?_
  refine v_tol (lN z3) rfl ?_
  refine v_bipush g dX6_finish_41 (v := nI 26) (by decide +kernel) ?_
  refine v_bipush g dX6_finish_43 (v := nI 6) (by decide +kernel) ?_
  refine v_iload g dX6_finish_45 0 rfl ?_
  refine v_imulN g dX6_finish_47 ?_
  refine v_toi (nI 12) rfl ?_
  refine v_isubN g dX6_finish_48 (by decide) ?_
  refine v_toi (nI 14) rfl ?_
  refine v_lshlN g (by decide) dX6_finish_49 ?_
  refine v_lorN g dX6_finish_50 ?_
  refine v_tol (lN ((z2 / 2 ^ 12) + (z3 * 2 ^ 14))) (congrArg lN (or_add (k := 14) (by omega))) ?_
  refine v_lstore g [(5, .long (lN ((z2 / 2 ^ 12) + (z3 * 2 ^ 14)))), (4, .int (nI 2)), (2, .long (lN S5)), (0, .ref a0), (1, .ref a1)] dX6_finish_51 (by decide) rfl ?_
  refine v_lload_n g dX6_finish_53 2 rfl 2 rfl ?_
  refine v_bipush g dX6_finish_54 (v := nI 32) (by decide +kernel) ?_
  refine v_lushrN g (by omega) (by decide) dX6_finish_56 ?_
  refine v_lload g dX6_finish_57 0 rfl ?_
  refine v_ldc2 g dX6_finish_59 kl_X6_42 ?_
  refine v_landM g 32 (by decide) dX6_finish_62 ?_
  refine v_laddN g dX6_finish_63 ?_
  refine v_aload_n g dX6_finish_64 0 rfl 3 rfl ?_
  refine gf_X6_21 g dX6_finish_65 0 rfl rfl ?_
  refine v_iload g dX6_finish_68 1 rfl ?_
  refine v_laldL g 2 rfl (by decide) (by decide) dX6_finish_70 ?_
  refine v_laddN g dX6_finish_71 ?_
  refine v_nmL (fun S7 hS7 => ?_)
  refine v_lstore_n g [(2, .long (lN S7)), (5, .long (lN ((z2 / 2 ^ 12) + (z3 * 2 ^ 14)))), (4, .int (nI 2)), (0, .ref a0), (1, .ref a1)] dX6_finish_72 2 rfl (by decide) rfl ?_
  refine v_aload_n g dX6_finish_73 1 rfl 4 rfl ?_
  refine v_iconst g dX6_finish_74 (v := nI 4) (by decide +kernel) ?_
  refine v_iload g dX6_finish_75 2 rfl ?_
  refine v_imulN g dX6_finish_77 ?_
  refine v_toi (nI 8) rfl ?_
  refine v_iconst g dX6_finish_78 (v := nI 4) (by decide +kernel) ?_
  refine v_lload_n g dX6_finish_79 2 rfl 0 rfl ?_
  refine v_callSN (As := [.ref a1, .int (nI 8), .int (nI 4), .long (lN S7)]) (rest := []) (wr := [(a0, .inr (6, [.ref a0_a, .ref a0_r, .ref a0_product, .ref a0_s, .ref a0_piece])), (a0_a, aL C.D 5 (v5 z0 z1 z2 z3 z4)), (a0_s, aL C.D 4 t_a0_s)]) cw_X6_59 cl_X6_59 (hy_X7_writeBytes) g (c_writeBytes C.l C.D a1 8 4 (BitVec.ofNat 64 S7) n1 (wb (wb t_a1 0 4 (BitVec.ofNat 64 S3)) 4 4 (BitVec.ofNat 64 S5)) (by omega) (by decide) (by omega)) dX6_finish_80 rfl (by decide) (by decide) (Nat.le_of_ble_eq_true rfl) [3] [0, 1, 2] rfl rfl (by decide) rfl (by decide) (by decide) _ rfl (fun r wo hp8 => ?_)
  obtain ⟨rfl, rfl⟩ := hp8
  show VJ C 0 0 83 [(2, .long (lN S7)), (5, .long (lN ((z2 / 2 ^ 12) + (z3 * 2 ^ 14)))), (4, .int (nI 2)), (0, .ref a0), (1, .ref a1)] [] [(a0, .inr (6, [.ref a0_a, .ref a0_r, .ref a0_product, .ref a0_s, .ref a0_piece])), (a0_a, aL C.D 5 (v5 z0 z1 z2 z3 z4)), (a0_s, aL C.D 4 t_a0_s), (a1, aB C.D n1 (wb (wb (wb t_a1 0 4 (BitVec.ofNat 64 S3)) 4 4 (BitVec.ofNat 64 S5)) 8 4 (BitVec.ofNat 64 S7)))]
  refine v_iincN g 1 [(4, .int (nI 3)), (2, .long (lN S7)), (5, .long (lN ((z2 / 2 ^ 12) + (z3 * 2 ^ 14)))), (0, .ref a0), (1, .ref a1)] dX6_finish_83 2 rfl (by decide +kernel) (by decide) rfl ?_
  refine v_goto g 13 dX6_finish_86 (by decide) ?_
  refine v_iload g dX6_finish_13 0 rfl ?_
  refine v_iconst g dX6_finish_15 (v := nI 4) (by decide +kernel) ?_
  refine v_icmp_geN g 89 dX6_finish_16 (by decide) (by decide) (by decide) (fun h => absurd h (by decide)) (fun _ => ?_)
  refine v_aload_n g dX6_finish_19 0 rfl 3 rfl ?_
  refine gf_X6_11 g dX6_finish_20 0 rfl rfl ?_
  refine v_iload g dX6_finish_23 0 rfl ?_
  refine v_laldL g 1 rfl (by decide) (by decide) dX6_finish_25 ?_
  refine v_tol (lN z3) rfl ?_
  refine v_bipush g dX6_finish_26 (v := nI 6) (by decide +kernel) ?_
  refine v_iload g dX6_finish_28 0 rfl ?_
  refine v_imulN g dX6_finish_30 ?_
  refine v_toi (nI 18) rfl ?_
  refine v_lushrN g (by omega) (by decide) dX6_finish_31 ?_
  refine v_aload_n g dX6_finish_32 0 rfl 3 rfl ?_
  refine gf_X6_11 g dX6_finish_33 0 rfl rfl ?_
  refine v_iload g dX6_finish_36 0 rfl ?_
  refine v_iconst g dX6_finish_38 (v := nI 1) (by decide +kernel) ?_
  refine v_iaddN g dX6_finish_39 ?_
  refine v_toi (nI 4) rfl ?_
  refine v_laldL g 1 rfl (by decide) (by decide) dX6_finish_40 ?_
  refine v_tol (lN z4) rfl ?_
  refine v_bipush g dX6_finish_41 (v := nI 26) (by decide +kernel) ?_
  refine v_bipush g dX6_finish_43 (v := nI 6) (by decide +kernel) ?_
  refine v_iload g dX6_finish_45 0 rfl ?_
  refine v_imulN g dX6_finish_47 ?_
  refine v_toi (nI 18) rfl ?_
  refine v_isubN g dX6_finish_48 (by decide) ?_
  refine v_toi (nI 8) rfl ?_
  refine v_lshlN g (by decide) dX6_finish_49 ?_
  refine v_lorN g dX6_finish_50 ?_
  refine v_tol (lN ((z3 / 2 ^ 18) + (z4 * 2 ^ 8))) (congrArg lN (or_add (k := 8) (by omega))) ?_
  refine v_lstore g [(5, .long (lN ((z3 / 2 ^ 18) + (z4 * 2 ^ 8)))), (4, .int (nI 3)), (2, .long (lN S7)), (0, .ref a0), (1, .ref a1)] dX6_finish_51 (by decide) rfl ?_
  refine v_lload_n g dX6_finish_53 2 rfl 2 rfl ?_
  refine v_bipush g dX6_finish_54 (v := nI 32) (by decide +kernel) ?_
  refine v_lushrN g (by omega) (by decide) dX6_finish_56 ?_
  refine v_lload g dX6_finish_57 0 rfl ?_
  refine v_ldc2 g dX6_finish_59 kl_X6_42 ?_
  refine v_landM g 32 (by decide) dX6_finish_62 ?_
  refine v_laddN g dX6_finish_63 ?_
  refine v_aload_n g dX6_finish_64 0 rfl 3 rfl ?_
  refine gf_X6_21 g dX6_finish_65 0 rfl rfl ?_
  refine v_iload g dX6_finish_68 1 rfl ?_
  refine v_laldL g 2 rfl (by decide) (by decide) dX6_finish_70 ?_
  refine v_laddN g dX6_finish_71 ?_
  refine v_nmL (fun S9 hS9 => ?_)
  refine v_lstore_n g [(2, .long (lN S9)), (5, .long (lN ((z3 / 2 ^ 18) + (z4 * 2 ^ 8)))), (4, .int (nI 3)), (0, .ref a0), (1, .ref a1)] dX6_finish_72 2 rfl (by decide) rfl ?_
  refine v_aload_n g dX6_finish_73 1 rfl 4 rfl ?_
  refine v_iconst g dX6_finish_74 (v := nI 4) (by decide +kernel) ?_
  refine v_iload g dX6_finish_75 2 rfl ?_
  refine v_imulN g dX6_finish_77 ?_
  refine v_toi (nI 12) rfl ?_
  refine v_iconst g dX6_finish_78 (v := nI 4) (by decide +kernel) ?_
  refine v_lload_n g dX6_finish_79 2 rfl 0 rfl ?_
  refine v_callSN (As := [.ref a1, .int (nI 12), .int (nI 4), .long (lN S9)]) (rest := []) (wr := [(a0, .inr (6, [.ref a0_a, .ref a0_r, .ref a0_product, .ref a0_s, .ref a0_piece])), (a0_a, aL C.D 5 (v5 z0 z1 z2 z3 z4)), (a0_s, aL C.D 4 t_a0_s)]) cw_X6_59 cl_X6_59 (hy_X7_writeBytes) g (c_writeBytes C.l C.D a1 12 4 (BitVec.ofNat 64 S9) n1 (wb (wb (wb t_a1 0 4 (BitVec.ofNat 64 S3)) 4 4 (BitVec.ofNat 64 S5)) 8 4 (BitVec.ofNat 64 S7)) (by omega) (by decide) (by omega)) dX6_finish_80 rfl (by decide) (by decide) (Nat.le_of_ble_eq_true rfl) [3] [0, 1, 2] rfl rfl (by decide) rfl (by decide) (by decide) _ rfl (fun r wo hp10 => ?_)
  obtain ⟨rfl, rfl⟩ := hp10
  show VJ C 0 0 83 [(2, .long (lN S9)), (5, .long (lN ((z3 / 2 ^ 18) + (z4 * 2 ^ 8)))), (4, .int (nI 3)), (0, .ref a0), (1, .ref a1)] [] [(a0, .inr (6, [.ref a0_a, .ref a0_r, .ref a0_product, .ref a0_s, .ref a0_piece])), (a0_a, aL C.D 5 (v5 z0 z1 z2 z3 z4)), (a0_s, aL C.D 4 t_a0_s), (a1, aB C.D n1 (wb (wb (wb (wb t_a1 0 4 (BitVec.ofNat 64 S3)) 4 4 (BitVec.ofNat 64 S5)) 8 4 (BitVec.ofNat 64 S7)) 12 4 (BitVec.ofNat 64 S9)))]
  refine v_iincN g 1 [(4, .int (nI 4)), (2, .long (lN S9)), (5, .long (lN ((z3 / 2 ^ 18) + (z4 * 2 ^ 8)))), (0, .ref a0), (1, .ref a1)] dX6_finish_83 2 rfl (by decide +kernel) (by decide) rfl ?_
  refine v_goto g 13 dX6_finish_86 (by decide) ?_
  refine v_iload g dX6_finish_13 0 rfl ?_
  refine v_iconst g dX6_finish_15 (v := nI 4) (by decide +kernel) ?_
  refine v_icmp_geN g 89 dX6_finish_16 (by decide) (by decide) (by decide) (fun _ => ?_) (fun h => absurd h (by decide))
  obtain ⟨zq0, zq1, zq2, zq3, zb0, zb1, zb2, zb3⟩ := po_sum hr0 hr1 hr2 hr3 hr4 g0 g1 g2 g3 hS3 hS5 hS7 hS9
  exact v_ret g R dX6_finish_89 (by decide) (by decide) ⟨z0, z1, z2, z3, z4, wb (wb (wb (wb t_a1 0 4 (BitVec.ofNat 64 S3)) 4 4 (BitVec.ofNat 64 S5)) 8 4 (BitVec.ofNat 64 S7)) 12 4 (BitVec.ofNat 64 S9), rfl, rfl, (fun j hj => by rw [← hv]; exact po_out zq0 zq1 zq2 zq3 zb0 zb1 zb2 zb3 j hj), (fun j hj => by rw [wb_out (by omega), wb_out (by omega), wb_out (by omega), wb_out (by omega)])⟩
