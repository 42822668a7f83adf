/-! the box's methods: what they make -/
def talF (key t : Nat → By) (n : Nat) : Nat → By := fun j => BitVec.ofNat 8 ((po_it (po_R key) t 0 n 0 0 ((n + 15) / 16) + tagS key) / 256 ^ j)
def ouF (t : Nat → By) (k : Nat) : Nat → BitVec 64
  | 0 => 0#64
  | i + 1 => ouF t k i ||| (t (k + i)).setWidth 64 <<< (8 * i)
theorem ou_b : ∀ b : By, (b.signExtend 32).signExtend 64 &&& 255#64 = b.setWidth 64 := by decide +kernel
theorem b_255 : ∀ b : By, wI (b.setWidth 32) = nI b.toNat := by decide +kernel
theorem labF_congr {k k' ctx ctx' : Nat → By} {n w c m : Nat} (hk : ∀ j, j < n → k j = k' j) (hc : ∀ j, j < c → ctx j = ctx' j) : labF k n w ctx c m = labF k' n w ctx' c m := by
  unfold labF
  refine strF_congr hk (fun j hj => ?_)
  unfold infF
  by_cases h0 : j = 0
  · rw [if_pos h0, if_pos h0]
  rw [if_neg h0, if_neg h0]
  by_cases h1 : j = 1
  · rw [if_pos h1, if_pos h1]
  rw [if_neg h1, if_neg h1]
  by_cases h2 : j = 2
  · rw [if_pos h2, if_pos h2]
  rw [if_neg h2, if_neg h2]
  by_cases h3 : j < 3 + lbN w
  · rw [if_pos h3, if_pos h3]
  rw [if_neg h3, if_neg h3]
  by_cases h4 : j = 3 + lbN w
  · rw [if_pos h4, if_pos h4]
  rw [if_neg h4, if_neg h4]
  exact hc _ (by omega)
theorem cp32 {t t' : Nat → By} : ∀ j, j < 32 → va_cpy t t' 0 0 32 j = t j := fun j hj => by rw [pk_cpy_in (by omega) (by omega), Nat.zero_add, Nat.sub_zero]
theorem dX7_feed_0 : decode cX7_feed 0 = .ok (.iload_n 1, 1) := by decide +kernel
theorem dX7_feed_1 : decode cX7_feed 1 = .ok (.iconst 1, 1) := by decide +kernel
theorem dX7_feed_2 : decode cX7_feed 2 = .ok (.if_icmp .lt 9, 3) := by decide +kernel
theorem dX7_feed_5 : decode cX7_feed 5 = .ok (.iload_n 1, 1) := by decide +kernel
theorem dX7_feed_6 : decode cX7_feed 6 = .ok (.bipush 8, 2) := by decide +kernel
theorem dX7_feed_8 : decode cX7_feed 8 = .ok (.if_icmp .le 13, 3) := by decide +kernel
theorem dX7_feed_11 : decode cX7_feed 11 = .ok (.new 74, 3) := by decide +kernel
theorem dX7_feed_14 : decode cX7_feed 14 = .ok (.dup, 1) := by decide +kernel
theorem dX7_feed_15 : decode cX7_feed 15 = .ok (.ldc 76, 2) := by decide +kernel
theorem dX7_feed_17 : decode cX7_feed 17 = .ok (.invokespecial 78, 3) := by decide +kernel
theorem dX7_feed_20 : decode cX7_feed 20 = .ok (.athrow, 1) := by decide +kernel
theorem dX7_feed_21 : decode cX7_feed 21 = .ok (.aload_n 0, 1) := by decide +kernel
theorem dX7_feed_22 : decode cX7_feed 22 = .ok (.getfield 14, 3) := by decide +kernel
theorem dX7_feed_25 : decode cX7_feed 25 = .ok (.getfield 81, 3) := by decide +kernel
theorem dX7_feed_28 : decode cX7_feed 28 = .ok (.iload_n 1, 1) := by decide +kernel
theorem dX7_feed_29 : decode cX7_feed 29 = .ok (.iadd, 1) := by decide +kernel
theorem dX7_feed_30 : decode cX7_feed 30 = .ok (.sipush 2048, 3) := by decide +kernel
theorem dX7_feed_33 : decode cX7_feed 33 = .ok (.if_icmp .le 13, 3) := by decide +kernel
theorem dX7_feed_36 : decode cX7_feed 36 = .ok (.new 85, 3) := by decide +kernel
theorem dX7_feed_39 : decode cX7_feed 39 = .ok (.dup, 1) := by decide +kernel
theorem dX7_feed_40 : decode cX7_feed 40 = .ok (.ldc 87, 2) := by decide +kernel
theorem dX7_feed_42 : decode cX7_feed 42 = .ok (.invokespecial 89, 3) := by decide +kernel
theorem dX7_feed_45 : decode cX7_feed 45 = .ok (.athrow, 1) := by decide +kernel
theorem dX7_feed_46 : decode cX7_feed 46 = .ok (.iconst 0, 1) := by decide +kernel
theorem dX7_feed_47 : decode cX7_feed 47 = .ok (.istore 4, 2) := by decide +kernel
theorem dX7_feed_49 : decode cX7_feed 49 = .ok (.iload 4, 2) := by decide +kernel
theorem dX7_feed_51 : decode cX7_feed 51 = .ok (.iload_n 1, 1) := by decide +kernel
theorem dX7_feed_52 : decode cX7_feed 52 = .ok (.if_icmp .ge 24, 3) := by decide +kernel
theorem dX7_feed_55 : decode cX7_feed 55 = .ok (.aload_n 0, 1) := by decide +kernel
theorem dX7_feed_56 : decode cX7_feed 56 = .ok (.getfield 14, 3) := by decide +kernel
theorem dX7_feed_59 : decode cX7_feed 59 = .ok (.lload_n 2, 1) := by decide +kernel
theorem dX7_feed_60 : decode cX7_feed 60 = .ok (.bipush 8, 2) := by decide +kernel
theorem dX7_feed_62 : decode cX7_feed 62 = .ok (.iload 4, 2) := by decide +kernel
theorem dX7_feed_64 : decode cX7_feed 64 = .ok (.imul, 1) := by decide +kernel
theorem dX7_feed_65 : decode cX7_feed 65 = .ok (.lushr, 1) := by decide +kernel
theorem dX7_feed_66 : decode cX7_feed 66 = .ok (.l2i, 1) := by decide +kernel
theorem dX7_feed_67 : decode cX7_feed 67 = .ok (.invokevirtual 90, 3) := by decide +kernel
theorem dX7_feed_70 : decode cX7_feed 70 = .ok (.iinc 4 1, 3) := by decide +kernel
theorem dX7_feed_73 : decode cX7_feed 73 = .ok (.goto (-24), 3) := by decide +kernel
theorem dX7_feed_76 : decode cX7_feed 76 = .ok (.aload_n 0, 1) := by decide +kernel
theorem dX7_feed_77 : decode cX7_feed 77 = .ok (.getfield 14, 3) := by decide +kernel
theorem dX7_feed_80 : decode cX7_feed 80 = .ok (.getfield 81, 3) := by decide +kernel
theorem dX7_feed_83 : decode cX7_feed 83 = .ok (.ireturn, 1) := by decide +kernel
theorem dX7_wipe_0 : decode cX7_wipe 0 = .ok (.aload_n 0, 1) := by decide +kernel
theorem dX7_wipe_1 : decode cX7_wipe 1 = .ok (.getfield 14, 3) := by decide +kernel
theorem dX7_wipe_4 : decode cX7_wipe 4 = .ok (.getfield 81, 3) := by decide +kernel
theorem dX7_wipe_7 : decode cX7_wipe 7 = .ok (.istore_n 1, 1) := by decide +kernel
theorem dX7_wipe_8 : decode cX7_wipe 8 = .ok (.aload_n 0, 1) := by decide +kernel
theorem dX7_wipe_9 : decode cX7_wipe 9 = .ok (.getfield 14, 3) := by decide +kernel
theorem dX7_wipe_12 : decode cX7_wipe 12 = .ok (.iconst 0, 1) := by decide +kernel
theorem dX7_wipe_13 : decode cX7_wipe 13 = .ok (.putfield 81, 3) := by decide +kernel
theorem dX7_wipe_16 : decode cX7_wipe 16 = .ok (.iload_n 1, 1) := by decide +kernel
theorem dX7_wipe_17 : decode cX7_wipe 17 = .ok (.ireturn, 1) := by decide +kernel
theorem dX7_keep_0 : decode cX7_keep 0 = .ok (.iload_n 1, 1) := by decide +kernel
theorem dX7_keep_1 : decode cX7_keep 1 = .ok (.invokestatic 93, 3) := by decide +kernel
theorem dX7_keep_4 : decode cX7_keep 4 = .ok (.iload_n 2, 1) := by decide +kernel
theorem dX7_keep_5 : decode cX7_keep 5 = .ok (.ifCond .eq 10, 3) := by decide +kernel
theorem dX7_keep_8 : decode cX7_keep 8 = .ok (.aload_n 0, 1) := by decide +kernel
theorem dX7_keep_9 : decode cX7_keep 9 = .ok (.getfield 18, 3) := by decide +kernel
theorem dX7_keep_12 : decode cX7_keep 12 = .ok (.goto 7, 3) := by decide +kernel
theorem dX7_keep_15 : decode cX7_keep 15 = .ok (.aload_n 0, 1) := by decide +kernel
theorem dX7_keep_16 : decode cX7_keep 16 = .ok (.getfield 14, 3) := by decide +kernel
theorem dX7_keep_19 : decode cX7_keep 19 = .ok (.astore_n 3, 1) := by decide +kernel
theorem dX7_keep_20 : decode cX7_keep 20 = .ok (.aload_n 3, 1) := by decide +kernel
theorem dX7_keep_21 : decode cX7_keep 21 = .ok (.getfield 81, 3) := by decide +kernel
theorem dX7_keep_24 : decode cX7_keep 24 = .ok (.sipush 128, 3) := by decide +kernel
theorem dX7_keep_27 : decode cX7_keep 27 = .ok (.if_icmp .le 13, 3) := by decide +kernel
theorem dX7_keep_30 : decode cX7_keep 30 = .ok (.new 85, 3) := by decide +kernel
theorem dX7_keep_33 : decode cX7_keep 33 = .ok (.dup, 1) := by decide +kernel
theorem dX7_keep_34 : decode cX7_keep 34 = .ok (.ldc 96, 2) := by decide +kernel
theorem dX7_keep_36 : decode cX7_keep 36 = .ok (.invokespecial 89, 3) := by decide +kernel
theorem dX7_keep_39 : decode cX7_keep 39 = .ok (.athrow, 1) := by decide +kernel
theorem dX7_keep_40 : decode cX7_keep 40 = .ok (.aload_n 0, 1) := by decide +kernel
theorem dX7_keep_41 : decode cX7_keep 41 = .ok (.getfield 24, 3) := by decide +kernel
theorem dX7_keep_44 : decode cX7_keep 44 = .ok (.iload_n 1, 1) := by decide +kernel
theorem dX7_keep_45 : decode cX7_keep 45 = .ok (.aaload, 1) := by decide +kernel
theorem dX7_keep_46 : decode cX7_keep 46 = .ok (.aload_n 3, 1) := by decide +kernel
theorem dX7_keep_47 : decode cX7_keep 47 = .ok (.invokevirtual 98, 3) := by decide +kernel
theorem dX7_keep_50 : decode cX7_keep 50 = .ok (.iload_n 2, 1) := by decide +kernel
theorem dX7_keep_51 : decode cX7_keep 51 = .ok (.ifCond .ne 11, 3) := by decide +kernel
theorem dX7_keep_54 : decode cX7_keep 54 = .ok (.aload_n 0, 1) := by decide +kernel
theorem dX7_keep_55 : decode cX7_keep 55 = .ok (.getfield 14, 3) := by decide +kernel
theorem dX7_keep_58 : decode cX7_keep 58 = .ok (.iconst 0, 1) := by decide +kernel
theorem dX7_keep_59 : decode cX7_keep 59 = .ok (.putfield 81, 3) := by decide +kernel
theorem dX7_keep_62 : decode cX7_keep 62 = .ok (.aload_n 0, 1) := by decide +kernel
theorem dX7_keep_63 : decode cX7_keep 63 = .ok (.getfield 24, 3) := by decide +kernel
theorem dX7_keep_66 : decode cX7_keep 66 = .ok (.iload_n 1, 1) := by decide +kernel
theorem dX7_keep_67 : decode cX7_keep 67 = .ok (.aaload, 1) := by decide +kernel
theorem dX7_keep_68 : decode cX7_keep 68 = .ok (.getfield 81, 3) := by decide +kernel
theorem dX7_keep_71 : decode cX7_keep 71 = .ok (.ireturn, 1) := by decide +kernel
set_option maxHeartbeats 4000000 in
set_option maxRecDepth 100000 in
theorem c_B_feed (l : Launch) (D : va_G) (a0 : Nat) (p1 : Nat) (p2 : BitVec 64) (a0_tape : Nat) (a0_made : Nat) (a0_nothing : Nat) (a0_slots : Nat) (a0_guards : Nat) (a0_digester : Nat) (a0_keyMaker : Nat) (a0_keyStream : Nat) (a0_tallier : Nat) (a0_sealer : Nat) (a0_tape_bytes : Nat) (v_a0_tape_count : Nat) (t_a0_tape_bytes : Nat → By)  (h1 : 1 ≤ p1) (h2 : p1 ≤ 8) (h3 : v_a0_tape_count + p1 ≤ 2048) : vM l D yX7_feed cX7_feed 5 (some .int) { frames := 1, cells := 0, slots := 0, locals := 21 } [.ref a0, .int (nI p1), .long (xL p2)] [(a0, .inr (7, [.ref a0_tape, .ref a0_made, .ref a0_nothing, .ref a0_slots, .ref a0_guards, .ref a0_digester, .ref a0_keyMaker, .ref a0_keyStream, .ref a0_tallier, .ref a0_sealer])), (a0_tape, .inr (4, [.ref a0_tape_bytes, .int (nI v_a0_tape_count)])), (a0_tape_bytes, aB D 2048 t_a0_tape_bytes)] (fun r wo => r = some (.int (nI (v_a0_tape_count + p1))) ∧ wo = [(a0, .inr (7, [.ref a0_tape, .ref a0_made, .ref a0_nothing, .ref a0_slots, .ref a0_guards, .ref a0_digester, .ref a0_keyMaker, .ref a0_keyStream, .ref a0_tallier, .ref a0_sealer])), (a0_tape, .inr (4, [.ref a0_tape_bytes, .int (nI (v_a0_tape_count + p1))])), (a0_tape_bytes, aB D 2048 (wb t_a0_tape_bytes v_a0_tape_count p1 p2))]) := by
  refine vM.of (by decide) (Nat.le_of_ble_eq_true rfl) (fun C hCl hCD g R => ?_)
  subst hCl; subst hCD
  show VJ C 0 0 0 [(0, .ref a0), (1, .int (nI p1)), (2, .long (xL p2))] [] [(a0, .inr (7, [.ref a0_tape, .ref a0_made, .ref a0_nothing, .ref a0_slots, .ref a0_guards, .ref a0_digester, .ref a0_keyMaker, .ref a0_keyStream, .ref a0_tallier, .ref a0_sealer])), (a0_tape, .inr (4, [.ref a0_tape_bytes, .int (nI v_a0_tape_count)])), (a0_tape_bytes, aB C.D 2048 t_a0_tape_bytes)]
  refine v_iload_n g dX7_feed_0 1 rfl 1 rfl ?_
  refine v_iconst g dX7_feed_1 (v := nI 1) (by decide +kernel) ?_
  refine v_icmp_ltN g 11 dX7_feed_2 (by decide) (by omega) (by omega) (fun h => absurd h (by omega)) (fun _ => ?_)
  refine v_iload_n g dX7_feed_5 1 rfl 1 rfl ?_
  refine v_bipush g dX7_feed_6 (v := nI 8) (by decide +kernel) ?_
  refine v_icmp_leN g 21 dX7_feed_8 (by decide) (by omega) (by omega) (fun _ => ?_) (fun h => absurd h (by omega))
  refine v_aload_n g dX7_feed_21 0 rfl 0 rfl ?_
  refine gf_X7_14 g dX7_feed_22 0 rfl rfl ?_
  refine gf_X7_81 g dX7_feed_25 1 rfl rfl ?_
  refine v_iload_n g dX7_feed_28 1 rfl 1 rfl ?_
  refine v_iaddN g dX7_feed_29 ?_
  refine v_sipush g dX7_feed_30 (v := nI 2048) (by decide +kernel) ?_
  refine v_icmp_leN g 46 dX7_feed_33 (by decide) (by omega) (by omega) (fun _ => ?_) (fun h => absurd h (by omega))
  refine v_iconst g dX7_feed_46 (v := nI 0) (by decide +kernel) ?_
  refine v_istore g [(4, .int (nI 0)), (0, .ref a0), (1, .int (nI p1)), (2, .long (xL p2))] dX7_feed_47 (by decide) rfl ?_
  have L49_0 : ∀ i : Nat, i ≤ p1 → ∀ (tt : Nat → By) (cn : Nat), (tt = wb t_a0_tape_bytes v_a0_tape_count i p2) → (cn = v_a0_tape_count + i) → VJ C 0 0 49 [(4, .int (nI i)), (0, .ref a0), (1, .int (nI p1)), (2, .long (xL p2))] [] [(a0, .inr (7, [.ref a0_tape, .ref a0_made, .ref a0_nothing, .ref a0_slots, .ref a0_guards, .ref a0_digester, .ref a0_keyMaker, .ref a0_keyStream, .ref a0_tallier, .ref a0_sealer])), (a0_tape, .inr (4, [.ref a0_tape_bytes, .int (nI cn)])), (a0_tape_bytes, aB C.D 2048 tt)] := by
    refine v_for (p1) ?_ ?_
    · skip
      intro i hii ih tt cn hv0 hv1
      refine v_iload g dX7_feed_49 0 rfl ?_
      refine v_iload_n g dX7_feed_51 1 rfl 2 rfl ?_
      refine v_icmp_geN g 76 dX7_feed_52 (by decide) (by omega) (by omega) (fun h4 => ?_) (fun h4 => ?_)
      · skip
        exact absurd h4 (by omega)
      · skip
        subst hv0; subst hv1
        show VJ C 0 0 55 [(4, .int (nI i)), (0, .ref a0), (1, .int (nI p1)), (2, .long (xL p2))] [] [(a0, .inr (7, [.ref a0_tape, .ref a0_made, .ref a0_nothing, .ref a0_slots, .ref a0_guards, .ref a0_digester, .ref a0_keyMaker, .ref a0_keyStream, .ref a0_tallier, .ref a0_sealer])), (a0_tape, .inr (4, [.ref a0_tape_bytes, .int (nI (v_a0_tape_count + i))])), (a0_tape_bytes, aB C.D 2048 (wb t_a0_tape_bytes v_a0_tape_count i p2))]
        refine v_aload_n g dX7_feed_55 0 rfl 1 rfl ?_
        refine gf_X7_14 g dX7_feed_56 0 rfl rfl ?_
        refine v_lload_n g dX7_feed_59 2 rfl 3 rfl ?_
        refine v_bipush g dX7_feed_60 (v := nI 8) (by decide +kernel) ?_
        refine v_iload g dX7_feed_62 0 rfl ?_
        refine v_imulN g dX7_feed_64 ?_
        refine v_lushrX g (by omega) dX7_feed_65 ?_
        refine v_l2iX g dX7_feed_66 ?_
        refine v_callV (As := [.int (wI ((p2 >>> (8 * i)).setWidth 32))]) (rest := []) (wr := [(a0, .inr (7, [.ref a0_tape, .ref a0_made, .ref a0_nothing, .ref a0_slots, .ref a0_guards, .ref a0_digester, .ref a0_keyMaker, .ref a0_keyStream, .ref a0_tallier, .ref a0_sealer]))]) cw_X7_90 (hy_X4_add) g (c_RW_add C.l C.D a0_tape ((p2 >>> (8 * i)).setWidth 32) a0_tape_bytes (v_a0_tape_count + i) 2048 (wb t_a0_tape_bytes v_a0_tape_count i p2) (by omega) (by omega)) dX7_feed_67 1 rfl rfl rfl (by decide) (by decide) (Nat.le_of_ble_eq_true rfl) [1, 2] [0] rfl rfl (by decide) rfl (by decide) (by decide) _ rfl (fun r wo hp5 => ?_)
        obtain ⟨rfl, rfl⟩ := hp5
        show VJ C 0 0 70 [(4, .int (nI i)), (0, .ref a0), (1, .int (nI p1)), (2, .long (xL p2))] [] [(a0, .inr (7, [.ref a0_tape, .ref a0_made, .ref a0_nothing, .ref a0_slots, .ref a0_guards, .ref a0_digester, .ref a0_keyMaker, .ref a0_keyStream, .ref a0_tallier, .ref a0_sealer])), (a0_tape, .inr (4, [.ref a0_tape_bytes, .int (nI ((v_a0_tape_count + i) + 1))])), (a0_tape_bytes, aB C.D 2048 (va_up (wb t_a0_tape_bytes v_a0_tape_count i p2) (v_a0_tape_count + i) (((p2 >>> (8 * i)).setWidth 32).setWidth 8)))]
        refine v_iincN g 1 [(4, .int (nI (i + 1))), (0, .ref a0), (1, .int (nI p1)), (2, .long (xL p2))] dX7_feed_70 0 rfl (by decide +kernel) (by decide) rfl ?_
        refine v_goto g 49 dX7_feed_73 (by decide) ?_
        exact ih (va_up (wb t_a0_tape_bytes v_a0_tape_count i p2) (v_a0_tape_count + i) (((p2 >>> (8 * i)).setWidth 32).setWidth 8)) ((v_a0_tape_count + i) + 1) (wb_s _ _ _ _) (by omega)
    · skip
      intro tt cn hv0 hv1
      refine v_iload g dX7_feed_49 0 rfl ?_
      refine v_iload_n g dX7_feed_51 1 rfl 2 rfl ?_
      refine v_icmp_geN g 76 dX7_feed_52 (by decide) (by omega) (by omega) (fun h6 => ?_) (fun h6 => ?_)
      · skip
        subst hv0; subst hv1
        refine v_aload_n g dX7_feed_76 0 rfl 1 rfl ?_
        refine gf_X7_14 g dX7_feed_77 0 rfl rfl ?_
        refine gf_X7_81 g dX7_feed_80 1 rfl rfl ?_
        exact v_iret g R dX7_feed_83 (by decide) (by decide) ⟨rfl, rfl⟩
      · skip
        exact absurd h6 (by omega)
  exact L49_0 0 (by omega) t_a0_tape_bytes v_a0_tape_count ((wb_0 _ _ _).symm) rfl
set_option maxHeartbeats 4000000 in
set_option maxRecDepth 100000 in
theorem x_B_feed1 (l : Launch) (hL : noTr l) (D : va_G) (a0 : Nat) (p1 : Int32) (p2 : BitVec 64)  (h0 : p1 < nI 1 ∨ nI 8 < p1) : vMX l D yX7_feed cX7_feed 5 (some .int) { frames := 6, cells := 1, slots := 6, locals := 82 } [.ref a0, .int p1, .long (xL p2)] [] "java/lang/IllegalArgumentException" := by
  refine vMX.of (by decide) (Nat.le_of_ble_eq_true rfl) (fun C hCl hCD g R => ?_)
  subst hCl; subst hCD
  show VJ C 0 0 0 [(0, .ref a0), (1, .int p1), (2, .long (xL p2))] [] []
  refine v_iload_n g dX7_feed_0 1 rfl 1 rfl ?_
  refine v_iconst g dX7_feed_1 (v := nI 1) (by decide +kernel) ?_
  refine v_icmp_lt g 11 dX7_feed_2 (by decide) (fun h1 => ?_) (fun h1 => ?_)
  · skip
    exact v_throw g hL R th_78 (List.mem_of_getElem? (i := 319) (by decide +kernel)) (List.mem_of_getElem? (i := 320) (by decide +kernel)) (List.mem_of_getElem? (i := 55) (by decide +kernel)) (by decide +kernel) (g.gx.2.2.2.2.2.1 (76, "feed takes 1 to 8 bytes") (by decide)) dX7_feed_11 dX7_feed_14 dX7_feed_15 dX7_feed_17 dX7_feed_20 (by decide) (by decide) (by decide) (by decide)
  · skip
    refine v_iload_n g dX7_feed_5 1 rfl 1 rfl ?_
    refine v_bipush g dX7_feed_6 (v := nI 8) (by decide +kernel) ?_
    refine v_icmp_le g 21 dX7_feed_8 (by decide) (fun h2 => ?_) (fun h2 => ?_)
    · skip
      exact absurd h2 (h0.elim (fun q => absurd q h1) i_lt_nle)
    · skip
      exact v_throw g hL R th_78 (List.mem_of_getElem? (i := 319) (by decide +kernel)) (List.mem_of_getElem? (i := 320) (by decide +kernel)) (List.mem_of_getElem? (i := 55) (by decide +kernel)) (by decide +kernel) (g.gx.2.2.2.2.2.1 (76, "feed takes 1 to 8 bytes") (by decide)) dX7_feed_11 dX7_feed_14 dX7_feed_15 dX7_feed_17 dX7_feed_20 (by decide) (by decide) (by decide) (by decide)
set_option maxHeartbeats 4000000 in
set_option maxRecDepth 100000 in
theorem x_B_feed2 (l : Launch) (hL : noTr l) (D : va_G) (a0 : Nat) (p1 : Nat) (p2 : BitVec 64) (a0_tape : Nat) (a0_made : Nat) (a0_nothing : Nat) (a0_slots : Nat) (a0_guards : Nat) (a0_digester : Nat) (a0_keyMaker : Nat) (a0_keyStream : Nat) (a0_tallier : Nat) (a0_sealer : Nat) (a0_tape_bytes : Nat) (v_a0_tape_count : Nat)  (h1 : 1 ≤ p1) (h2 : p1 ≤ 8) (h3 : 2048 < v_a0_tape_count + p1) (hT : v_a0_tape_count ≤ 2048) : vMX l D yX7_feed cX7_feed 5 (some .int) { frames := 6, cells := 1, slots := 6, locals := 82 } [.ref a0, .int (nI p1), .long (xL p2)] [(a0, .inr (7, [.ref a0_tape, .ref a0_made, .ref a0_nothing, .ref a0_slots, .ref a0_guards, .ref a0_digester, .ref a0_keyMaker, .ref a0_keyStream, .ref a0_tallier, .ref a0_sealer])), (a0_tape, .inr (4, [.ref a0_tape_bytes, .int (nI v_a0_tape_count)]))] "java/lang/IllegalStateException" := by
  refine vMX.of (by decide) (Nat.le_of_ble_eq_true rfl) (fun C hCl hCD g R => ?_)
  subst hCl; subst hCD
  show VJ C 0 0 0 [(0, .ref a0), (1, .int (nI p1)), (2, .long (xL p2))] [] [(a0, .inr (7, [.ref a0_tape, .ref a0_made, .ref a0_nothing, .ref a0_slots, .ref a0_guards, .ref a0_digester, .ref a0_keyMaker, .ref a0_keyStream, .ref a0_tallier, .ref a0_sealer])), (a0_tape, .inr (4, [.ref a0_tape_bytes, .int (nI v_a0_tape_count)]))]
  refine v_iload_n g dX7_feed_0 1 rfl 1 rfl ?_
  refine v_iconst g dX7_feed_1 (v := nI 1) (by decide +kernel) ?_
  refine v_icmp_ltN g 11 dX7_feed_2 (by decide) (by omega) (by omega) (fun h => absurd h (by omega)) (fun _ => ?_)
  refine v_iload_n g dX7_feed_5 1 rfl 1 rfl ?_
  refine v_bipush g dX7_feed_6 (v := nI 8) (by decide +kernel) ?_
  refine v_icmp_leN g 21 dX7_feed_8 (by decide) (by omega) (by omega) (fun _ => ?_) (fun h => absurd h (by omega))
  refine v_aload_n g dX7_feed_21 0 rfl 0 rfl ?_
  refine gf_X7_14 g dX7_feed_22 0 rfl rfl ?_
  refine gf_X7_81 g dX7_feed_25 1 rfl rfl ?_
  refine v_iload_n g dX7_feed_28 1 rfl 1 rfl ?_
  refine v_iaddN g dX7_feed_29 ?_
  refine v_sipush g dX7_feed_30 (v := nI 2048) (by decide +kernel) ?_
  refine v_icmp_leN g 46 dX7_feed_33 (by decide) (by omega) (by omega) (fun h => absurd h (by omega)) (fun _ => ?_)
  exact v_throw g hL R th_89 (List.mem_of_getElem? (i := 386) (by decide +kernel)) (List.mem_of_getElem? (i := 387) (by decide +kernel)) (List.mem_of_getElem? (i := 56) (by decide +kernel)) (by decide +kernel) (g.gx.2.2.2.2.2.1 (87, "the tape has no room") (by decide)) dX7_feed_36 dX7_feed_39 dX7_feed_40 dX7_feed_42 dX7_feed_45 (by decide) (by decide) (by decide) (by decide)
set_option maxHeartbeats 4000000 in
set_option maxRecDepth 100000 in
theorem c_B_wipe (l : Launch) (D : va_G) (a0 : Nat) (a0_tape : Nat) (a0_made : Nat) (a0_nothing : Nat) (a0_slots : Nat) (a0_guards : Nat) (a0_digester : Nat) (a0_keyMaker : Nat) (a0_keyStream : Nat) (a0_tallier : Nat) (a0_sealer : Nat) (a0_tape_bytes : Nat) (v_a0_tape_count : Nat)   : vM l D yX7_wipe cX7_wipe 2 (some .int) { frames := 0, cells := 0, slots := 0, locals := 0 } [.ref a0] [(a0, .inr (7, [.ref a0_tape, .ref a0_made, .ref a0_nothing, .ref a0_slots, .ref a0_guards, .ref a0_digester, .ref a0_keyMaker, .ref a0_keyStream, .ref a0_tallier, .ref a0_sealer])), (a0_tape, .inr (4, [.ref a0_tape_bytes, .int (nI v_a0_tape_count)]))] (fun r wo => r = some (.int (nI v_a0_tape_count)) ∧ wo = [(a0, .inr (7, [.ref a0_tape, .ref a0_made, .ref a0_nothing, .ref a0_slots, .ref a0_guards, .ref a0_digester, .ref a0_keyMaker, .ref a0_keyStream, .ref a0_tallier, .ref a0_sealer])), (a0_tape, .inr (4, [.ref a0_tape_bytes, .int (nI 0)]))]) := by
  refine vM.of (by decide) (Nat.le_of_ble_eq_true rfl) (fun C hCl hCD g R => ?_)
  subst hCl; subst hCD
  show VJ C 0 0 0 [(0, .ref a0)] [] [(a0, .inr (7, [.ref a0_tape, .ref a0_made, .ref a0_nothing, .ref a0_slots, .ref a0_guards, .ref a0_digester, .ref a0_keyMaker, .ref a0_keyStream, .ref a0_tallier, .ref a0_sealer])), (a0_tape, .inr (4, [.ref a0_tape_bytes, .int (nI v_a0_tape_count)]))]
  refine v_aload_n g dX7_wipe_0 0 rfl 0 rfl ?_
  refine gf_X7_14 g dX7_wipe_1 0 rfl rfl ?_
  refine gf_X7_81 g dX7_wipe_4 1 rfl rfl ?_
  refine v_istore_n g [(1, .int (nI v_a0_tape_count)), (0, .ref a0)] dX7_wipe_7 1 rfl (by decide) rfl ?_
  refine v_aload_n g dX7_wipe_8 0 rfl 1 rfl ?_
  refine gf_X7_14 g dX7_wipe_9 0 rfl rfl ?_
  refine v_iconst g dX7_wipe_12 (v := nI 0) (by decide +kernel) ?_
  refine pf_X7_81 g dX7_wipe_13 1 [(a0, .inr (7, [.ref a0_tape, .ref a0_made, .ref a0_nothing, .ref a0_slots, .ref a0_guards, .ref a0_digester, .ref a0_keyMaker, .ref a0_keyStream, .ref a0_tallier, .ref a0_sealer])), (a0_tape, .inr (4, [.ref a0_tape_bytes, .int (nI 0)]))] rfl (Nat.le_of_ble_eq_true rfl) rfl ?_
  refine v_iload_n g dX7_wipe_16 1 rfl 0 rfl ?_
  exact v_iret g R dX7_wipe_17 (by decide) (by decide) ⟨rfl, rfl⟩
set_option maxHeartbeats 4000000 in
set_option maxRecDepth 100000 in
theorem c_B_keep1 (l : Launch) (D : va_G) (a0 : Nat) (p1 : Nat) (a0_tape : Nat) (a0_made : Nat) (a0_nothing : Nat) (a0_slots : Nat) (a0_guards : Nat) (a0_digester : Nat) (a0_keyMaker : Nat) (a0_keyStream : Nat) (a0_tallier : Nat) (a0_sealer : Nat) (a0_tape_bytes : Nat) (v_a0_tape_count : Nat) (a0_made_bytes : Nat) (v_a0_made_count : Nat) (t_a0_made_bytes : Nat → By) (t_a0_slots : Nat → Option Nat) (a0_slots_at1 : Nat) (a0_slots_at1_bytes : Nat) (v_a0_slots_at1_count : Nat) (t_a0_slots_at1_bytes : Nat → By)  (hs1 : p1 < 8) (h1 : v_a0_made_count ≤ 128) (h_a0_slots_at1 : t_a0_slots p1 = some a0_slots_at1) : vM l D yX7_keep cX7_keep 4 (some .int) { frames := 2, cells := 0, slots := 0, locals := 47 } [.ref a0, .int (nI p1), .int (nI 1)] [(a0, .inr (7, [.ref a0_tape, .ref a0_made, .ref a0_nothing, .ref a0_slots, .ref a0_guards, .ref a0_digester, .ref a0_keyMaker, .ref a0_keyStream, .ref a0_tallier, .ref a0_sealer])), (a0_tape, .inr (4, [.ref a0_tape_bytes, .int (nI v_a0_tape_count)])), (a0_made, .inr (4, [.ref a0_made_bytes, .int (nI v_a0_made_count)])), (a0_made_bytes, aB D 2064 t_a0_made_bytes), (a0_slots, aR D 103 8 t_a0_slots), (a0_slots_at1, .inr (4, [.ref a0_slots_at1_bytes, .int (nI v_a0_slots_at1_count)])), (a0_slots_at1_bytes, aB D 128 t_a0_slots_at1_bytes)] (fun r wo => r = some (.int (nI v_a0_made_count)) ∧ wo = [(a0, .inr (7, [.ref a0_tape, .ref a0_made, .ref a0_nothing, .ref a0_slots, .ref a0_guards, .ref a0_digester, .ref a0_keyMaker, .ref a0_keyStream, .ref a0_tallier, .ref a0_sealer])), (a0_tape, .inr (4, [.ref a0_tape_bytes, .int (nI v_a0_tape_count)])), (a0_made, .inr (4, [.ref a0_made_bytes, .int (nI v_a0_made_count)])), (a0_made_bytes, aB D 2064 t_a0_made_bytes), (a0_slots, aR D 103 8 t_a0_slots), (a0_slots_at1, .inr (4, [.ref a0_slots_at1_bytes, .int (nI v_a0_made_count)])), (a0_slots_at1_bytes, aB D 128 (va_cpy t_a0_made_bytes t_a0_slots_at1_bytes 0 0 v_a0_made_count))]) := by
  refine vM.of (by decide) (Nat.le_of_ble_eq_true rfl) (fun C hCl hCD g R => ?_)
  subst hCl; subst hCD
  show VJ C 0 0 0 [(0, .ref a0), (1, .int (nI p1)), (2, .int (nI 1))] [] [(a0, .inr (7, [.ref a0_tape, .ref a0_made, .ref a0_nothing, .ref a0_slots, .ref a0_guards, .ref a0_digester, .ref a0_keyMaker, .ref a0_keyStream, .ref a0_tallier, .ref a0_sealer])), (a0_tape, .inr (4, [.ref a0_tape_bytes, .int (nI v_a0_tape_count)])), (a0_made, .inr (4, [.ref a0_made_bytes, .int (nI v_a0_made_count)])), (a0_made_bytes, aB C.D 2064 t_a0_made_bytes), (a0_slots, aR C.D 103 8 t_a0_slots), (a0_slots_at1, .inr (4, [.ref a0_slots_at1_bytes, .int (nI v_a0_slots_at1_count)])), (a0_slots_at1_bytes, aB C.D 128 t_a0_slots_at1_bytes)]
  refine v_iload_n g dX7_keep_0 1 rfl 1 rfl ?_
  refine v_callS (As := [.int (nI p1)]) (rest := []) (wr := [(a0, .inr (7, [.ref a0_tape, .ref a0_made, .ref a0_nothing, .ref a0_slots, .ref a0_guards, .ref a0_digester, .ref a0_keyMaker, .ref a0_keyStream, .ref a0_tallier, .ref a0_sealer])), (a0_tape, .inr (4, [.ref a0_tape_bytes, .int (nI v_a0_tape_count)])), (a0_made, .inr (4, [.ref a0_made_bytes, .int (nI v_a0_made_count)])), (a0_made_bytes, aB C.D 2064 t_a0_made_bytes), (a0_slots, aR C.D 103 8 t_a0_slots), (a0_slots_at1, .inr (4, [.ref a0_slots_at1_bytes, .int (nI v_a0_slots_at1_count)])), (a0_slots_at1_bytes, aB C.D 128 t_a0_slots_at1_bytes)]) cw_X7_93 (hy_X7_needSlot) g (c_needSlot C.l C.D p1 (by omega)) dX7_keep_1 rfl (by decide) (by decide) (Nat.le_of_ble_eq_true rfl) [] [0, 1, 2, 3, 4, 5, 6] rfl rfl (by decide) rfl (by decide) (by decide) _ rfl (fun r wo hp1 => ?_)
  obtain ⟨rfl, rfl⟩ := hp1
  show VJ C 0 0 4 [(0, .ref a0), (1, .int (nI p1)), (2, .int (nI 1))] [] [(a0, .inr (7, [.ref a0_tape, .ref a0_made, .ref a0_nothing, .ref a0_slots, .ref a0_guards, .ref a0_digester, .ref a0_keyMaker, .ref a0_keyStream, .ref a0_tallier, .ref a0_sealer])), (a0_tape, .inr (4, [.ref a0_tape_bytes, .int (nI v_a0_tape_count)])), (a0_made, .inr (4, [.ref a0_made_bytes, .int (nI v_a0_made_count)])), (a0_made_bytes, aB C.D 2064 t_a0_made_bytes), (a0_slots, aR C.D 103 8 t_a0_slots), (a0_slots_at1, .inr (4, [.ref a0_slots_at1_bytes, .int (nI v_a0_slots_at1_count)])), (a0_slots_at1_bytes, aB C.D 128 t_a0_slots_at1_bytes)]
  refine v_iload_n g dX7_keep_4 2 rfl 2 rfl ?_
  refine v_if_eqN g 15 dX7_keep_5 (by decide) (by decide) (fun h => absurd h (by decide)) (fun _ => ?_)
  refine v_aload_n g dX7_keep_8 0 rfl 0 rfl ?_
  refine gf_X7_18 g dX7_keep_9 0 rfl rfl ?_
  refine v_goto g 19 dX7_keep_12 (by decide) ?_
  refine v_astore_n g [(3, .ref a0_made), (0, .ref a0), (1, .int (nI p1)), (2, .int (nI 1))] dX7_keep_19 3 rfl (by decide) rfl ?_
  refine v_aload_n g dX7_keep_20 3 rfl 0 rfl ?_
  refine gf_X7_81 g dX7_keep_21 2 rfl rfl ?_
  refine v_sipush g dX7_keep_24 (v := nI 128) (by decide +kernel) ?_
  refine v_icmp_leN g 40 dX7_keep_27 (by decide) (by omega) (by omega) (fun _ => ?_) (fun h => absurd h (by omega))
  refine v_aload_n g dX7_keep_40 0 rfl 1 rfl ?_
  refine gf_X7_24 g dX7_keep_41 0 rfl rfl ?_
  refine v_iload_n g dX7_keep_44 1 rfl 2 rfl ?_
  refine v_aaldR g a0_slots_at1 4 3 rfl rfl (by omega) (by decide) h_a0_slots_at1 dX7_keep_45 ?_
  refine v_aload_n g dX7_keep_46 3 rfl 0 rfl ?_
  refine v_callV (As := [.ref a0_made]) (rest := []) (wr := [(a0, .inr (7, [.ref a0_tape, .ref a0_made, .ref a0_nothing, .ref a0_slots, .ref a0_guards, .ref a0_digester, .ref a0_keyMaker, .ref a0_keyStream, .ref a0_tallier, .ref a0_sealer])), (a0_tape, .inr (4, [.ref a0_tape_bytes, .int (nI v_a0_tape_count)])), (a0_slots, aR C.D 103 8 t_a0_slots)]) cw_X7_98 (hy_X4_copy) g (c_RW_copy C.l C.D a0_slots_at1 a0_made a0_slots_at1_bytes v_a0_slots_at1_count 128 t_a0_slots_at1_bytes a0_made_bytes v_a0_made_count 2064 t_a0_made_bytes (by omega) (by omega) (by omega) (by omega)) dX7_keep_47 5 rfl rfl rfl (by decide) (by decide) (Nat.le_of_ble_eq_true rfl) [5, 6, 2, 3] [0, 1, 4] rfl rfl (by decide) rfl (by decide) (by decide) _ rfl (fun r wo hp2 => ?_)
  obtain ⟨rfl, rfl⟩ := hp2
  refine v_perm [0, 1, 5, 6, 2, 3, 4] [(a0, .inr (7, [.ref a0_tape, .ref a0_made, .ref a0_nothing, .ref a0_slots, .ref a0_guards, .ref a0_digester, .ref a0_keyMaker, .ref a0_keyStream, .ref a0_tallier, .ref a0_sealer])), (a0_tape, .inr (4, [.ref a0_tape_bytes, .int (nI v_a0_tape_count)])), (a0_made, .inr (4, [.ref a0_made_bytes, .int (nI v_a0_made_count)])), (a0_made_bytes, aB C.D 2064 t_a0_made_bytes), (a0_slots, aR C.D 103 8 t_a0_slots), (a0_slots_at1, .inr (4, [.ref a0_slots_at1_bytes, .int (nI v_a0_made_count)])), (a0_slots_at1_bytes, aB C.D 128 (va_cpy t_a0_made_bytes t_a0_slots_at1_bytes 0 0 v_a0_made_count))] (by decide) rfl rfl ?_
  show VJ C 0 0 50 [(3, .ref a0_made), (0, .ref a0), (1, .int (nI p1)), (2, .int (nI 1))] [] [(a0, .inr (7, [.ref a0_tape, .ref a0_made, .ref a0_nothing, .ref a0_slots, .ref a0_guards, .ref a0_digester, .ref a0_keyMaker, .ref a0_keyStream, .ref a0_tallier, .ref a0_sealer])), (a0_tape, .inr (4, [.ref a0_tape_bytes, .int (nI v_a0_tape_count)])), (a0_made, .inr (4, [.ref a0_made_bytes, .int (nI v_a0_made_count)])), (a0_made_bytes, aB C.D 2064 t_a0_made_bytes), (a0_slots, aR C.D 103 8 t_a0_slots), (a0_slots_at1, .inr (4, [.ref a0_slots_at1_bytes, .int (nI v_a0_made_count)])), (a0_slots_at1_bytes, aB C.D 128 (va_cpy t_a0_made_bytes t_a0_slots_at1_bytes 0 0 v_a0_made_count))]
  refine v_iload_n g dX7_keep_50 2 rfl 3 rfl ?_
  refine v_if_neN g 62 dX7_keep_51 (by decide) (by decide) (fun _ => ?_) (fun h => absurd h (by decide))
  refine v_aload_n g dX7_keep_62 0 rfl 1 rfl ?_
  refine gf_X7_24 g dX7_keep_63 0 rfl rfl ?_
  refine v_iload_n g dX7_keep_66 1 rfl 2 rfl ?_
  refine v_aaldR g a0_slots_at1 4 3 rfl rfl (by omega) (by decide) h_a0_slots_at1 dX7_keep_67 ?_
  refine gf_X7_81 g dX7_keep_68 5 rfl rfl ?_
  exact v_iret g R dX7_keep_71 (by decide) (by decide) ⟨rfl, rfl⟩
set_option maxHeartbeats 4000000 in
set_option maxRecDepth 100000 in
theorem c_B_keep0 (l : Launch) (D : va_G) (a0 : Nat) (p1 : Nat) (a0_tape : Nat) (a0_made : Nat) (a0_nothing : Nat) (a0_slots : Nat) (a0_guards : Nat) (a0_digester : Nat) (a0_keyMaker : Nat) (a0_keyStream : Nat) (a0_tallier : Nat) (a0_sealer : Nat) (a0_tape_bytes : Nat) (v_a0_tape_count : Nat) (t_a0_tape_bytes : Nat → By) (t_a0_slots : Nat → Option Nat) (a0_slots_at1 : Nat) (a0_slots_at1_bytes : Nat) (v_a0_slots_at1_count : Nat) (t_a0_slots_at1_bytes : Nat → By)  (hs1 : p1 < 8) (h1 : v_a0_tape_count ≤ 128) (h_a0_slots_at1 : t_a0_slots p1 = some a0_slots_at1) : vM l D yX7_keep cX7_keep 4 (some .int) { frames := 2, cells := 0, slots := 0, locals := 47 } [.ref a0, .int (nI p1), .int (nI 0)] [(a0, .inr (7, [.ref a0_tape, .ref a0_made, .ref a0_nothing, .ref a0_slots, .ref a0_guards, .ref a0_digester, .ref a0_keyMaker, .ref a0_keyStream, .ref a0_tallier, .ref a0_sealer])), (a0_tape, .inr (4, [.ref a0_tape_bytes, .int (nI v_a0_tape_count)])), (a0_tape_bytes, aB D 2048 t_a0_tape_bytes), (a0_slots, aR D 103 8 t_a0_slots), (a0_slots_at1, .inr (4, [.ref a0_slots_at1_bytes, .int (nI v_a0_slots_at1_count)])), (a0_slots_at1_bytes, aB D 128 t_a0_slots_at1_bytes)] (fun r wo => r = some (.int (nI v_a0_tape_count)) ∧ wo = [(a0, .inr (7, [.ref a0_tape, .ref a0_made, .ref a0_nothing, .ref a0_slots, .ref a0_guards, .ref a0_digester, .ref a0_keyMaker, .ref a0_keyStream, .ref a0_tallier, .ref a0_sealer])), (a0_tape, .inr (4, [.ref a0_tape_bytes, .int (nI 0)])), (a0_tape_bytes, aB D 2048 t_a0_tape_bytes), (a0_slots, aR D 103 8 t_a0_slots), (a0_slots_at1, .inr (4, [.ref a0_slots_at1_bytes, .int (nI v_a0_tape_count)])), (a0_slots_at1_bytes, aB D 128 (va_cpy t_a0_tape_bytes t_a0_slots_at1_bytes 0 0 v_a0_tape_count))]) := by
  refine vM.of (by decide) (Nat.le_of_ble_eq_true rfl) (fun C hCl hCD g R => ?_)
  subst hCl; subst hCD
  show VJ C 0 0 0 [(0, .ref a0), (1, .int (nI p1)), (2, .int (nI 0))] [] [(a0, .inr (7, [.ref a0_tape, .ref a0_made, .ref a0_nothing, .ref a0_slots, .ref a0_guards, .ref a0_digester, .ref a0_keyMaker, .ref a0_keyStream, .ref a0_tallier, .ref a0_sealer])), (a0_tape, .inr (4, [.ref a0_tape_bytes, .int (nI v_a0_tape_count)])), (a0_tape_bytes, aB C.D 2048 t_a0_tape_bytes), (a0_slots, aR C.D 103 8 t_a0_slots), (a0_slots_at1, .inr (4, [.ref a0_slots_at1_bytes, .int (nI v_a0_slots_at1_count)])), (a0_slots_at1_bytes, aB C.D 128 t_a0_slots_at1_bytes)]
  refine v_iload_n g dX7_keep_0 1 rfl 1 rfl ?_
  refine v_callS (As := [.int (nI p1)]) (rest := []) (wr := [(a0, .inr (7, [.ref a0_tape, .ref a0_made, .ref a0_nothing, .ref a0_slots, .ref a0_guards, .ref a0_digester, .ref a0_keyMaker, .ref a0_keyStream, .ref a0_tallier, .ref a0_sealer])), (a0_tape, .inr (4, [.ref a0_tape_bytes, .int (nI v_a0_tape_count)])), (a0_tape_bytes, aB C.D 2048 t_a0_tape_bytes), (a0_slots, aR C.D 103 8 t_a0_slots), (a0_slots_at1, .inr (4, [.ref a0_slots_at1_bytes, .int (nI v_a0_slots_at1_count)])), (a0_slots_at1_bytes, aB C.D 128 t_a0_slots_at1_bytes)]) cw_X7_93 (hy_X7_needSlot) g (c_needSlot C.l C.D p1 (by omega)) dX7_keep_1 rfl (by decide) (by decide) (Nat.le_of_ble_eq_true rfl) [] [0, 1, 2, 3, 4, 5] rfl rfl (by decide) rfl (by decide) (by decide) _ rfl (fun r wo hp1 => ?_)
  obtain ⟨rfl, rfl⟩ := hp1
  show VJ C 0 0 4 [(0, .ref a0), (1, .int (nI p1)), (2, .int (nI 0))] [] [(a0, .inr (7, [.ref a0_tape, .ref a0_made, .ref a0_nothing, .ref a0_slots, .ref a0_guards, .ref a0_digester, .ref a0_keyMaker, .ref a0_keyStream, .ref a0_tallier, .ref a0_sealer])), (a0_tape, .inr (4, [.ref a0_tape_bytes, .int (nI v_a0_tape_count)])), (a0_tape_bytes, aB C.D 2048 t_a0_tape_bytes), (a0_slots, aR C.D 103 8 t_a0_slots), (a0_slots_at1, .inr (4, [.ref a0_slots_at1_bytes, .int (nI v_a0_slots_at1_count)])), (a0_slots_at1_bytes, aB C.D 128 t_a0_slots_at1_bytes)]
  refine v_iload_n g dX7_keep_4 2 rfl 2 rfl ?_
  refine v_if_eqN g 15 dX7_keep_5 (by decide) (by decide) (fun _ => ?_) (fun h => absurd h (by decide))
  refine v_aload_n g dX7_keep_15 0 rfl 0 rfl ?_
  refine gf_X7_14 g dX7_keep_16 0 rfl rfl ?_
  refine v_astore_n g [(3, .ref a0_tape), (0, .ref a0), (1, .int (nI p1)), (2, .int (nI 0))] dX7_keep_19 3 rfl (by decide) rfl ?_
  refine v_aload_n g dX7_keep_20 3 rfl 0 rfl ?_
  refine gf_X7_81 g dX7_keep_21 1 rfl rfl ?_
  refine v_sipush g dX7_keep_24 (v := nI 128) (by decide +kernel) ?_
  refine v_icmp_leN g 40 dX7_keep_27 (by decide) (by omega) (by omega) (fun _ => ?_) (fun h => absurd h (by omega))
  refine v_aload_n g dX7_keep_40 0 rfl 1 rfl ?_
  refine gf_X7_24 g dX7_keep_41 0 rfl rfl ?_
  refine v_iload_n g dX7_keep_44 1 rfl 2 rfl ?_
  refine v_aaldR g a0_slots_at1 3 3 rfl rfl (by omega) (by decide) h_a0_slots_at1 dX7_keep_45 ?_
  refine v_aload_n g dX7_keep_46 3 rfl 0 rfl ?_
  refine v_callV (As := [.ref a0_tape]) (rest := []) (wr := [(a0, .inr (7, [.ref a0_tape, .ref a0_made, .ref a0_nothing, .ref a0_slots, .ref a0_guards, .ref a0_digester, .ref a0_keyMaker, .ref a0_keyStream, .ref a0_tallier, .ref a0_sealer])), (a0_slots, aR C.D 103 8 t_a0_slots)]) cw_X7_98 (hy_X4_copy) g (c_RW_copy C.l C.D a0_slots_at1 a0_tape a0_slots_at1_bytes v_a0_slots_at1_count 128 t_a0_slots_at1_bytes a0_tape_bytes v_a0_tape_count 2048 t_a0_tape_bytes (by omega) (by omega) (by omega) (by omega)) dX7_keep_47 4 rfl rfl rfl (by decide) (by decide) (Nat.le_of_ble_eq_true rfl) [4, 5, 1, 2] [0, 3] rfl rfl (by decide) rfl (by decide) (by decide) _ rfl (fun r wo hp2 => ?_)
  obtain ⟨rfl, rfl⟩ := hp2
  refine v_perm [0, 4, 5, 1, 2, 3] [(a0, .inr (7, [.ref a0_tape, .ref a0_made, .ref a0_nothing, .ref a0_slots, .ref a0_guards, .ref a0_digester, .ref a0_keyMaker, .ref a0_keyStream, .ref a0_tallier, .ref a0_sealer])), (a0_tape, .inr (4, [.ref a0_tape_bytes, .int (nI v_a0_tape_count)])), (a0_tape_bytes, aB C.D 2048 t_a0_tape_bytes), (a0_slots, aR C.D 103 8 t_a0_slots), (a0_slots_at1, .inr (4, [.ref a0_slots_at1_bytes, .int (nI v_a0_tape_count)])), (a0_slots_at1_bytes, aB C.D 128 (va_cpy t_a0_tape_bytes t_a0_slots_at1_bytes 0 0 v_a0_tape_count))] (by decide) rfl rfl ?_
  show VJ C 0 0 50 [(3, .ref a0_tape), (0, .ref a0), (1, .int (nI p1)), (2, .int (nI 0))] [] [(a0, .inr (7, [.ref a0_tape, .ref a0_made, .ref a0_nothing, .ref a0_slots, .ref a0_guards, .ref a0_digester, .ref a0_keyMaker, .ref a0_keyStream, .ref a0_tallier, .ref a0_sealer])), (a0_tape, .inr (4, [.ref a0_tape_bytes, .int (nI v_a0_tape_count)])), (a0_tape_bytes, aB C.D 2048 t_a0_tape_bytes), (a0_slots, aR C.D 103 8 t_a0_slots), (a0_slots_at1, .inr (4, [.ref a0_slots_at1_bytes, .int (nI v_a0_tape_count)])), (a0_slots_at1_bytes, aB C.D 128 (va_cpy t_a0_tape_bytes t_a0_slots_at1_bytes 0 0 v_a0_tape_count))]
  refine v_iload_n g dX7_keep_50 2 rfl 3 rfl ?_
  refine v_if_neN g 62 dX7_keep_51 (by decide) (by decide) (fun h => absurd h (by decide)) (fun _ => ?_)
  refine v_aload_n g dX7_keep_54 0 rfl 1 rfl ?_
  refine gf_X7_14 g dX7_keep_55 0 rfl rfl ?_
  refine v_iconst g dX7_keep_58 (v := nI 0) (by decide +kernel) ?_
  refine pf_X7_81 g dX7_keep_59 1 [(a0, .inr (7, [.ref a0_tape, .ref a0_made, .ref a0_nothing, .ref a0_slots, .ref a0_guards, .ref a0_digester, .ref a0_keyMaker, .ref a0_keyStream, .ref a0_tallier, .ref a0_sealer])), (a0_tape, .inr (4, [.ref a0_tape_bytes, .int (nI 0)])), (a0_tape_bytes, aB C.D 2048 t_a0_tape_bytes), (a0_slots, aR C.D 103 8 t_a0_slots), (a0_slots_at1, .inr (4, [.ref a0_slots_at1_bytes, .int (nI v_a0_tape_count)])), (a0_slots_at1_bytes, aB C.D 128 (va_cpy t_a0_tape_bytes t_a0_slots_at1_bytes 0 0 v_a0_tape_count))] rfl (Nat.le_of_ble_eq_true rfl) rfl ?_
  refine v_aload_n g dX7_keep_62 0 rfl 1 rfl ?_
  refine gf_X7_24 g dX7_keep_63 0 rfl rfl ?_
  refine v_iload_n g dX7_keep_66 1 rfl 2 rfl ?_
  refine v_aaldR g a0_slots_at1 3 3 rfl rfl (by omega) (by decide) h_a0_slots_at1 dX7_keep_67 ?_
  refine gf_X7_81 g dX7_keep_68 4 rfl rfl ?_
  exact v_iret g R dX7_keep_71 (by decide) (by decide) ⟨rfl, rfl⟩
set_option maxHeartbeats 4000000 in
set_option maxRecDepth 100000 in
theorem x_B_keep (l : Launch) (hL : noTr l) (D : va_G) (a0 : Nat) (p1 : Int32) (p2 : Int32)  (h0 : p1 < 0 ∨ nI 8 ≤ p1) : vMX l D yX7_keep cX7_keep 4 (some .int) { frames := 7, cells := 1, slots := 6, locals := 102 } [.ref a0, .int p1, .int p2] [] "java/lang/IllegalArgumentException" := by
  refine vMX.of (by decide) (Nat.le_of_ble_eq_true rfl) (fun C hCl hCD g R => ?_)
  subst hCl; subst hCD
  show VJ C 0 0 0 [(0, .ref a0), (1, .int p1), (2, .int p2)] [] []
  refine v_iload_n g dX7_keep_0 1 rfl 1 rfl ?_
  exact v_callST (As := [.int p1]) (rest := []) (wr := []) cw_X7_93 (hy_X7_needSlot) g R (x_needSlot C.l hL C.D p1 (by assumption)) dX7_keep_1 rfl (by decide) (by decide) (Nat.le_of_ble_eq_true rfl) [] [] rfl rfl (by decide) rfl (by decide) (by decide) [] rfl _ rfl
set_option maxHeartbeats 4000000 in
set_option maxRecDepth 100000 in
theorem x_B_keep1 (l : Launch) (hL : noTr l) (D : va_G) (a0 : Nat) (p1 : Nat) (a0_tape : Nat) (a0_made : Nat) (a0_nothing : Nat) (a0_slots : Nat) (a0_guards : Nat) (a0_digester : Nat) (a0_keyMaker : Nat) (a0_keyStream : Nat) (a0_tallier : Nat) (a0_sealer : Nat) (a0_made_bytes : Nat) (v_a0_made_count : Nat)  (hs1 : p1 < 8) (h1 : 128 < v_a0_made_count) (hM : v_a0_made_count ≤ 2064) : vMX l D yX7_keep cX7_keep 4 (some .int) { frames := 6, cells := 1, slots := 6, locals := 82 } [.ref a0, .int (nI p1), .int (nI 1)] [(a0, .inr (7, [.ref a0_tape, .ref a0_made, .ref a0_nothing, .ref a0_slots, .ref a0_guards, .ref a0_digester, .ref a0_keyMaker, .ref a0_keyStream, .ref a0_tallier, .ref a0_sealer])), (a0_made, .inr (4, [.ref a0_made_bytes, .int (nI v_a0_made_count)]))] "java/lang/IllegalStateException" := by
  refine vMX.of (by decide) (Nat.le_of_ble_eq_true rfl) (fun C hCl hCD g R => ?_)
  subst hCl; subst hCD
  show VJ C 0 0 0 [(0, .ref a0), (1, .int (nI p1)), (2, .int (nI 1))] [] [(a0, .inr (7, [.ref a0_tape, .ref a0_made, .ref a0_nothing, .ref a0_slots, .ref a0_guards, .ref a0_digester, .ref a0_keyMaker, .ref a0_keyStream, .ref a0_tallier, .ref a0_sealer])), (a0_made, .inr (4, [.ref a0_made_bytes, .int (nI v_a0_made_count)]))]
  refine v_iload_n g dX7_keep_0 1 rfl 1 rfl ?_
  refine v_callS (As := [.int (nI p1)]) (rest := []) (wr := [(a0, .inr (7, [.ref a0_tape, .ref a0_made, .ref a0_nothing, .ref a0_slots, .ref a0_guards, .ref a0_digester, .ref a0_keyMaker, .ref a0_keyStream, .ref a0_tallier, .ref a0_sealer])), (a0_made, .inr (4, [.ref a0_made_bytes, .int (nI v_a0_made_count)]))]) cw_X7_93 (hy_X7_needSlot) g (c_needSlot C.l C.D p1 (by omega)) dX7_keep_1 rfl (by decide) (by decide) (Nat.le_of_ble_eq_true rfl) [] [0, 1] rfl rfl (by decide) rfl (by decide) (by decide) _ rfl (fun r wo hp1 => ?_)
  obtain ⟨rfl, rfl⟩ := hp1
  show VJ C 0 0 4 [(0, .ref a0), (1, .int (nI p1)), (2, .int (nI 1))] [] [(a0, .inr (7, [.ref a0_tape, .ref a0_made, .ref a0_nothing, .ref a0_slots, .ref a0_guards, .ref a0_digester, .ref a0_keyMaker, .ref a0_keyStream, .ref a0_tallier, .ref a0_sealer])), (a0_made, .inr (4, [.ref a0_made_bytes, .int (nI v_a0_made_count)]))]
  refine v_iload_n g dX7_keep_4 2 rfl 2 rfl ?_
  refine v_if_eqN g 15 dX7_keep_5 (by decide) (by decide) (fun h => absurd h (by decide)) (fun _ => ?_)
  refine v_aload_n g dX7_keep_8 0 rfl 0 rfl ?_
  refine gf_X7_18 g dX7_keep_9 0 rfl rfl ?_
  refine v_goto g 19 dX7_keep_12 (by decide) ?_
  refine v_astore_n g [(3, .ref a0_made), (0, .ref a0), (1, .int (nI p1)), (2, .int (nI 1))] dX7_keep_19 3 rfl (by decide) rfl ?_
  refine v_aload_n g dX7_keep_20 3 rfl 0 rfl ?_
  refine gf_X7_81 g dX7_keep_21 1 rfl rfl ?_
  refine v_sipush g dX7_keep_24 (v := nI 128) (by decide +kernel) ?_
  refine v_icmp_leN g 40 dX7_keep_27 (by decide) (by omega) (by omega) (fun h => absurd h (by omega)) (fun _ => ?_)
  exact v_throw g hL R th_89 (List.mem_of_getElem? (i := 386) (by decide +kernel)) (List.mem_of_getElem? (i := 387) (by decide +kernel)) (List.mem_of_getElem? (i := 56) (by decide +kernel)) (by decide +kernel) (g.gx.2.2.2.2.2.1 (96, "too many bytes for a slot") (by decide)) dX7_keep_30 dX7_keep_33 dX7_keep_34 dX7_keep_36 dX7_keep_39 (by decide) (by decide) (by decide) (by decide)
set_option maxHeartbeats 4000000 in
set_option maxRecDepth 100000 in
theorem x_B_keep0 (l : Launch) (hL : noTr l) (D : va_G) (a0 : Nat) (p1 : Nat) (a0_tape : Nat) (a0_made : Nat) (a0_nothing : Nat) (a0_slots : Nat) (a0_guards : Nat) (a0_digester : Nat) (a0_keyMaker : Nat) (a0_keyStream : Nat) (a0_tallier : Nat) (a0_sealer : Nat) (a0_tape_bytes : Nat) (v_a0_tape_count : Nat)  (hs1 : p1 < 8) (h1 : 128 < v_a0_tape_count) (hT : v_a0_tape_count ≤ 2048) : vMX l D yX7_keep cX7_keep 4 (some .int) { frames := 6, cells := 1, slots := 6, locals := 82 } [.ref a0, .int (nI p1), .int (nI 0)] [(a0, .inr (7, [.ref a0_tape, .ref a0_made, .ref a0_nothing, .ref a0_slots, .ref a0_guards, .ref a0_digester, .ref a0_keyMaker, .ref a0_keyStream, .ref a0_tallier, .ref a0_sealer])), (a0_tape, .inr (4, [.ref a0_tape_bytes, .int (nI v_a0_tape_count)]))] "java/lang/IllegalStateException" := by
  refine vMX.of (by decide) (Nat.le_of_ble_eq_true rfl) (fun C hCl hCD g R => ?_)
  subst hCl; subst hCD
  show VJ C 0 0 0 [(0, .ref a0), (1, .int (nI p1)), (2, .int (nI 0))] [] [(a0, .inr (7, [.ref a0_tape, .ref a0_made, .ref a0_nothing, .ref a0_slots, .ref a0_guards, .ref a0_digester, .ref a0_keyMaker, .ref a0_keyStream, .ref a0_tallier, .ref a0_sealer])), (a0_tape, .inr (4, [.ref a0_tape_bytes, .int (nI v_a0_tape_count)]))]
  refine v_iload_n g dX7_keep_0 1 rfl 1 rfl ?_
  refine v_callS (As := [.int (nI p1)]) (rest := []) (wr := [(a0, .inr (7, [.ref a0_tape, .ref a0_made, .ref a0_nothing, .ref a0_slots, .ref a0_guards, .ref a0_digester, .ref a0_keyMaker, .ref a0_keyStream, .ref a0_tallier, .ref a0_sealer])), (a0_tape, .inr (4, [.ref a0_tape_bytes, .int (nI v_a0_tape_count)]))]) cw_X7_93 (hy_X7_needSlot) g (c_needSlot C.l C.D p1 (by omega)) dX7_keep_1 rfl (by decide) (by decide) (Nat.le_of_ble_eq_true rfl) [] [0, 1] rfl rfl (by decide) rfl (by decide) (by decide) _ rfl (fun r wo hp1 => ?_)
  obtain ⟨rfl, rfl⟩ := hp1
  show VJ C 0 0 4 [(0, .ref a0), (1, .int (nI p1)), (2, .int (nI 0))] [] [(a0, .inr (7, [.ref a0_tape, .ref a0_made, .ref a0_nothing, .ref a0_slots, .ref a0_guards, .ref a0_digester, .ref a0_keyMaker, .ref a0_keyStream, .ref a0_tallier, .ref a0_sealer])), (a0_tape, .inr (4, [.ref a0_tape_bytes, .int (nI v_a0_tape_count)]))]
  refine v_iload_n g dX7_keep_4 2 rfl 2 rfl ?_
  refine v_if_eqN g 15 dX7_keep_5 (by decide) (by decide) (fun _ => ?_) (fun h => absurd h (by decide))
  refine v_aload_n g dX7_keep_15 0 rfl 0 rfl ?_
  refine gf_X7_14 g dX7_keep_16 0 rfl rfl ?_
  refine v_astore_n g [(3, .ref a0_tape), (0, .ref a0), (1, .int (nI p1)), (2, .int (nI 0))] dX7_keep_19 3 rfl (by decide) rfl ?_
  refine v_aload_n g dX7_keep_20 3 rfl 0 rfl ?_
  refine gf_X7_81 g dX7_keep_21 1 rfl rfl ?_
  refine v_sipush g dX7_keep_24 (v := nI 128) (by decide +kernel) ?_
  refine v_icmp_leN g 40 dX7_keep_27 (by decide) (by omega) (by omega) (fun h => absurd h (by omega)) (fun _ => ?_)
  exact v_throw g hL R th_89 (List.mem_of_getElem? (i := 386) (by decide +kernel)) (List.mem_of_getElem? (i := 387) (by decide +kernel)) (List.mem_of_getElem? (i := 56) (by decide +kernel)) (by decide +kernel) (g.gx.2.2.2.2.2.1 (96, "too many bytes for a slot") (by decide)) dX7_keep_30 dX7_keep_33 dX7_keep_34 dX7_keep_36 dX7_keep_39 (by decide) (by decide) (by decide) (by decide)
