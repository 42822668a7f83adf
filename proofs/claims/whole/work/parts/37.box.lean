/-! hiding: what it looks at -/
theorem hdM_congr {hide t t' : Nat → By} {pl : Nat} (h : ∀ j, j < pl + 20 → t j = t' j) {j : Nat} (hj : j < 64) : hdM hide t pl j = hdM hide t' pl j := by
  unfold hdM
  rw [le4_congr (a := pl + 4) (fun q hq => h _ (by omega))]
  exact ccF_congr (fun _ _ => rfl) (fun q hq => h _ (by omega)) j hj
theorem hd0_congr {hide t t' : Nat → By} {pl : Nat} (h : ∀ j, j < pl + 20 → t j = t' j) : hd0 hide t pl = hd0 hide t' pl := by
  unfold hd0
  rw [h 0 (by omega), hdM_congr h (by decide)]
theorem hdN_congr {hide t t' : Nat → By} {pl d : Nat} (h : ∀ j, j < pl + 20 → t j = t' j) : hdN hide t pl d = hdN hide t' pl d := by
  unfold hdN
  rw [hd0_congr h, h 0 (by omega)]
theorem hdF_congr {hide t t' : Nat → By} {pl d : Nat} (h : ∀ j, j < pl + 20 → t j = t' j) {j : Nat} (hj : t j = t' j) : hdF hide t pl (hdN hide t' pl d) j = hdF hide t' pl (hdN hide t' pl d) j := by
  have hn := hdN_le hide t' pl d
  unfold hdF
  rw [hd0_congr h, hj]
  by_cases e : j = 0
  · rw [if_pos e, if_pos e]
  rw [if_neg e, if_neg e]
  by_cases e2 : pl ≤ j ∧ j < pl + hdN hide t' pl d
  · rw [if_pos e2, if_pos e2, hdM_congr h (by omega)]
  · rw [if_neg e2, if_neg e2]
theorem dX7_shield_0 : decode cX7_shield 0 = .ok (.iload_n 1, 1) := by decide +kernel
theorem dX7_shield_1 : decode cX7_shield 1 = .ok (.invokestatic 158, 3) := by decide +kernel
theorem dX7_shield_4 : decode cX7_shield 4 = .ok (.iload_n 2, 1) := by decide +kernel
theorem dX7_shield_5 : decode cX7_shield 5 = .ok (.iconst 1, 1) := by decide +kernel
theorem dX7_shield_6 : decode cX7_shield 6 = .ok (.if_icmp .lt 17, 3) := by decide +kernel
theorem dX7_shield_9 : decode cX7_shield 9 = .ok (.iload_n 2, 1) := by decide +kernel
theorem dX7_shield_10 : decode cX7_shield 10 = .ok (.aload_n 0, 1) := by decide +kernel
theorem dX7_shield_11 : decode cX7_shield 11 = .ok (.getfield 14, 3) := by decide +kernel
theorem dX7_shield_14 : decode cX7_shield 14 = .ok (.getfield 81, 3) := by decide +kernel
theorem dX7_shield_17 : decode cX7_shield 17 = .ok (.bipush 20, 2) := by decide +kernel
theorem dX7_shield_19 : decode cX7_shield 19 = .ok (.isub, 1) := by decide +kernel
theorem dX7_shield_20 : decode cX7_shield 20 = .ok (.if_icmp .le 13, 3) := by decide +kernel
theorem dX7_shield_23 : decode cX7_shield 23 = .ok (.new 74, 3) := by decide +kernel
theorem dX7_shield_26 : decode cX7_shield 26 = .ok (.dup, 1) := by decide +kernel
theorem dX7_shield_27 : decode cX7_shield 27 = .ok (.ldc 193, 2) := by decide +kernel
theorem dX7_shield_29 : decode cX7_shield 29 = .ok (.invokespecial 78, 3) := by decide +kernel
theorem dX7_shield_32 : decode cX7_shield 32 = .ok (.athrow, 1) := by decide +kernel
theorem dX7_shield_33 : decode cX7_shield 33 = .ok (.aload_n 0, 1) := by decide +kernel
theorem dX7_shield_34 : decode cX7_shield 34 = .ok (.iload_n 1, 1) := by decide +kernel
theorem dX7_shield_35 : decode cX7_shield 35 = .ok (.invokevirtual 174, 3) := by decide +kernel
theorem dX7_shield_38 : decode cX7_shield 38 = .ok (.aload_n 0, 1) := by decide +kernel
theorem dX7_shield_39 : decode cX7_shield 39 = .ok (.getfield 18, 3) := by decide +kernel
theorem dX7_shield_42 : decode cX7_shield 42 = .ok (.aload_n 0, 1) := by decide +kernel
theorem dX7_shield_43 : decode cX7_shield 43 = .ok (.getfield 14, 3) := by decide +kernel
theorem dX7_shield_46 : decode cX7_shield 46 = .ok (.invokevirtual 98, 3) := by decide +kernel
theorem dX7_shield_49 : decode cX7_shield 49 = .ok (.aload_n 0, 1) := by decide +kernel
theorem dX7_shield_50 : decode cX7_shield 50 = .ok (.getfield 14, 3) := by decide +kernel
theorem dX7_shield_53 : decode cX7_shield 53 = .ok (.iconst 0, 1) := by decide +kernel
theorem dX7_shield_54 : decode cX7_shield 54 = .ok (.putfield 81, 3) := by decide +kernel
theorem dX7_shield_57 : decode cX7_shield 57 = .ok (.aload_n 0, 1) := by decide +kernel
theorem dX7_shield_58 : decode cX7_shield 58 = .ok (.getfield 69, 3) := by decide +kernel
theorem dX7_shield_61 : decode cX7_shield 61 = .ok (.aload_n 0, 1) := by decide +kernel
theorem dX7_shield_62 : decode cX7_shield 62 = .ok (.getfield 30, 3) := by decide +kernel
theorem dX7_shield_65 : decode cX7_shield 65 = .ok (.iload_n 1, 1) := by decide +kernel
theorem dX7_shield_66 : decode cX7_shield 66 = .ok (.aaload, 1) := by decide +kernel
theorem dX7_shield_67 : decode cX7_shield 67 = .ok (.aload_n 0, 1) := by decide +kernel
theorem dX7_shield_68 : decode cX7_shield 68 = .ok (.getfield 18, 3) := by decide +kernel
theorem dX7_shield_71 : decode cX7_shield 71 = .ok (.iload_n 2, 1) := by decide +kernel
theorem dX7_shield_72 : decode cX7_shield 72 = .ok (.iload_n 3, 1) := by decide +kernel
theorem dX7_shield_73 : decode cX7_shield 73 = .ok (.invokevirtual 195, 3) := by decide +kernel
theorem dX7_shield_76 : decode cX7_shield 76 = .ok (.ireturn, 1) := by decide +kernel
theorem dX7_out_0 : decode cX7_out 0 = .ok (.aload_n 0, 1) := by decide +kernel
theorem dX7_out_1 : decode cX7_out 1 = .ok (.iload_n 1, 1) := by decide +kernel
theorem dX7_out_2 : decode cX7_out 2 = .ok (.invokevirtual 199, 3) := by decide +kernel
theorem dX7_out_5 : decode cX7_out 5 = .ok (.aload_n 0, 1) := by decide +kernel
theorem dX7_out_6 : decode cX7_out 6 = .ok (.getfield 18, 3) := by decide +kernel
theorem dX7_out_9 : decode cX7_out 9 = .ok (.getfield 105, 3) := by decide +kernel
theorem dX7_out_12 : decode cX7_out 12 = .ok (.iload_n 1, 1) := by decide +kernel
theorem dX7_out_13 : decode cX7_out 13 = .ok (.baload, 1) := by decide +kernel
theorem dX7_out_14 : decode cX7_out 14 = .ok (.sipush 255, 3) := by decide +kernel
theorem dX7_out_17 : decode cX7_out 17 = .ok (.iand, 1) := by decide +kernel
theorem dX7_out_18 : decode cX7_out 18 = .ok (.ireturn, 1) := by decide +kernel
theorem dX7_outs_0 : decode cX7_outs 0 = .ok (.aload_n 0, 1) := by decide +kernel
theorem dX7_outs_1 : decode cX7_outs 1 = .ok (.iload_n 1, 1) := by decide +kernel
theorem dX7_outs_2 : decode cX7_outs 2 = .ok (.invokevirtual 199, 3) := by decide +kernel
theorem dX7_outs_5 : decode cX7_outs 5 = .ok (.bipush 8, 2) := by decide +kernel
theorem dX7_outs_7 : decode cX7_outs 7 = .ok (.aload_n 0, 1) := by decide +kernel
theorem dX7_outs_8 : decode cX7_outs 8 = .ok (.getfield 18, 3) := by decide +kernel
theorem dX7_outs_11 : decode cX7_outs 11 = .ok (.getfield 81, 3) := by decide +kernel
theorem dX7_outs_14 : decode cX7_outs 14 = .ok (.iload_n 1, 1) := by decide +kernel
theorem dX7_outs_15 : decode cX7_outs 15 = .ok (.isub, 1) := by decide +kernel
theorem dX7_outs_16 : decode cX7_outs 16 = .ok (.invokestatic 202, 3) := by decide +kernel
theorem dX7_outs_19 : decode cX7_outs 19 = .ok (.istore_n 2, 1) := by decide +kernel
theorem dX7_outs_20 : decode cX7_outs 20 = .ok (.lconst 0, 1) := by decide +kernel
theorem dX7_outs_21 : decode cX7_outs 21 = .ok (.lstore_n 3, 1) := by decide +kernel
theorem dX7_outs_22 : decode cX7_outs 22 = .ok (.iconst 0, 1) := by decide +kernel
theorem dX7_outs_23 : decode cX7_outs 23 = .ok (.istore 5, 2) := by decide +kernel
theorem dX7_outs_25 : decode cX7_outs 25 = .ok (.iload 5, 2) := by decide +kernel
theorem dX7_outs_27 : decode cX7_outs 27 = .ok (.iload_n 2, 1) := by decide +kernel
theorem dX7_outs_28 : decode cX7_outs 28 = .ok (.if_icmp .ge 35, 3) := by decide +kernel
theorem dX7_outs_31 : decode cX7_outs 31 = .ok (.lload_n 3, 1) := by decide +kernel
theorem dX7_outs_32 : decode cX7_outs 32 = .ok (.aload_n 0, 1) := by decide +kernel
theorem dX7_outs_33 : decode cX7_outs 33 = .ok (.getfield 18, 3) := by decide +kernel
theorem dX7_outs_36 : decode cX7_outs 36 = .ok (.getfield 105, 3) := by decide +kernel
theorem dX7_outs_39 : decode cX7_outs 39 = .ok (.iload_n 1, 1) := by decide +kernel
theorem dX7_outs_40 : decode cX7_outs 40 = .ok (.iload 5, 2) := by decide +kernel
theorem dX7_outs_42 : decode cX7_outs 42 = .ok (.iadd, 1) := by decide +kernel
theorem dX7_outs_43 : decode cX7_outs 43 = .ok (.baload, 1) := by decide +kernel
theorem dX7_outs_44 : decode cX7_outs 44 = .ok (.i2l, 1) := by decide +kernel
theorem dX7_outs_45 : decode cX7_outs 45 = .ok (.ldc2_w 208, 3) := by decide +kernel
theorem dX7_outs_48 : decode cX7_outs 48 = .ok (.land, 1) := by decide +kernel
theorem dX7_outs_49 : decode cX7_outs 49 = .ok (.bipush 8, 2) := by decide +kernel
theorem dX7_outs_51 : decode cX7_outs 51 = .ok (.iload 5, 2) := by decide +kernel
theorem dX7_outs_53 : decode cX7_outs 53 = .ok (.imul, 1) := by decide +kernel
theorem dX7_outs_54 : decode cX7_outs 54 = .ok (.lshl, 1) := by decide +kernel
theorem dX7_outs_55 : decode cX7_outs 55 = .ok (.lor, 1) := by decide +kernel
theorem dX7_outs_56 : decode cX7_outs 56 = .ok (.lstore_n 3, 1) := by decide +kernel
theorem dX7_outs_57 : decode cX7_outs 57 = .ok (.iinc 5 1, 3) := by decide +kernel
theorem dX7_outs_60 : decode cX7_outs 60 = .ok (.goto (-35), 3) := by decide +kernel
theorem dX7_outs_63 : decode cX7_outs 63 = .ok (.lload_n 3, 1) := by decide +kernel
theorem dX7_outs_64 : decode cX7_outs 64 = .ok (.lreturn, 1) := by decide +kernel
theorem dX7_look_0 : decode cX7_look 0 = .ok (.iload_n 1, 1) := by decide +kernel
theorem dX7_look_1 : decode cX7_look 1 = .ok (.ifCond .lt 9, 3) := by decide +kernel
theorem dX7_look_4 : decode cX7_look 4 = .ok (.iload_n 1, 1) := by decide +kernel
theorem dX7_look_5 : decode cX7_look 5 = .ok (.bipush 14, 2) := by decide +kernel
theorem dX7_look_7 : decode cX7_look 7 = .ok (.if_icmp .lt 13, 3) := by decide +kernel
theorem dX7_look_10 : decode cX7_look 10 = .ok (.new 210, 3) := by decide +kernel
theorem dX7_look_13 : decode cX7_look 13 = .ok (.dup, 1) := by decide +kernel
theorem dX7_look_14 : decode cX7_look 14 = .ok (.ldc 212, 2) := by decide +kernel
theorem dX7_look_16 : decode cX7_look 16 = .ok (.invokespecial 214, 3) := by decide +kernel
theorem dX7_look_19 : decode cX7_look 19 = .ok (.athrow, 1) := by decide +kernel
theorem dX7_look_20 : decode cX7_look 20 = .ok (.iload_n 1, 1) := by decide +kernel
theorem dX7_look_21 : decode cX7_look 21 = .ok (.ifCond .ne 11, 3) := by decide +kernel
theorem dX7_look_24 : decode cX7_look 24 = .ok (.aload_n 0, 1) := by decide +kernel
theorem dX7_look_25 : decode cX7_look 25 = .ok (.getfield 14, 3) := by decide +kernel
theorem dX7_look_28 : decode cX7_look 28 = .ok (.getfield 81, 3) := by decide +kernel
theorem dX7_look_31 : decode cX7_look 31 = .ok (.ireturn, 1) := by decide +kernel
theorem dX7_look_32 : decode cX7_look 32 = .ok (.iload_n 1, 1) := by decide +kernel
theorem dX7_look_33 : decode cX7_look 33 = .ok (.iconst 1, 1) := by decide +kernel
theorem dX7_look_34 : decode cX7_look 34 = .ok (.if_icmp .ne 11, 3) := by decide +kernel
theorem dX7_look_37 : decode cX7_look 37 = .ok (.aload_n 0, 1) := by decide +kernel
theorem dX7_look_38 : decode cX7_look 38 = .ok (.getfield 18, 3) := by decide +kernel
theorem dX7_look_41 : decode cX7_look 41 = .ok (.getfield 81, 3) := by decide +kernel
theorem dX7_look_44 : decode cX7_look 44 = .ok (.ireturn, 1) := by decide +kernel
theorem dX7_look_45 : decode cX7_look 45 = .ok (.iload_n 1, 1) := by decide +kernel
theorem dX7_look_46 : decode cX7_look 46 = .ok (.bipush 10, 2) := by decide +kernel
theorem dX7_look_48 : decode cX7_look 48 = .ok (.if_icmp .ge 15, 3) := by decide +kernel
theorem dX7_look_51 : decode cX7_look 51 = .ok (.aload_n 0, 1) := by decide +kernel
theorem dX7_look_52 : decode cX7_look 52 = .ok (.getfield 24, 3) := by decide +kernel
theorem dX7_look_55 : decode cX7_look 55 = .ok (.iload_n 1, 1) := by decide +kernel
theorem dX7_look_56 : decode cX7_look 56 = .ok (.iconst 2, 1) := by decide +kernel
theorem dX7_look_57 : decode cX7_look 57 = .ok (.isub, 1) := by decide +kernel
theorem dX7_look_58 : decode cX7_look 58 = .ok (.aaload, 1) := by decide +kernel
theorem dX7_look_59 : decode cX7_look 59 = .ok (.getfield 81, 3) := by decide +kernel
theorem dX7_look_62 : decode cX7_look 62 = .ok (.ireturn, 1) := by decide +kernel
theorem dX7_look_63 : decode cX7_look 63 = .ok (.aload_n 0, 1) := by decide +kernel
theorem dX7_look_64 : decode cX7_look 64 = .ok (.getfield 30, 3) := by decide +kernel
theorem dX7_look_67 : decode cX7_look 67 = .ok (.iload_n 1, 1) := by decide +kernel
theorem dX7_look_68 : decode cX7_look 68 = .ok (.iconst 2, 1) := by decide +kernel
theorem dX7_look_69 : decode cX7_look 69 = .ok (.isub, 1) := by decide +kernel
theorem dX7_look_70 : decode cX7_look 70 = .ok (.bipush 8, 2) := by decide +kernel
theorem dX7_look_72 : decode cX7_look 72 = .ok (.isub, 1) := by decide +kernel
theorem dX7_look_73 : decode cX7_look 73 = .ok (.aaload, 1) := by decide +kernel
theorem dX7_look_74 : decode cX7_look 74 = .ok (.getfield 164, 3) := by decide +kernel
theorem dX7_look_77 : decode cX7_look 77 = .ok (.ireturn, 1) := by decide +kernel
set_option maxHeartbeats 4000000 in
set_option maxRecDepth 100000 in
theorem c_B_shield (l : Launch) (D : va_G) (a0 : Nat) (p1 : Nat) (p2 : Nat) (p3 : Nat) (a0_tape : Nat) (a0_made : Nat) (a0_nothing : Nat) (a0_slots : Nat) (a0_guards : Nat) (a0_digester : Nat) (a0_keyMaker : Nat) (a0_keyStream : Nat) (a0_tallier : Nat) (a0_sealer : Nat) (a0_sealer_keyStream : Nat) (a0_sealer_tallier : Nat) (a0_sealer_nonce : Nat) (a0_sealer_sizes : Nat) (a0_sealer_madeTally : Nat) (a0_sealer_keyStream_first : Nat) (a0_sealer_keyStream_x : Nat) (a0_sealer_keyStream_bytes : Nat) (t_a0_sealer_keyStream_first : Nat → Wd) (t_a0_sealer_keyStream_x : Nat → Wd) (t_a0_sealer_keyStream_bytes : Nat → By) (t_a0_sealer_nonce : Nat → By) (a0_tape_bytes : Nat) (v_a0_tape_count : Nat) (t_a0_tape_bytes : Nat → By) (a0_made_bytes : Nat) (v_a0_made_count : Nat) (t_a0_made_bytes : Nat → By) (t_a0_guards : Nat → Option Nat) (a0_guards_at1 : Nat) (a0_guards_at1_secret : Nat) (a0_guards_at1_key : Nat) (a0_guards_at1_iv : Nat) (a0_guards_at1_hide : Nat) (v_a0_guards_at1_phase : Int32) (a0_guards_at1_hide_bytes : Nat) (v_a0_guards_at1_hide_count : Nat) (t_a0_guards_at1_hide_bytes : Nat → By)  (hg1 : p1 < 4) (hT : v_a0_tape_count ≤ 2048) (h1 : v_a0_guards_at1_phase ≠ wI 4294967295#32) (h2 : 1 ≤ p2) (h3 : p2 + 20 ≤ v_a0_tape_count) (hz : p3 < 2 ^ 31) (h_a0_guards_at1 : t_a0_guards p1 = some a0_guards_at1) : vM l D yX7_shield cX7_shield 4 (some .int) { frames := 5, cells := 0, slots := 0, locals := 120 } [.ref a0, .int (nI p1), .int (nI p2), .int (nI p3)] [(a0, .inr (7, [.ref a0_tape, .ref a0_made, .ref a0_nothing, .ref a0_slots, .ref a0_guards, .ref a0_digester, .ref a0_keyMaker, .ref a0_keyStream, .ref a0_tallier, .ref a0_sealer])), (a0_sealer, .inr (5, [.ref a0_sealer_keyStream, .ref a0_sealer_tallier, .ref a0_sealer_nonce, .ref a0_sealer_sizes, .ref a0_sealer_madeTally])), (a0_sealer_keyStream, .inr (3, [.ref a0_sealer_keyStream_first, .ref a0_sealer_keyStream_x, .ref a0_sealer_keyStream_bytes])), (a0_sealer_keyStream_first, aW D 16 t_a0_sealer_keyStream_first), (a0_sealer_keyStream_x, aW D 16 t_a0_sealer_keyStream_x), (a0_sealer_keyStream_bytes, aB D 64 t_a0_sealer_keyStream_bytes), (a0_sealer_nonce, aB D 12 t_a0_sealer_nonce), (a0_tape, .inr (4, [.ref a0_tape_bytes, .int (nI v_a0_tape_count)])), (a0_tape_bytes, aB D 2048 t_a0_tape_bytes), (a0_made, .inr (4, [.ref a0_made_bytes, .int (nI v_a0_made_count)])), (a0_made_bytes, aB D 2064 t_a0_made_bytes), (a0_guards, aR D 104 4 t_a0_guards), (a0_guards_at1, .inr (1, [.ref a0_guards_at1_secret, .ref a0_guards_at1_key, .ref a0_guards_at1_iv, .ref a0_guards_at1_hide, .int v_a0_guards_at1_phase])), (a0_guards_at1_hide, .inr (4, [.ref a0_guards_at1_hide_bytes, .int (nI v_a0_guards_at1_hide_count)])), (a0_guards_at1_hide_bytes, aB D 32 t_a0_guards_at1_hide_bytes)] (fun r wo => ∃ (kf : Nat → Wd) (kx : Nat → Wd) (kb : Nat → By) (nn : Nat → By) (rr : Nat → By), r = some (.int (nI (hdN t_a0_guards_at1_hide_bytes t_a0_tape_bytes p2 p3))) ∧ wo = [(a0, .inr (7, [.ref a0_tape, .ref a0_made, .ref a0_nothing, .ref a0_slots, .ref a0_guards, .ref a0_digester, .ref a0_keyMaker, .ref a0_keyStream, .ref a0_tallier, .ref a0_sealer])), (a0_sealer, .inr (5, [.ref a0_sealer_keyStream, .ref a0_sealer_tallier, .ref a0_sealer_nonce, .ref a0_sealer_sizes, .ref a0_sealer_madeTally])), (a0_sealer_keyStream, .inr (3, [.ref a0_sealer_keyStream_first, .ref a0_sealer_keyStream_x, .ref a0_sealer_keyStream_bytes])), (a0_sealer_keyStream_first, aW D 16 kf), (a0_sealer_keyStream_x, aW D 16 kx), (a0_sealer_keyStream_bytes, aB D 64 kb), (a0_sealer_nonce, aB D 12 nn), (a0_tape, .inr (4, [.ref a0_tape_bytes, .int (nI 0)])), (a0_tape_bytes, aB D 2048 t_a0_tape_bytes), (a0_made, .inr (4, [.ref a0_made_bytes, .int (nI v_a0_tape_count)])), (a0_made_bytes, aB D 2064 rr), (a0_guards, aR D 104 4 t_a0_guards), (a0_guards_at1, .inr (1, [.ref a0_guards_at1_secret, .ref a0_guards_at1_key, .ref a0_guards_at1_iv, .ref a0_guards_at1_hide, .int v_a0_guards_at1_phase])), (a0_guards_at1_hide, .inr (4, [.ref a0_guards_at1_hide_bytes, .int (nI v_a0_guards_at1_hide_count)])), (a0_guards_at1_hide_bytes, aB D 32 t_a0_guards_at1_hide_bytes)] ∧ (∀ j, j < v_a0_tape_count → rr j = hdF t_a0_guards_at1_hide_bytes t_a0_tape_bytes p2 (hdN t_a0_guards_at1_hide_bytes t_a0_tape_bytes p2 p3) j)) := by
  refine vM.of (by decide) (Nat.le_of_ble_eq_true rfl) (fun C hCl hCD g R => ?_)
  subst hCl; subst hCD
  show VJ C 0 0 0 [(0, .ref a0), (1, .int (nI p1)), (2, .int (nI p2)), (3, .int (nI p3))] [] [(a0, .inr (7, [.ref a0_tape, .ref a0_made, .ref a0_nothing, .ref a0_slots, .ref a0_guards, .ref a0_digester, .ref a0_keyMaker, .ref a0_keyStream, .ref a0_tallier, .ref a0_sealer])), (a0_sealer, .inr (5, [.ref a0_sealer_keyStream, .ref a0_sealer_tallier, .ref a0_sealer_nonce, .ref a0_sealer_sizes, .ref a0_sealer_madeTally])), (a0_sealer_keyStream, .inr (3, [.ref a0_sealer_keyStream_first, .ref a0_sealer_keyStream_x, .ref a0_sealer_keyStream_bytes])), (a0_sealer_keyStream_first, aW C.D 16 t_a0_sealer_keyStream_first), (a0_sealer_keyStream_x, aW C.D 16 t_a0_sealer_keyStream_x), (a0_sealer_keyStream_bytes, aB C.D 64 t_a0_sealer_keyStream_bytes), (a0_sealer_nonce, aB C.D 12 t_a0_sealer_nonce), (a0_tape, .inr (4, [.ref a0_tape_bytes, .int (nI v_a0_tape_count)])), (a0_tape_bytes, aB C.D 2048 t_a0_tape_bytes), (a0_made, .inr (4, [.ref a0_made_bytes, .int (nI v_a0_made_count)])), (a0_made_bytes, aB C.D 2064 t_a0_made_bytes), (a0_guards, aR C.D 104 4 t_a0_guards), (a0_guards_at1, .inr (1, [.ref a0_guards_at1_secret, .ref a0_guards_at1_key, .ref a0_guards_at1_iv, .ref a0_guards_at1_hide, .int v_a0_guards_at1_phase])), (a0_guards_at1_hide, .inr (4, [.ref a0_guards_at1_hide_bytes, .int (nI v_a0_guards_at1_hide_count)])), (a0_guards_at1_hide_bytes, aB C.D 32 t_a0_guards_at1_hide_bytes)]
  refine v_iload_n g dX7_shield_0 1 rfl 1 rfl ?_
  refine v_callS (As := [.int (nI p1)]) (rest := []) (wr := [(a0, .inr (7, [.ref a0_tape, .ref a0_made, .ref a0_nothing, .ref a0_slots, .ref a0_guards, .ref a0_digester, .ref a0_keyMaker, .ref a0_keyStream, .ref a0_tallier, .ref a0_sealer])), (a0_sealer, .inr (5, [.ref a0_sealer_keyStream, .ref a0_sealer_tallier, .ref a0_sealer_nonce, .ref a0_sealer_sizes, .ref a0_sealer_madeTally])), (a0_sealer_keyStream, .inr (3, [.ref a0_sealer_keyStream_first, .ref a0_sealer_keyStream_x, .ref a0_sealer_keyStream_bytes])), (a0_sealer_keyStream_first, aW C.D 16 t_a0_sealer_keyStream_first), (a0_sealer_keyStream_x, aW C.D 16 t_a0_sealer_keyStream_x), (a0_sealer_keyStream_bytes, aB C.D 64 t_a0_sealer_keyStream_bytes), (a0_sealer_nonce, aB C.D 12 t_a0_sealer_nonce), (a0_tape, .inr (4, [.ref a0_tape_bytes, .int (nI v_a0_tape_count)])), (a0_tape_bytes, aB C.D 2048 t_a0_tape_bytes), (a0_made, .inr (4, [.ref a0_made_bytes, .int (nI v_a0_made_count)])), (a0_made_bytes, aB C.D 2064 t_a0_made_bytes), (a0_guards, aR C.D 104 4 t_a0_guards), (a0_guards_at1, .inr (1, [.ref a0_guards_at1_secret, .ref a0_guards_at1_key, .ref a0_guards_at1_iv, .ref a0_guards_at1_hide, .int v_a0_guards_at1_phase])), (a0_guards_at1_hide, .inr (4, [.ref a0_guards_at1_hide_bytes, .int (nI v_a0_guards_at1_hide_count)])), (a0_guards_at1_hide_bytes, aB C.D 32 t_a0_guards_at1_hide_bytes)]) cw_X7_158 (hy_X7_needGuard) g (c_needGuard C.l C.D p1 (by omega)) dX7_shield_1 rfl (by decide) (by decide) (Nat.le_of_ble_eq_true rfl) [] [0, 1, 2, 3, 4, 5, 6, 7, 8, 9, 10, 11, 12, 13, 14] rfl rfl (by decide) rfl (by decide) (by decide) _ rfl (fun r wo hp1 => ?_)
  obtain ⟨rfl, rfl⟩ := hp1
  show VJ C 0 0 4 [(0, .ref a0), (1, .int (nI p1)), (2, .int (nI p2)), (3, .int (nI p3))] [] [(a0, .inr (7, [.ref a0_tape, .ref a0_made, .ref a0_nothing, .ref a0_slots, .ref a0_guards, .ref a0_digester, .ref a0_keyMaker, .ref a0_keyStream, .ref a0_tallier, .ref a0_sealer])), (a0_sealer, .inr (5, [.ref a0_sealer_keyStream, .ref a0_sealer_tallier, .ref a0_sealer_nonce, .ref a0_sealer_sizes, .ref a0_sealer_madeTally])), (a0_sealer_keyStream, .inr (3, [.ref a0_sealer_keyStream_first, .ref a0_sealer_keyStream_x, .ref a0_sealer_keyStream_bytes])), (a0_sealer_keyStream_first, aW C.D 16 t_a0_sealer_keyStream_first), (a0_sealer_keyStream_x, aW C.D 16 t_a0_sealer_keyStream_x), (a0_sealer_keyStream_bytes, aB C.D 64 t_a0_sealer_keyStream_bytes), (a0_sealer_nonce, aB C.D 12 t_a0_sealer_nonce), (a0_tape, .inr (4, [.ref a0_tape_bytes, .int (nI v_a0_tape_count)])), (a0_tape_bytes, aB C.D 2048 t_a0_tape_bytes), (a0_made, .inr (4, [.ref a0_made_bytes, .int (nI v_a0_made_count)])), (a0_made_bytes, aB C.D 2064 t_a0_made_bytes), (a0_guards, aR C.D 104 4 t_a0_guards), (a0_guards_at1, .inr (1, [.ref a0_guards_at1_secret, .ref a0_guards_at1_key, .ref a0_guards_at1_iv, .ref a0_guards_at1_hide, .int v_a0_guards_at1_phase])), (a0_guards_at1_hide, .inr (4, [.ref a0_guards_at1_hide_bytes, .int (nI v_a0_guards_at1_hide_count)])), (a0_guards_at1_hide_bytes, aB C.D 32 t_a0_guards_at1_hide_bytes)]
  refine v_iload_n g dX7_shield_4 2 rfl 2 rfl ?_
  refine v_iconst g dX7_shield_5 (v := nI 1) (by decide +kernel) ?_
  refine v_icmp_ltN g 23 dX7_shield_6 (by decide) (by omega) (by omega) (fun h => absurd h (by omega)) (fun _ => ?_)
  refine v_iload_n g dX7_shield_9 2 rfl 2 rfl ?_
  refine v_aload_n g dX7_shield_10 0 rfl 0 rfl ?_
  refine gf_X7_14 g dX7_shield_11 0 rfl rfl ?_
  refine gf_X7_81 g dX7_shield_14 7 rfl rfl ?_
  refine v_bipush g dX7_shield_17 (v := nI 20) (by decide +kernel) ?_
  refine v_isubN g dX7_shield_19 (by omega) ?_
  refine v_icmp_leN g 33 dX7_shield_20 (by decide) (by omega) (by omega) (fun _ => ?_) (fun h => absurd h (by omega))
  refine v_aload_n g dX7_shield_33 0 rfl 0 rfl ?_
  refine v_iload_n g dX7_shield_34 1 rfl 1 rfl ?_
  refine v_callV (As := [.int (nI p1)]) (rest := []) (wr := [(a0_sealer, .inr (5, [.ref a0_sealer_keyStream, .ref a0_sealer_tallier, .ref a0_sealer_nonce, .ref a0_sealer_sizes, .ref a0_sealer_madeTally])), (a0_sealer_keyStream, .inr (3, [.ref a0_sealer_keyStream_first, .ref a0_sealer_keyStream_x, .ref a0_sealer_keyStream_bytes])), (a0_sealer_keyStream_first, aW C.D 16 t_a0_sealer_keyStream_first), (a0_sealer_keyStream_x, aW C.D 16 t_a0_sealer_keyStream_x), (a0_sealer_keyStream_bytes, aB C.D 64 t_a0_sealer_keyStream_bytes), (a0_sealer_nonce, aB C.D 12 t_a0_sealer_nonce), (a0_tape, .inr (4, [.ref a0_tape_bytes, .int (nI v_a0_tape_count)])), (a0_tape_bytes, aB C.D 2048 t_a0_tape_bytes), (a0_made, .inr (4, [.ref a0_made_bytes, .int (nI v_a0_made_count)])), (a0_made_bytes, aB C.D 2064 t_a0_made_bytes), (a0_guards_at1_hide, .inr (4, [.ref a0_guards_at1_hide_bytes, .int (nI v_a0_guards_at1_hide_count)])), (a0_guards_at1_hide_bytes, aB C.D 32 t_a0_guards_at1_hide_bytes)]) cw_X7_174 (hy_X7_needArmed) g (c_needArmed C.l C.D a0 p1 a0_tape a0_made a0_nothing a0_slots a0_guards a0_digester a0_keyMaker a0_keyStream a0_tallier a0_sealer t_a0_guards a0_guards_at1 a0_guards_at1_secret a0_guards_at1_key a0_guards_at1_iv a0_guards_at1_hide v_a0_guards_at1_phase (by omega) h1 (by first | assumption | rfl)) dX7_shield_35 0 rfl rfl rfl (by decide) (by decide) (Nat.le_of_ble_eq_true rfl) [0, 11, 12] [1, 2, 3, 4, 5, 6, 7, 8, 9, 10, 13, 14] rfl rfl (by decide) rfl (by decide) (by decide) _ rfl (fun r wo hp2 => ?_)
  obtain ⟨rfl, rfl⟩ := hp2
  refine v_perm [12, 0, 1, 2, 3, 4, 5, 6, 7, 8, 9, 13, 14, 10, 11] [(a0, .inr (7, [.ref a0_tape, .ref a0_made, .ref a0_nothing, .ref a0_slots, .ref a0_guards, .ref a0_digester, .ref a0_keyMaker, .ref a0_keyStream, .ref a0_tallier, .ref a0_sealer])), (a0_sealer, .inr (5, [.ref a0_sealer_keyStream, .ref a0_sealer_tallier, .ref a0_sealer_nonce, .ref a0_sealer_sizes, .ref a0_sealer_madeTally])), (a0_sealer_keyStream, .inr (3, [.ref a0_sealer_keyStream_first, .ref a0_sealer_keyStream_x, .ref a0_sealer_keyStream_bytes])), (a0_sealer_keyStream_first, aW C.D 16 t_a0_sealer_keyStream_first), (a0_sealer_keyStream_x, aW C.D 16 t_a0_sealer_keyStream_x), (a0_sealer_keyStream_bytes, aB C.D 64 t_a0_sealer_keyStream_bytes), (a0_sealer_nonce, aB C.D 12 t_a0_sealer_nonce), (a0_tape, .inr (4, [.ref a0_tape_bytes, .int (nI v_a0_tape_count)])), (a0_tape_bytes, aB C.D 2048 t_a0_tape_bytes), (a0_made, .inr (4, [.ref a0_made_bytes, .int (nI v_a0_made_count)])), (a0_made_bytes, aB C.D 2064 t_a0_made_bytes), (a0_guards, aR C.D 104 4 t_a0_guards), (a0_guards_at1, .inr (1, [.ref a0_guards_at1_secret, .ref a0_guards_at1_key, .ref a0_guards_at1_iv, .ref a0_guards_at1_hide, .int v_a0_guards_at1_phase])), (a0_guards_at1_hide, .inr (4, [.ref a0_guards_at1_hide_bytes, .int (nI v_a0_guards_at1_hide_count)])), (a0_guards_at1_hide_bytes, aB C.D 32 t_a0_guards_at1_hide_bytes)] (by decide) rfl rfl ?_
  show VJ C 0 0 38 [(0, .ref a0), (1, .int (nI p1)), (2, .int (nI p2)), (3, .int (nI p3))] [] [(a0, .inr (7, [.ref a0_tape, .ref a0_made, .ref a0_nothing, .ref a0_slots, .ref a0_guards, .ref a0_digester, .ref a0_keyMaker, .ref a0_keyStream, .ref a0_tallier, .ref a0_sealer])), (a0_sealer, .inr (5, [.ref a0_sealer_keyStream, .ref a0_sealer_tallier, .ref a0_sealer_nonce, .ref a0_sealer_sizes, .ref a0_sealer_madeTally])), (a0_sealer_keyStream, .inr (3, [.ref a0_sealer_keyStream_first, .ref a0_sealer_keyStream_x, .ref a0_sealer_keyStream_bytes])), (a0_sealer_keyStream_first, aW C.D 16 t_a0_sealer_keyStream_first), (a0_sealer_keyStream_x, aW C.D 16 t_a0_sealer_keyStream_x), (a0_sealer_keyStream_bytes, aB C.D 64 t_a0_sealer_keyStream_bytes), (a0_sealer_nonce, aB C.D 12 t_a0_sealer_nonce), (a0_tape, .inr (4, [.ref a0_tape_bytes, .int (nI v_a0_tape_count)])), (a0_tape_bytes, aB C.D 2048 t_a0_tape_bytes), (a0_made, .inr (4, [.ref a0_made_bytes, .int (nI v_a0_made_count)])), (a0_made_bytes, aB C.D 2064 t_a0_made_bytes), (a0_guards, aR C.D 104 4 t_a0_guards), (a0_guards_at1, .inr (1, [.ref a0_guards_at1_secret, .ref a0_guards_at1_key, .ref a0_guards_at1_iv, .ref a0_guards_at1_hide, .int v_a0_guards_at1_phase])), (a0_guards_at1_hide, .inr (4, [.ref a0_guards_at1_hide_bytes, .int (nI v_a0_guards_at1_hide_count)])), (a0_guards_at1_hide_bytes, aB C.D 32 t_a0_guards_at1_hide_bytes)]
  refine v_aload_n g dX7_shield_38 0 rfl 0 rfl ?_
  refine gf_X7_18 g dX7_shield_39 0 rfl rfl ?_
  refine v_aload_n g dX7_shield_42 0 rfl 0 rfl ?_
  refine gf_X7_14 g dX7_shield_43 0 rfl rfl ?_
  refine v_callV (As := [.ref a0_tape]) (rest := []) (wr := [(a0, .inr (7, [.ref a0_tape, .ref a0_made, .ref a0_nothing, .ref a0_slots, .ref a0_guards, .ref a0_digester, .ref a0_keyMaker, .ref a0_keyStream, .ref a0_tallier, .ref a0_sealer])), (a0_sealer, .inr (5, [.ref a0_sealer_keyStream, .ref a0_sealer_tallier, .ref a0_sealer_nonce, .ref a0_sealer_sizes, .ref a0_sealer_madeTally])), (a0_sealer_keyStream, .inr (3, [.ref a0_sealer_keyStream_first, .ref a0_sealer_keyStream_x, .ref a0_sealer_keyStream_bytes])), (a0_sealer_keyStream_first, aW C.D 16 t_a0_sealer_keyStream_first), (a0_sealer_keyStream_x, aW C.D 16 t_a0_sealer_keyStream_x), (a0_sealer_keyStream_bytes, aB C.D 64 t_a0_sealer_keyStream_bytes), (a0_sealer_nonce, aB C.D 12 t_a0_sealer_nonce), (a0_guards, aR C.D 104 4 t_a0_guards), (a0_guards_at1, .inr (1, [.ref a0_guards_at1_secret, .ref a0_guards_at1_key, .ref a0_guards_at1_iv, .ref a0_guards_at1_hide, .int v_a0_guards_at1_phase])), (a0_guards_at1_hide, .inr (4, [.ref a0_guards_at1_hide_bytes, .int (nI v_a0_guards_at1_hide_count)])), (a0_guards_at1_hide_bytes, aB C.D 32 t_a0_guards_at1_hide_bytes)]) cw_X7_98 (hy_X4_copy) g (c_RW_copy C.l C.D a0_made a0_tape a0_made_bytes v_a0_made_count 2064 t_a0_made_bytes a0_tape_bytes v_a0_tape_count 2048 t_a0_tape_bytes (by omega) (by omega) (by omega) (by omega)) dX7_shield_46 9 rfl rfl rfl (by decide) (by decide) (Nat.le_of_ble_eq_true rfl) [9, 10, 7, 8] [0, 1, 2, 3, 4, 5, 6, 11, 12, 13, 14] rfl rfl (by decide) rfl (by decide) (by decide) _ rfl (fun r wo hp3 => ?_)
  obtain ⟨rfl, rfl⟩ := hp3
  refine v_perm [0, 1, 2, 3, 4, 5, 6, 13, 14, 11, 12, 7, 8, 9, 10] [(a0, .inr (7, [.ref a0_tape, .ref a0_made, .ref a0_nothing, .ref a0_slots, .ref a0_guards, .ref a0_digester, .ref a0_keyMaker, .ref a0_keyStream, .ref a0_tallier, .ref a0_sealer])), (a0_sealer, .inr (5, [.ref a0_sealer_keyStream, .ref a0_sealer_tallier, .ref a0_sealer_nonce, .ref a0_sealer_sizes, .ref a0_sealer_madeTally])), (a0_sealer_keyStream, .inr (3, [.ref a0_sealer_keyStream_first, .ref a0_sealer_keyStream_x, .ref a0_sealer_keyStream_bytes])), (a0_sealer_keyStream_first, aW C.D 16 t_a0_sealer_keyStream_first), (a0_sealer_keyStream_x, aW C.D 16 t_a0_sealer_keyStream_x), (a0_sealer_keyStream_bytes, aB C.D 64 t_a0_sealer_keyStream_bytes), (a0_sealer_nonce, aB C.D 12 t_a0_sealer_nonce), (a0_tape, .inr (4, [.ref a0_tape_bytes, .int (nI v_a0_tape_count)])), (a0_tape_bytes, aB C.D 2048 t_a0_tape_bytes), (a0_made, .inr (4, [.ref a0_made_bytes, .int (nI v_a0_tape_count)])), (a0_made_bytes, aB C.D 2064 (va_cpy t_a0_tape_bytes t_a0_made_bytes 0 0 v_a0_tape_count)), (a0_guards, aR C.D 104 4 t_a0_guards), (a0_guards_at1, .inr (1, [.ref a0_guards_at1_secret, .ref a0_guards_at1_key, .ref a0_guards_at1_iv, .ref a0_guards_at1_hide, .int v_a0_guards_at1_phase])), (a0_guards_at1_hide, .inr (4, [.ref a0_guards_at1_hide_bytes, .int (nI v_a0_guards_at1_hide_count)])), (a0_guards_at1_hide_bytes, aB C.D 32 t_a0_guards_at1_hide_bytes)] (by decide) rfl rfl ?_
  show VJ C 0 0 49 [(0, .ref a0), (1, .int (nI p1)), (2, .int (nI p2)), (3, .int (nI p3))] [] [(a0, .inr (7, [.ref a0_tape, .ref a0_made, .ref a0_nothing, .ref a0_slots, .ref a0_guards, .ref a0_digester, .ref a0_keyMaker, .ref a0_keyStream, .ref a0_tallier, .ref a0_sealer])), (a0_sealer, .inr (5, [.ref a0_sealer_keyStream, .ref a0_sealer_tallier, .ref a0_sealer_nonce, .ref a0_sealer_sizes, .ref a0_sealer_madeTally])), (a0_sealer_keyStream, .inr (3, [.ref a0_sealer_keyStream_first, .ref a0_sealer_keyStream_x, .ref a0_sealer_keyStream_bytes])), (a0_sealer_keyStream_first, aW C.D 16 t_a0_sealer_keyStream_first), (a0_sealer_keyStream_x, aW C.D 16 t_a0_sealer_keyStream_x), (a0_sealer_keyStream_bytes, aB C.D 64 t_a0_sealer_keyStream_bytes), (a0_sealer_nonce, aB C.D 12 t_a0_sealer_nonce), (a0_tape, .inr (4, [.ref a0_tape_bytes, .int (nI v_a0_tape_count)])), (a0_tape_bytes, aB C.D 2048 t_a0_tape_bytes), (a0_made, .inr (4, [.ref a0_made_bytes, .int (nI v_a0_tape_count)])), (a0_made_bytes, aB C.D 2064 (va_cpy t_a0_tape_bytes t_a0_made_bytes 0 0 v_a0_tape_count)), (a0_guards, aR C.D 104 4 t_a0_guards), (a0_guards_at1, .inr (1, [.ref a0_guards_at1_secret, .ref a0_guards_at1_key, .ref a0_guards_at1_iv, .ref a0_guards_at1_hide, .int v_a0_guards_at1_phase])), (a0_guards_at1_hide, .inr (4, [.ref a0_guards_at1_hide_bytes, .int (nI v_a0_guards_at1_hide_count)])), (a0_guards_at1_hide_bytes, aB C.D 32 t_a0_guards_at1_hide_bytes)]
  refine v_aload_n g dX7_shield_49 0 rfl 0 rfl ?_
  refine gf_X7_14 g dX7_shield_50 0 rfl rfl ?_
  refine v_iconst g dX7_shield_53 (v := nI 0) (by decide +kernel) ?_
  refine pf_X7_81 g dX7_shield_54 7 [(a0, .inr (7, [.ref a0_tape, .ref a0_made, .ref a0_nothing, .ref a0_slots, .ref a0_guards, .ref a0_digester, .ref a0_keyMaker, .ref a0_keyStream, .ref a0_tallier, .ref a0_sealer])), (a0_sealer, .inr (5, [.ref a0_sealer_keyStream, .ref a0_sealer_tallier, .ref a0_sealer_nonce, .ref a0_sealer_sizes, .ref a0_sealer_madeTally])), (a0_sealer_keyStream, .inr (3, [.ref a0_sealer_keyStream_first, .ref a0_sealer_keyStream_x, .ref a0_sealer_keyStream_bytes])), (a0_sealer_keyStream_first, aW C.D 16 t_a0_sealer_keyStream_first), (a0_sealer_keyStream_x, aW C.D 16 t_a0_sealer_keyStream_x), (a0_sealer_keyStream_bytes, aB C.D 64 t_a0_sealer_keyStream_bytes), (a0_sealer_nonce, aB C.D 12 t_a0_sealer_nonce), (a0_tape, .inr (4, [.ref a0_tape_bytes, .int (nI 0)])), (a0_tape_bytes, aB C.D 2048 t_a0_tape_bytes), (a0_made, .inr (4, [.ref a0_made_bytes, .int (nI v_a0_tape_count)])), (a0_made_bytes, aB C.D 2064 (va_cpy t_a0_tape_bytes t_a0_made_bytes 0 0 v_a0_tape_count)), (a0_guards, aR C.D 104 4 t_a0_guards), (a0_guards_at1, .inr (1, [.ref a0_guards_at1_secret, .ref a0_guards_at1_key, .ref a0_guards_at1_iv, .ref a0_guards_at1_hide, .int v_a0_guards_at1_phase])), (a0_guards_at1_hide, .inr (4, [.ref a0_guards_at1_hide_bytes, .int (nI v_a0_guards_at1_hide_count)])), (a0_guards_at1_hide_bytes, aB C.D 32 t_a0_guards_at1_hide_bytes)] rfl (Nat.le_of_ble_eq_true rfl) rfl ?_
  refine v_aload_n g dX7_shield_57 0 rfl 0 rfl ?_
  refine gf_X7_69 g dX7_shield_58 0 rfl rfl ?_
  refine v_aload_n g dX7_shield_61 0 rfl 0 rfl ?_
  refine gf_X7_30 g dX7_shield_62 0 rfl rfl ?_
  refine v_iload_n g dX7_shield_65 1 rfl 1 rfl ?_
  refine v_aaldR g a0_guards_at1 11 4 rfl rfl (by omega) (by decide) h_a0_guards_at1 dX7_shield_66 ?_
  refine v_aload_n g dX7_shield_67 0 rfl 0 rfl ?_
  refine gf_X7_18 g dX7_shield_68 0 rfl rfl ?_
  refine v_iload_n g dX7_shield_71 2 rfl 2 rfl ?_
  refine v_iload_n g dX7_shield_72 3 rfl 3 rfl ?_
  refine v_callV (As := [.ref a0_guards_at1, .ref a0_made, .int (nI p2), .int (nI p3)]) (rest := []) (wr := [(a0, .inr (7, [.ref a0_tape, .ref a0_made, .ref a0_nothing, .ref a0_slots, .ref a0_guards, .ref a0_digester, .ref a0_keyMaker, .ref a0_keyStream, .ref a0_tallier, .ref a0_sealer])), (a0_tape, .inr (4, [.ref a0_tape_bytes, .int (nI 0)])), (a0_tape_bytes, aB C.D 2048 t_a0_tape_bytes), (a0_guards, aR C.D 104 4 t_a0_guards)]) cw_X7_195 (hy_X5_hideNumber) g (c_SL_hide C.l C.D a0_sealer a0_guards_at1 a0_made p2 p3 a0_sealer_keyStream a0_sealer_tallier a0_sealer_nonce a0_sealer_sizes a0_sealer_madeTally a0_sealer_keyStream_first a0_sealer_keyStream_x a0_sealer_keyStream_bytes t_a0_sealer_keyStream_first t_a0_sealer_keyStream_x t_a0_sealer_keyStream_bytes t_a0_sealer_nonce a0_guards_at1_secret a0_guards_at1_key a0_guards_at1_iv a0_guards_at1_hide v_a0_guards_at1_phase a0_guards_at1_hide_bytes v_a0_guards_at1_hide_count t_a0_guards_at1_hide_bytes a0_made_bytes v_a0_tape_count 2064 (va_cpy t_a0_tape_bytes t_a0_made_bytes 0 0 v_a0_tape_count) (by omega) (by omega) (by omega) (by omega)) dX7_shield_73 1 rfl rfl rfl (by decide) (by decide) (Nat.le_of_ble_eq_true rfl) [1, 2, 3, 4, 5, 6, 12, 13, 14, 9, 10] [0, 7, 8, 11] rfl rfl (by decide) rfl (by decide) (by decide) _ rfl (fun r wo hp4 => ?_)
  obtain ⟨kf, kx, kb, nn, rfl, rfl⟩ := hp4
  refine v_perm [0, 4, 5, 6, 7, 8, 9, 1, 2, 13, 14, 3, 10, 11, 12] [(a0, .inr (7, [.ref a0_tape, .ref a0_made, .ref a0_nothing, .ref a0_slots, .ref a0_guards, .ref a0_digester, .ref a0_keyMaker, .ref a0_keyStream, .ref a0_tallier, .ref a0_sealer])), (a0_sealer, .inr (5, [.ref a0_sealer_keyStream, .ref a0_sealer_tallier, .ref a0_sealer_nonce, .ref a0_sealer_sizes, .ref a0_sealer_madeTally])), (a0_sealer_keyStream, .inr (3, [.ref a0_sealer_keyStream_first, .ref a0_sealer_keyStream_x, .ref a0_sealer_keyStream_bytes])), (a0_sealer_keyStream_first, aW C.D 16 kf), (a0_sealer_keyStream_x, aW C.D 16 kx), (a0_sealer_keyStream_bytes, aB C.D 64 kb), (a0_sealer_nonce, aB C.D 12 nn), (a0_tape, .inr (4, [.ref a0_tape_bytes, .int (nI 0)])), (a0_tape_bytes, aB C.D 2048 t_a0_tape_bytes), (a0_made, .inr (4, [.ref a0_made_bytes, .int (nI v_a0_tape_count)])), (a0_made_bytes, aB C.D 2064 (hdF t_a0_guards_at1_hide_bytes (va_cpy t_a0_tape_bytes t_a0_made_bytes 0 0 v_a0_tape_count) p2 (hdN t_a0_guards_at1_hide_bytes (va_cpy t_a0_tape_bytes t_a0_made_bytes 0 0 v_a0_tape_count) p2 p3))), (a0_guards, aR C.D 104 4 t_a0_guards), (a0_guards_at1, .inr (1, [.ref a0_guards_at1_secret, .ref a0_guards_at1_key, .ref a0_guards_at1_iv, .ref a0_guards_at1_hide, .int v_a0_guards_at1_phase])), (a0_guards_at1_hide, .inr (4, [.ref a0_guards_at1_hide_bytes, .int (nI v_a0_guards_at1_hide_count)])), (a0_guards_at1_hide_bytes, aB C.D 32 t_a0_guards_at1_hide_bytes)] (by decide) rfl rfl ?_
  show VJ C 0 0 76 [(0, .ref a0), (1, .int (nI p1)), (2, .int (nI p2)), (3, .int (nI p3))] [.int (nI (hdN t_a0_guards_at1_hide_bytes (va_cpy t_a0_tape_bytes t_a0_made_bytes 0 0 v_a0_tape_count) p2 p3))] [(a0, .inr (7, [.ref a0_tape, .ref a0_made, .ref a0_nothing, .ref a0_slots, .ref a0_guards, .ref a0_digester, .ref a0_keyMaker, .ref a0_keyStream, .ref a0_tallier, .ref a0_sealer])), (a0_sealer, .inr (5, [.ref a0_sealer_keyStream, .ref a0_sealer_tallier, .ref a0_sealer_nonce, .ref a0_sealer_sizes, .ref a0_sealer_madeTally])), (a0_sealer_keyStream, .inr (3, [.ref a0_sealer_keyStream_first, .ref a0_sealer_keyStream_x, .ref a0_sealer_keyStream_bytes])), (a0_sealer_keyStream_first, aW C.D 16 kf), (a0_sealer_keyStream_x, aW C.D 16 kx), (a0_sealer_keyStream_bytes, aB C.D 64 kb), (a0_sealer_nonce, aB C.D 12 nn), (a0_tape, .inr (4, [.ref a0_tape_bytes, .int (nI 0)])), (a0_tape_bytes, aB C.D 2048 t_a0_tape_bytes), (a0_made, .inr (4, [.ref a0_made_bytes, .int (nI v_a0_tape_count)])), (a0_made_bytes, aB C.D 2064 (hdF t_a0_guards_at1_hide_bytes (va_cpy t_a0_tape_bytes t_a0_made_bytes 0 0 v_a0_tape_count) p2 (hdN t_a0_guards_at1_hide_bytes (va_cpy t_a0_tape_bytes t_a0_made_bytes 0 0 v_a0_tape_count) p2 p3))), (a0_guards, aR C.D 104 4 t_a0_guards), (a0_guards_at1, .inr (1, [.ref a0_guards_at1_secret, .ref a0_guards_at1_key, .ref a0_guards_at1_iv, .ref a0_guards_at1_hide, .int v_a0_guards_at1_phase])), (a0_guards_at1_hide, .inr (4, [.ref a0_guards_at1_hide_bytes, .int (nI v_a0_guards_at1_hide_count)])), (a0_guards_at1_hide_bytes, aB C.D 32 t_a0_guards_at1_hide_bytes)]
  have hc : ∀ j, j < v_a0_tape_count → (va_cpy t_a0_tape_bytes t_a0_made_bytes 0 0 v_a0_tape_count) j = t_a0_tape_bytes j := fun j hj => by rw [pk_cpy_in (by omega) (by omega), Nat.zero_add, Nat.sub_zero]
  have hn : hdN t_a0_guards_at1_hide_bytes (va_cpy t_a0_tape_bytes t_a0_made_bytes 0 0 v_a0_tape_count) p2 p3 = hdN t_a0_guards_at1_hide_bytes t_a0_tape_bytes p2 p3 := hdN_congr (fun j hj => hc j (by omega))
  rw [hn]
  exact v_iret g R dX7_shield_76 (by decide) (by decide) ⟨kf, kx, kb, nn, _, rfl, rfl, (fun j hj => hdF_congr (fun q hq => hc q (by omega)) (hc j hj))⟩
set_option maxHeartbeats 4000000 in
set_option maxRecDepth 100000 in
theorem x_B_shield1 (l : Launch) (hL : noTr l) (D : va_G) (a0 : Nat) (p1 : Int32) (p2 : Int32) (p3 : Int32)  (h0 : p1 < 0 ∨ nI 4 ≤ p1) : vMX l D yX7_shield cX7_shield 4 (some .int) { frames := 7, cells := 1, slots := 6, locals := 102 } [.ref a0, .int p1, .int p2, .int p3] [] "java/lang/IllegalArgumentException" := by
  refine vMX.of (by decide) (Nat.le_of_ble_eq_true rfl) (fun C hCl hCD g R => ?_)
  subst hCl; subst hCD
  show VJ C 0 0 0 [(0, .ref a0), (1, .int p1), (2, .int p2), (3, .int p3)] [] []
  refine v_iload_n g dX7_shield_0 1 rfl 1 rfl ?_
  exact v_callST (As := [.int p1]) (rest := []) (wr := []) cw_X7_158 (hy_X7_needGuard) g R (x_needGuard C.l hL C.D p1 (by assumption)) dX7_shield_1 rfl (by decide) (by decide) (Nat.le_of_ble_eq_true rfl) [] [] rfl rfl (by decide) rfl (by decide) (by decide) [] rfl _ rfl
set_option maxHeartbeats 4000000 in
set_option maxRecDepth 100000 in
theorem x_B_shield2 (l : Launch) (hL : noTr l) (D : va_G) (a0 : Nat) (p1 : Nat) (p2 : Int32) (p3 : Int32) (a0_tape : Nat) (a0_made : Nat) (a0_nothing : Nat) (a0_slots : Nat) (a0_guards : Nat) (a0_digester : Nat) (a0_keyMaker : Nat) (a0_keyStream : Nat) (a0_tallier : Nat) (a0_sealer : Nat) (a0_tape_bytes : Nat) (v_a0_tape_count : Nat)  (hg1 : p1 < 4) (h0 : p2 < nI 1 ∨ nI v_a0_tape_count - nI 20 < p2) : vMX l D yX7_shield cX7_shield 4 (some .int) { frames := 6, cells := 1, slots := 6, locals := 82 } [.ref a0, .int (nI p1), .int p2, .int p3] [(a0, .inr (7, [.ref a0_tape, .ref a0_made, .ref a0_nothing, .ref a0_slots, .ref a0_guards, .ref a0_digester, .ref a0_keyMaker, .ref a0_keyStream, .ref a0_tallier, .ref a0_sealer])), (a0_tape, .inr (4, [.ref a0_tape_bytes, .int (nI v_a0_tape_count)]))] "java/lang/IllegalArgumentException" := by
  refine vMX.of (by decide) (Nat.le_of_ble_eq_true rfl) (fun C hCl hCD g R => ?_)
  subst hCl; subst hCD
  show VJ C 0 0 0 [(0, .ref a0), (1, .int (nI p1)), (2, .int p2), (3, .int p3)] [] [(a0, .inr (7, [.ref a0_tape, .ref a0_made, .ref a0_nothing, .ref a0_slots, .ref a0_guards, .ref a0_digester, .ref a0_keyMaker, .ref a0_keyStream, .ref a0_tallier, .ref a0_sealer])), (a0_tape, .inr (4, [.ref a0_tape_bytes, .int (nI v_a0_tape_count)]))]
  refine v_iload_n g dX7_shield_0 1 rfl 1 rfl ?_
  refine v_callS (As := [.int (nI p1)]) (rest := []) (wr := [(a0, .inr (7, [.ref a0_tape, .ref a0_made, .ref a0_nothing, .ref a0_slots, .ref a0_guards, .ref a0_digester, .ref a0_keyMaker, .ref a0_keyStream, .ref a0_tallier, .ref a0_sealer])), (a0_tape, .inr (4, [.ref a0_tape_bytes, .int (nI v_a0_tape_count)]))]) cw_X7_158 (hy_X7_needGuard) g (c_needGuard C.l C.D p1 (by omega)) dX7_shield_1 rfl (by decide) (by decide) (Nat.le_of_ble_eq_true rfl) [] [0, 1] rfl rfl (by decide) rfl (by decide) (by decide) _ rfl (fun r wo hp1 => ?_)
  obtain ⟨rfl, rfl⟩ := hp1
  show VJ C 0 0 4 [(0, .ref a0), (1, .int (nI p1)), (2, .int p2), (3, .int p3)] [] [(a0, .inr (7, [.ref a0_tape, .ref a0_made, .ref a0_nothing, .ref a0_slots, .ref a0_guards, .ref a0_digester, .ref a0_keyMaker, .ref a0_keyStream, .ref a0_tallier, .ref a0_sealer])), (a0_tape, .inr (4, [.ref a0_tape_bytes, .int (nI v_a0_tape_count)]))]
  refine v_iload_n g dX7_shield_4 2 rfl 2 rfl ?_
  refine v_iconst g dX7_shield_5 (v := nI 1) (by decide +kernel) ?_
  refine v_icmp_lt g 23 dX7_shield_6 (by decide) (fun h2 => ?_) (fun h2 => ?_)
  · skip
    exact v_throw g hL R th_78 (List.mem_of_getElem? (i := 319) (by decide +kernel)) (List.mem_of_getElem? (i := 320) (by decide +kernel)) (List.mem_of_getElem? (i := 55) (by decide +kernel)) (by decide +kernel) (g.gx.2.2.2.2.2.1 (193, "the tape has no number and sample there") (by decide)) dX7_shield_23 dX7_shield_26 dX7_shield_27 dX7_shield_29 dX7_shield_32 (by decide) (by decide) (by decide) (by decide)
  · skip
    refine v_iload_n g dX7_shield_9 2 rfl 2 rfl ?_
    refine v_aload_n g dX7_shield_10 0 rfl 0 rfl ?_
    refine gf_X7_14 g dX7_shield_11 0 rfl rfl ?_
    refine gf_X7_81 g dX7_shield_14 1 rfl rfl ?_
    refine v_bipush g dX7_shield_17 (v := nI 20) (by decide +kernel) ?_
    refine v_isub g dX7_shield_19 ?_
    refine v_icmp_le g 33 dX7_shield_20 (by decide) (fun h3 => ?_) (fun h3 => ?_)
    · skip
      exact absurd h3 (h0.elim (fun q => absurd q h2) i_lt_nle)
    · skip
      exact v_throw g hL R th_78 (List.mem_of_getElem? (i := 319) (by decide +kernel)) (List.mem_of_getElem? (i := 320) (by decide +kernel)) (List.mem_of_getElem? (i := 55) (by decide +kernel)) (by decide +kernel) (g.gx.2.2.2.2.2.1 (193, "the tape has no number and sample there") (by decide)) dX7_shield_23 dX7_shield_26 dX7_shield_27 dX7_shield_29 dX7_shield_32 (by decide) (by decide) (by decide) (by decide)
set_option maxHeartbeats 4000000 in
set_option maxRecDepth 100000 in
theorem x_B_shield3 (l : Launch) (hL : noTr l) (D : va_G) (a0 : Nat) (p1 : Nat) (p2 : Nat) (p3 : Int32) (a0_tape : Nat) (a0_made : Nat) (a0_nothing : Nat) (a0_slots : Nat) (a0_guards : Nat) (a0_digester : Nat) (a0_keyMaker : Nat) (a0_keyStream : Nat) (a0_tallier : Nat) (a0_sealer : Nat) (a0_tape_bytes : Nat) (v_a0_tape_count : Nat) (t_a0_guards : Nat → Option Nat) (a0_guards_at1 : Nat) (a0_guards_at1_secret : Nat) (a0_guards_at1_key : Nat) (a0_guards_at1_iv : Nat) (a0_guards_at1_hide : Nat) (v_a0_guards_at1_phase : Int32)  (hg1 : p1 < 4) (hT : v_a0_tape_count ≤ 2048) (h2 : 1 ≤ p2) (h3 : p2 + 20 ≤ v_a0_tape_count) (h1 : v_a0_guards_at1_phase = wI 4294967295#32) (h_a0_guards_at1 : t_a0_guards p1 = some a0_guards_at1) : vMX l D yX7_shield cX7_shield 4 (some .int) { frames := 7, cells := 1, slots := 6, locals := 103 } [.ref a0, .int (nI p1), .int (nI p2), .int p3] [(a0, .inr (7, [.ref a0_tape, .ref a0_made, .ref a0_nothing, .ref a0_slots, .ref a0_guards, .ref a0_digester, .ref a0_keyMaker, .ref a0_keyStream, .ref a0_tallier, .ref a0_sealer])), (a0_tape, .inr (4, [.ref a0_tape_bytes, .int (nI v_a0_tape_count)])), (a0_guards, aR D 104 4 t_a0_guards), (a0_guards_at1, .inr (1, [.ref a0_guards_at1_secret, .ref a0_guards_at1_key, .ref a0_guards_at1_iv, .ref a0_guards_at1_hide, .int v_a0_guards_at1_phase]))] "java/lang/IllegalStateException" := by
  refine vMX.of (by decide) (Nat.le_of_ble_eq_true rfl) (fun C hCl hCD g R => ?_)
  subst hCl; subst hCD
  show VJ C 0 0 0 [(0, .ref a0), (1, .int (nI p1)), (2, .int (nI p2)), (3, .int p3)] [] [(a0, .inr (7, [.ref a0_tape, .ref a0_made, .ref a0_nothing, .ref a0_slots, .ref a0_guards, .ref a0_digester, .ref a0_keyMaker, .ref a0_keyStream, .ref a0_tallier, .ref a0_sealer])), (a0_tape, .inr (4, [.ref a0_tape_bytes, .int (nI v_a0_tape_count)])), (a0_guards, aR C.D 104 4 t_a0_guards), (a0_guards_at1, .inr (1, [.ref a0_guards_at1_secret, .ref a0_guards_at1_key, .ref a0_guards_at1_iv, .ref a0_guards_at1_hide, .int v_a0_guards_at1_phase]))]
  refine v_iload_n g dX7_shield_0 1 rfl 1 rfl ?_
  refine v_callS (As := [.int (nI p1)]) (rest := []) (wr := [(a0, .inr (7, [.ref a0_tape, .ref a0_made, .ref a0_nothing, .ref a0_slots, .ref a0_guards, .ref a0_digester, .ref a0_keyMaker, .ref a0_keyStream, .ref a0_tallier, .ref a0_sealer])), (a0_tape, .inr (4, [.ref a0_tape_bytes, .int (nI v_a0_tape_count)])), (a0_guards, aR C.D 104 4 t_a0_guards), (a0_guards_at1, .inr (1, [.ref a0_guards_at1_secret, .ref a0_guards_at1_key, .ref a0_guards_at1_iv, .ref a0_guards_at1_hide, .int v_a0_guards_at1_phase]))]) cw_X7_158 (hy_X7_needGuard) g (c_needGuard C.l C.D p1 (by omega)) dX7_shield_1 rfl (by decide) (by decide) (Nat.le_of_ble_eq_true rfl) [] [0, 1, 2, 3] rfl rfl (by decide) rfl (by decide) (by decide) _ rfl (fun r wo hp1 => ?_)
  obtain ⟨rfl, rfl⟩ := hp1
  show VJ C 0 0 4 [(0, .ref a0), (1, .int (nI p1)), (2, .int (nI p2)), (3, .int p3)] [] [(a0, .inr (7, [.ref a0_tape, .ref a0_made, .ref a0_nothing, .ref a0_slots, .ref a0_guards, .ref a0_digester, .ref a0_keyMaker, .ref a0_keyStream, .ref a0_tallier, .ref a0_sealer])), (a0_tape, .inr (4, [.ref a0_tape_bytes, .int (nI v_a0_tape_count)])), (a0_guards, aR C.D 104 4 t_a0_guards), (a0_guards_at1, .inr (1, [.ref a0_guards_at1_secret, .ref a0_guards_at1_key, .ref a0_guards_at1_iv, .ref a0_guards_at1_hide, .int v_a0_guards_at1_phase]))]
  refine v_iload_n g dX7_shield_4 2 rfl 2 rfl ?_
  refine v_iconst g dX7_shield_5 (v := nI 1) (by decide +kernel) ?_
  refine v_icmp_ltN g 23 dX7_shield_6 (by decide) (by omega) (by omega) (fun h => absurd h (by omega)) (fun _ => ?_)
  refine v_iload_n g dX7_shield_9 2 rfl 2 rfl ?_
  refine v_aload_n g dX7_shield_10 0 rfl 0 rfl ?_
  refine gf_X7_14 g dX7_shield_11 0 rfl rfl ?_
  refine gf_X7_81 g dX7_shield_14 1 rfl rfl ?_
  refine v_bipush g dX7_shield_17 (v := nI 20) (by decide +kernel) ?_
  refine v_isubN g dX7_shield_19 (by omega) ?_
  refine v_icmp_leN g 33 dX7_shield_20 (by decide) (by omega) (by omega) (fun _ => ?_) (fun h => absurd h (by omega))
  refine v_aload_n g dX7_shield_33 0 rfl 0 rfl ?_
  refine v_iload_n g dX7_shield_34 1 rfl 1 rfl ?_
  exact v_callVT (As := [.int (nI p1)]) (rest := []) (wr := [(a0_tape, .inr (4, [.ref a0_tape_bytes, .int (nI v_a0_tape_count)]))]) cw_X7_174 (hy_X7_needArmed) g R (x_needArmed C.l hL C.D a0 p1 a0_tape a0_made a0_nothing a0_slots a0_guards a0_digester a0_keyMaker a0_keyStream a0_tallier a0_sealer t_a0_guards a0_guards_at1 a0_guards_at1_secret a0_guards_at1_key a0_guards_at1_iv a0_guards_at1_hide v_a0_guards_at1_phase (by assumption) (by assumption) (by assumption)) dX7_shield_35 0 rfl rfl rfl (by decide) (by decide) (Nat.le_of_ble_eq_true rfl) [0, 2, 3] [1] rfl rfl (by decide) rfl (by decide) (by decide) [1, 0, 2, 3] rfl _ rfl
set_option maxHeartbeats 4000000 in
set_option maxRecDepth 100000 in
theorem c_B_out (l : Launch) (D : va_G) (a0 : Nat) (p1 : Nat) (a0_tape : Nat) (a0_made : Nat) (a0_nothing : Nat) (a0_slots : Nat) (a0_guards : Nat) (a0_digester : Nat) (a0_keyMaker : Nat) (a0_keyStream : Nat) (a0_tallier : Nat) (a0_sealer : Nat) (a0_made_bytes : Nat) (v_a0_made_count : Nat) (t_a0_made_bytes : Nat → By)  (hM : v_a0_made_count ≤ 2064) (h1 : p1 < v_a0_made_count) : vM l D yX7_out cX7_out 2 (some .int) { frames := 1, cells := 0, slots := 0, locals := 21 } [.ref a0, .int (nI p1)] [(a0, .inr (7, [.ref a0_tape, .ref a0_made, .ref a0_nothing, .ref a0_slots, .ref a0_guards, .ref a0_digester, .ref a0_keyMaker, .ref a0_keyStream, .ref a0_tallier, .ref a0_sealer])), (a0_made, .inr (4, [.ref a0_made_bytes, .int (nI v_a0_made_count)])), (a0_made_bytes, aB D 2064 t_a0_made_bytes)] (fun r wo => r = some (.int (nI ((t_a0_made_bytes p1).toNat))) ∧ wo = [(a0, .inr (7, [.ref a0_tape, .ref a0_made, .ref a0_nothing, .ref a0_slots, .ref a0_guards, .ref a0_digester, .ref a0_keyMaker, .ref a0_keyStream, .ref a0_tallier, .ref a0_sealer])), (a0_made, .inr (4, [.ref a0_made_bytes, .int (nI v_a0_made_count)])), (a0_made_bytes, aB D 2064 t_a0_made_bytes)]) := by
  refine vM.of (by decide) (Nat.le_of_ble_eq_true rfl) (fun C hCl hCD g R => ?_)
  subst hCl; subst hCD
  show VJ C 0 0 0 [(0, .ref a0), (1, .int (nI p1))] [] [(a0, .inr (7, [.ref a0_tape, .ref a0_made, .ref a0_nothing, .ref a0_slots, .ref a0_guards, .ref a0_digester, .ref a0_keyMaker, .ref a0_keyStream, .ref a0_tallier, .ref a0_sealer])), (a0_made, .inr (4, [.ref a0_made_bytes, .int (nI v_a0_made_count)])), (a0_made_bytes, aB C.D 2064 t_a0_made_bytes)]
  refine v_aload_n g dX7_out_0 0 rfl 0 rfl ?_
  refine v_iload_n g dX7_out_1 1 rfl 1 rfl ?_
  refine v_callV (As := [.int (nI p1)]) (rest := []) (wr := [(a0_made_bytes, aB C.D 2064 t_a0_made_bytes)]) cw_X7_199 (hy_X7_needOutByte) g (c_needOut C.l C.D a0 p1 a0_tape a0_made a0_nothing a0_slots a0_guards a0_digester a0_keyMaker a0_keyStream a0_tallier a0_sealer a0_made_bytes v_a0_made_count (by omega) (by omega)) dX7_out_2 0 rfl rfl rfl (by decide) (by decide) (Nat.le_of_ble_eq_true rfl) [0, 1] [2] rfl rfl (by decide) rfl (by decide) (by decide) _ rfl (fun r wo hp1 => ?_)
  obtain ⟨rfl, rfl⟩ := hp1
  refine v_perm [1, 2, 0] [(a0, .inr (7, [.ref a0_tape, .ref a0_made, .ref a0_nothing, .ref a0_slots, .ref a0_guards, .ref a0_digester, .ref a0_keyMaker, .ref a0_keyStream, .ref a0_tallier, .ref a0_sealer])), (a0_made, .inr (4, [.ref a0_made_bytes, .int (nI v_a0_made_count)])), (a0_made_bytes, aB C.D 2064 t_a0_made_bytes)] (by decide) rfl rfl ?_
  show VJ C 0 0 5 [(0, .ref a0), (1, .int (nI p1))] [] [(a0, .inr (7, [.ref a0_tape, .ref a0_made, .ref a0_nothing, .ref a0_slots, .ref a0_guards, .ref a0_digester, .ref a0_keyMaker, .ref a0_keyStream, .ref a0_tallier, .ref a0_sealer])), (a0_made, .inr (4, [.ref a0_made_bytes, .int (nI v_a0_made_count)])), (a0_made_bytes, aB C.D 2064 t_a0_made_bytes)]
  refine v_aload_n g dX7_out_5 0 rfl 0 rfl ?_
  refine gf_X7_18 g dX7_out_6 0 rfl rfl ?_
  refine gf_X7_105 g dX7_out_9 1 rfl rfl ?_
  refine v_iload_n g dX7_out_12 1 rfl 1 rfl ?_
  refine v_baldB g 2 rfl (by omega) (by decide) dX7_out_13 ?_
  refine v_sipush g dX7_out_14 (v := nI 255) (by decide +kernel) ?_
  refine v_iandB g dX7_out_17 ?_
  refine v_toi (nI ((t_a0_made_bytes p1).toNat)) (b_255 _) ?_
  exact v_iret g R dX7_out_18 (by decide) (by decide) ⟨rfl, rfl⟩
set_option maxHeartbeats 4000000 in
set_option maxRecDepth 100000 in
theorem x_B_out (l : Launch) (hL : noTr l) (D : va_G) (a0 : Nat) (p1 : Int32) (a0_tape : Nat) (a0_made : Nat) (a0_nothing : Nat) (a0_slots : Nat) (a0_guards : Nat) (a0_digester : Nat) (a0_keyMaker : Nat) (a0_keyStream : Nat) (a0_tallier : Nat) (a0_sealer : Nat) (a0_made_bytes : Nat) (v_a0_made_count : Nat)  (h1 : p1 < 0 ∨ nI v_a0_made_count ≤ p1) : vMX l D yX7_out cX7_out 2 (some .int) { frames := 7, cells := 1, slots := 6, locals := 103 } [.ref a0, .int p1] [(a0, .inr (7, [.ref a0_tape, .ref a0_made, .ref a0_nothing, .ref a0_slots, .ref a0_guards, .ref a0_digester, .ref a0_keyMaker, .ref a0_keyStream, .ref a0_tallier, .ref a0_sealer])), (a0_made, .inr (4, [.ref a0_made_bytes, .int (nI v_a0_made_count)]))] "java/util/NoSuchElementException" := by
  refine vMX.of (by decide) (Nat.le_of_ble_eq_true rfl) (fun C hCl hCD g R => ?_)
  subst hCl; subst hCD
  show VJ C 0 0 0 [(0, .ref a0), (1, .int p1)] [] [(a0, .inr (7, [.ref a0_tape, .ref a0_made, .ref a0_nothing, .ref a0_slots, .ref a0_guards, .ref a0_digester, .ref a0_keyMaker, .ref a0_keyStream, .ref a0_tallier, .ref a0_sealer])), (a0_made, .inr (4, [.ref a0_made_bytes, .int (nI v_a0_made_count)]))]
  refine v_aload_n g dX7_out_0 0 rfl 0 rfl ?_
  refine v_iload_n g dX7_out_1 1 rfl 1 rfl ?_
  exact v_callVT (As := [.int p1]) (rest := []) (wr := []) cw_X7_199 (hy_X7_needOutByte) g R (x_needOut C.l hL C.D a0 p1 a0_tape a0_made a0_nothing a0_slots a0_guards a0_digester a0_keyMaker a0_keyStream a0_tallier a0_sealer a0_made_bytes v_a0_made_count (by assumption)) dX7_out_2 0 rfl rfl rfl (by decide) (by decide) (Nat.le_of_ble_eq_true rfl) [0, 1] [] rfl rfl (by decide) rfl (by decide) (by decide) [0, 1] rfl _ rfl
set_option maxHeartbeats 4000000 in
set_option maxRecDepth 100000 in
theorem c_B_outs (l : Launch) (D : va_G) (a0 : Nat) (p1 : Nat) (a0_tape : Nat) (a0_made : Nat) (a0_nothing : Nat) (a0_slots : Nat) (a0_guards : Nat) (a0_digester : Nat) (a0_keyMaker : Nat) (a0_keyStream : Nat) (a0_tallier : Nat) (a0_sealer : Nat) (a0_made_bytes : Nat) (v_a0_made_count : Nat) (t_a0_made_bytes : Nat → By)  (hM : v_a0_made_count ≤ 2064) (h1 : p1 < v_a0_made_count) : vM l D yX7_outs cX7_outs 6 (some .long) { frames := 1, cells := 0, slots := 0, locals := 26 } [.ref a0, .int (nI p1)] [(a0, .inr (7, [.ref a0_tape, .ref a0_made, .ref a0_nothing, .ref a0_slots, .ref a0_guards, .ref a0_digester, .ref a0_keyMaker, .ref a0_keyStream, .ref a0_tallier, .ref a0_sealer])), (a0_made, .inr (4, [.ref a0_made_bytes, .int (nI v_a0_made_count)])), (a0_made_bytes, aB D 2064 t_a0_made_bytes)] (fun r wo => r = some (.long (xL (ouF t_a0_made_bytes p1 (min 8 (v_a0_made_count - p1))))) ∧ wo = [(a0, .inr (7, [.ref a0_tape, .ref a0_made, .ref a0_nothing, .ref a0_slots, .ref a0_guards, .ref a0_digester, .ref a0_keyMaker, .ref a0_keyStream, .ref a0_tallier, .ref a0_sealer])), (a0_made, .inr (4, [.ref a0_made_bytes, .int (nI v_a0_made_count)])), (a0_made_bytes, aB D 2064 t_a0_made_bytes)]) := by
  refine vM.of (by decide) (Nat.le_of_ble_eq_true rfl) (fun C hCl hCD g R => ?_)
  subst hCl; subst hCD
  show VJ C 0 0 0 [(0, .ref a0), (1, .int (nI p1))] [] [(a0, .inr (7, [.ref a0_tape, .ref a0_made, .ref a0_nothing, .ref a0_slots, .ref a0_guards, .ref a0_digester, .ref a0_keyMaker, .ref a0_keyStream, .ref a0_tallier, .ref a0_sealer])), (a0_made, .inr (4, [.ref a0_made_bytes, .int (nI v_a0_made_count)])), (a0_made_bytes, aB C.D 2064 t_a0_made_bytes)]
  refine v_aload_n g dX7_outs_0 0 rfl 0 rfl ?_
  refine v_iload_n g dX7_outs_1 1 rfl 1 rfl ?_
  refine v_callV (As := [.int (nI p1)]) (rest := []) (wr := [(a0_made_bytes, aB C.D 2064 t_a0_made_bytes)]) cw_X7_199 (hy_X7_needOutByte) g (c_needOut C.l C.D a0 p1 a0_tape a0_made a0_nothing a0_slots a0_guards a0_digester a0_keyMaker a0_keyStream a0_tallier a0_sealer a0_made_bytes v_a0_made_count (by omega) (by omega)) dX7_outs_2 0 rfl rfl rfl (by decide) (by decide) (Nat.le_of_ble_eq_true rfl) [0, 1] [2] rfl rfl (by decide) rfl (by decide) (by decide) _ rfl (fun r wo hp1 => ?_)
  obtain ⟨rfl, rfl⟩ := hp1
  refine v_perm [1, 2, 0] [(a0, .inr (7, [.ref a0_tape, .ref a0_made, .ref a0_nothing, .ref a0_slots, .ref a0_guards, .ref a0_digester, .ref a0_keyMaker, .ref a0_keyStream, .ref a0_tallier, .ref a0_sealer])), (a0_made, .inr (4, [.ref a0_made_bytes, .int (nI v_a0_made_count)])), (a0_made_bytes, aB C.D 2064 t_a0_made_bytes)] (by decide) rfl rfl ?_
  show VJ C 0 0 5 [(0, .ref a0), (1, .int (nI p1))] [] [(a0, .inr (7, [.ref a0_tape, .ref a0_made, .ref a0_nothing, .ref a0_slots, .ref a0_guards, .ref a0_digester, .ref a0_keyMaker, .ref a0_keyStream, .ref a0_tallier, .ref a0_sealer])), (a0_made, .inr (4, [.ref a0_made_bytes, .int (nI v_a0_made_count)])), (a0_made_bytes, aB C.D 2064 t_a0_made_bytes)]
  refine v_bipush g dX7_outs_5 (v := nI 8) (by decide +kernel) ?_
  refine v_aload_n g dX7_outs_7 0 rfl 0 rfl ?_
  refine gf_X7_18 g dX7_outs_8 0 rfl rfl ?_
  refine gf_X7_81 g dX7_outs_11 1 rfl rfl ?_
  refine v_iload_n g dX7_outs_14 1 rfl 1 rfl ?_
  refine v_isubN g dX7_outs_15 (by omega) ?_
  refine v_min g mn_X7_202 (by omega) (by omega) (by decide) (Nat.le_of_ble_eq_true rfl) (by decide) (by decide) dX7_outs_16 ?_
  refine v_istore_n g [(2, .int (nI (min 8 (v_a0_made_count - p1)))), (0, .ref a0), (1, .int (nI p1))] dX7_outs_19 2 rfl (by decide) rfl ?_
  refine v_lconst g dX7_outs_20 (v := lN 0) (by decide +kernel) ?_
  refine v_tol (xL (ouF t_a0_made_bytes p1 0)) (xL_n 0) ?_
  refine v_lstore_n g [(3, .long (xL (ouF t_a0_made_bytes p1 0))), (2, .int (nI (min 8 (v_a0_made_count - p1)))), (0, .ref a0), (1, .int (nI p1))] dX7_outs_21 3 rfl (by decide) rfl ?_
  refine v_iconst g dX7_outs_22 (v := nI 0) (by decide +kernel) ?_
  refine v_istore g [(5, .int (nI 0)), (3, .long (xL (ouF t_a0_made_bytes p1 0))), (2, .int (nI (min 8 (v_a0_made_count - p1)))), (0, .ref a0), (1, .int (nI p1))] dX7_outs_23 (by decide) rfl ?_
  have L25_1 : ∀ i : Nat, i ≤ (min 8 (v_a0_made_count - p1)) → ∀ (nu : BitVec 64), (nu = ouF t_a0_made_bytes p1 i) → VJ C 0 0 25 [(5, .int (nI i)), (3, .long (xL nu)), (2, .int (nI (min 8 (v_a0_made_count - p1)))), (0, .ref a0), (1, .int (nI p1))] [] [(a0, .inr (7, [.ref a0_tape, .ref a0_made, .ref a0_nothing, .ref a0_slots, .ref a0_guards, .ref a0_digester, .ref a0_keyMaker, .ref a0_keyStream, .ref a0_tallier, .ref a0_sealer])), (a0_made, .inr (4, [.ref a0_made_bytes, .int (nI v_a0_made_count)])), (a0_made_bytes, aB C.D 2064 t_a0_made_bytes)] := by
    refine v_for ((min 8 (v_a0_made_count - p1))) ?_ ?_
    · skip
      intro i hii ih nu hv0
      refine v_iload g dX7_outs_25 0 rfl ?_
      refine v_iload_n g dX7_outs_27 2 rfl 2 rfl ?_
      refine v_icmp_geN g 63 dX7_outs_28 (by decide) (by omega) (by omega) (fun h2 => ?_) (fun h2 => ?_)
      · skip
        exact absurd h2 (by omega)
      · skip
        refine v_lload_n g dX7_outs_31 3 rfl 1 rfl ?_
        refine v_aload_n g dX7_outs_32 0 rfl 3 rfl ?_
        refine gf_X7_18 g dX7_outs_33 0 rfl rfl ?_
        refine gf_X7_105 g dX7_outs_36 1 rfl rfl ?_
        refine v_iload_n g dX7_outs_39 1 rfl 4 rfl ?_
        refine v_iload g dX7_outs_40 0 rfl ?_
        refine v_iaddN g dX7_outs_42 ?_
        refine v_baldB g 2 rfl (by omega) (by decide) dX7_outs_43 ?_
        refine v_i2lW g ((t_a0_made_bytes (p1 + i)).signExtend 32) (bI_w (t_a0_made_bytes (p1 + i))) dX7_outs_44 ?_
        refine v_ldc2 g dX7_outs_45 kl_X7_208 ?_
        refine v_landX g (((t_a0_made_bytes (p1 + i)).signExtend 32).signExtend 64) (255#64) rfl (xL_n _) dX7_outs_48 ?_
        refine v_tol (xL ((t_a0_made_bytes (p1 + i)).setWidth 64)) (congrArg xL (ou_b _)) ?_
        refine v_bipush g dX7_outs_49 (v := nI 8) (by decide +kernel) ?_
        refine v_iload g dX7_outs_51 0 rfl ?_
        refine v_imulN g dX7_outs_53 ?_
        refine v_lshlX g (by omega) dX7_outs_54 ?_
        refine v_lorX g (nu) (((t_a0_made_bytes (p1 + i)).setWidth 64) <<< (8 * i)) rfl rfl dX7_outs_55 ?_
        refine v_lstore_n g [(3, .long (xL (nu ||| (((t_a0_made_bytes (p1 + i)).setWidth 64) <<< (8 * i))))), (5, .int (nI i)), (2, .int (nI (min 8 (v_a0_made_count - p1)))), (0, .ref a0), (1, .int (nI p1))] dX7_outs_56 3 rfl (by decide) rfl ?_
        refine v_iincN g 1 [(5, .int (nI (i + 1))), (3, .long (xL (nu ||| (((t_a0_made_bytes (p1 + i)).setWidth 64) <<< (8 * i))))), (2, .int (nI (min 8 (v_a0_made_count - p1)))), (0, .ref a0), (1, .int (nI p1))] dX7_outs_57 1 rfl (by decide +kernel) (by decide) rfl ?_
        refine v_goto g 25 dX7_outs_60 (by decide) ?_
        exact ih (nu ||| (((t_a0_made_bytes (p1 + i)).setWidth 64) <<< (8 * i))) (by rw [hv0]; rfl)
    · skip
      intro nu hv0
      refine v_iload g dX7_outs_25 0 rfl ?_
      refine v_iload_n g dX7_outs_27 2 rfl 2 rfl ?_
      refine v_icmp_geN g 63 dX7_outs_28 (by decide) (by omega) (by omega) (fun h3 => ?_) (fun h3 => ?_)
      · skip
        refine v_lload_n g dX7_outs_63 3 rfl 1 rfl ?_
        subst hv0
        exact v_lret g R dX7_outs_64 (by decide) (by decide) ⟨rfl, rfl⟩
      · skip
        exact absurd h3 (by omega)
  exact L25_1 0 (by omega) (ouF t_a0_made_bytes p1 0) rfl
set_option maxHeartbeats 4000000 in
set_option maxRecDepth 100000 in
theorem x_B_outs (l : Launch) (hL : noTr l) (D : va_G) (a0 : Nat) (p1 : Int32) (a0_tape : Nat) (a0_made : Nat) (a0_nothing : Nat) (a0_slots : Nat) (a0_guards : Nat) (a0_digester : Nat) (a0_keyMaker : Nat) (a0_keyStream : Nat) (a0_tallier : Nat) (a0_sealer : Nat) (a0_made_bytes : Nat) (v_a0_made_count : Nat)  (h1 : p1 < 0 ∨ nI v_a0_made_count ≤ p1) : vMX l D yX7_outs cX7_outs 6 (some .long) { frames := 7, cells := 1, slots := 6, locals := 103 } [.ref a0, .int p1] [(a0, .inr (7, [.ref a0_tape, .ref a0_made, .ref a0_nothing, .ref a0_slots, .ref a0_guards, .ref a0_digester, .ref a0_keyMaker, .ref a0_keyStream, .ref a0_tallier, .ref a0_sealer])), (a0_made, .inr (4, [.ref a0_made_bytes, .int (nI v_a0_made_count)]))] "java/util/NoSuchElementException" := by
  refine vMX.of (by decide) (Nat.le_of_ble_eq_true rfl) (fun C hCl hCD g R => ?_)
  subst hCl; subst hCD
  show VJ C 0 0 0 [(0, .ref a0), (1, .int p1)] [] [(a0, .inr (7, [.ref a0_tape, .ref a0_made, .ref a0_nothing, .ref a0_slots, .ref a0_guards, .ref a0_digester, .ref a0_keyMaker, .ref a0_keyStream, .ref a0_tallier, .ref a0_sealer])), (a0_made, .inr (4, [.ref a0_made_bytes, .int (nI v_a0_made_count)]))]
  refine v_aload_n g dX7_outs_0 0 rfl 0 rfl ?_
  refine v_iload_n g dX7_outs_1 1 rfl 1 rfl ?_
  exact v_callVT (As := [.int p1]) (rest := []) (wr := []) cw_X7_199 (hy_X7_needOutByte) g R (x_needOut C.l hL C.D a0 p1 a0_tape a0_made a0_nothing a0_slots a0_guards a0_digester a0_keyMaker a0_keyStream a0_tallier a0_sealer a0_made_bytes v_a0_made_count (by assumption)) dX7_outs_2 0 rfl rfl rfl (by decide) (by decide) (Nat.le_of_ble_eq_true rfl) [0, 1] [] rfl rfl (by decide) rfl (by decide) (by decide) [0, 1] rfl _ rfl
set_option maxHeartbeats 4000000 in
set_option maxRecDepth 100000 in
theorem c_B_look0 (l : Launch) (D : va_G) (a0 : Nat) (a0_tape : Nat) (a0_made : Nat) (a0_nothing : Nat) (a0_slots : Nat) (a0_guards : Nat) (a0_digester : Nat) (a0_keyMaker : Nat) (a0_keyStream : Nat) (a0_tallier : Nat) (a0_sealer : Nat) (a0_tape_bytes : Nat) (v_a0_tape_count : Nat)   : vM l D yX7_look cX7_look 2 (some .int) { frames := 0, cells := 0, slots := 0, locals := 0 } [.ref a0, .int (nI 0)] [(a0, .inr (7, [.ref a0_tape, .ref a0_made, .ref a0_nothing, .ref a0_slots, .ref a0_guards, .ref a0_digester, .ref a0_keyMaker, .ref a0_keyStream, .ref a0_tallier, .ref a0_sealer])), (a0_tape, .inr (4, [.ref a0_tape_bytes, .int (nI v_a0_tape_count)]))] (fun r wo => r = some (.int (nI v_a0_tape_count)) ∧ wo = [(a0, .inr (7, [.ref a0_tape, .ref a0_made, .ref a0_nothing, .ref a0_slots, .ref a0_guards, .ref a0_digester, .ref a0_keyMaker, .ref a0_keyStream, .ref a0_tallier, .ref a0_sealer])), (a0_tape, .inr (4, [.ref a0_tape_bytes, .int (nI v_a0_tape_count)]))]) := by
  refine vM.of (by decide) (Nat.le_of_ble_eq_true rfl) (fun C hCl hCD g R => ?_)
  subst hCl; subst hCD
  show VJ C 0 0 0 [(0, .ref a0), (1, .int (nI 0))] [] [(a0, .inr (7, [.ref a0_tape, .ref a0_made, .ref a0_nothing, .ref a0_slots, .ref a0_guards, .ref a0_digester, .ref a0_keyMaker, .ref a0_keyStream, .ref a0_tallier, .ref a0_sealer])), (a0_tape, .inr (4, [.ref a0_tape_bytes, .int (nI v_a0_tape_count)]))]
  refine v_iload_n g dX7_look_0 1 rfl 1 rfl ?_
  refine v_if_ltN g 10 dX7_look_1 (by decide) (by decide) (fun h => absurd h (by decide)) (fun _ => ?_)
  refine v_iload_n g dX7_look_4 1 rfl 1 rfl ?_
  refine v_bipush g dX7_look_5 (v := nI 14) (by decide +kernel) ?_
  refine v_icmp_ltN g 20 dX7_look_7 (by decide) (by decide) (by decide) (fun _ => ?_) (fun h => absurd h (by decide))
  refine v_iload_n g dX7_look_20 1 rfl 1 rfl ?_
  refine v_if_neN g 32 dX7_look_21 (by decide) (by decide) (fun h => absurd h (by decide)) (fun _ => ?_)
  refine v_aload_n g dX7_look_24 0 rfl 0 rfl ?_
  refine gf_X7_14 g dX7_look_25 0 rfl rfl ?_
  refine gf_X7_81 g dX7_look_28 1 rfl rfl ?_
  exact v_iret g R dX7_look_31 (by decide) (by decide) ⟨rfl, rfl⟩
set_option maxHeartbeats 4000000 in
set_option maxRecDepth 100000 in
theorem c_B_look1 (l : Launch) (D : va_G) (a0 : Nat) (a0_tape : Nat) (a0_made : Nat) (a0_nothing : Nat) (a0_slots : Nat) (a0_guards : Nat) (a0_digester : Nat) (a0_keyMaker : Nat) (a0_keyStream : Nat) (a0_tallier : Nat) (a0_sealer : Nat) (a0_made_bytes : Nat) (v_a0_made_count : Nat)   : vM l D yX7_look cX7_look 2 (some .int) { frames := 0, cells := 0, slots := 0, locals := 0 } [.ref a0, .int (nI 1)] [(a0, .inr (7, [.ref a0_tape, .ref a0_made, .ref a0_nothing, .ref a0_slots, .ref a0_guards, .ref a0_digester, .ref a0_keyMaker, .ref a0_keyStream, .ref a0_tallier, .ref a0_sealer])), (a0_made, .inr (4, [.ref a0_made_bytes, .int (nI v_a0_made_count)]))] (fun r wo => r = some (.int (nI v_a0_made_count)) ∧ wo = [(a0, .inr (7, [.ref a0_tape, .ref a0_made, .ref a0_nothing, .ref a0_slots, .ref a0_guards, .ref a0_digester, .ref a0_keyMaker, .ref a0_keyStream, .ref a0_tallier, .ref a0_sealer])), (a0_made, .inr (4, [.ref a0_made_bytes, .int (nI v_a0_made_count)]))]) := by
  refine vM.of (by decide) (Nat.le_of_ble_eq_true rfl) (fun C hCl hCD g R => ?_)
  subst hCl; subst hCD
  show VJ C 0 0 0 [(0, .ref a0), (1, .int (nI 1))] [] [(a0, .inr (7, [.ref a0_tape, .ref a0_made, .ref a0_nothing, .ref a0_slots, .ref a0_guards, .ref a0_digester, .ref a0_keyMaker, .ref a0_keyStream, .ref a0_tallier, .ref a0_sealer])), (a0_made, .inr (4, [.ref a0_made_bytes, .int (nI v_a0_made_count)]))]
  refine v_iload_n g dX7_look_0 1 rfl 1 rfl ?_
  refine v_if_ltN g 10 dX7_look_1 (by decide) (by decide) (fun h => absurd h (by decide)) (fun _ => ?_)
  refine v_iload_n g dX7_look_4 1 rfl 1 rfl ?_
  refine v_bipush g dX7_look_5 (v := nI 14) (by decide +kernel) ?_
  refine v_icmp_ltN g 20 dX7_look_7 (by decide) (by decide) (by decide) (fun _ => ?_) (fun h => absurd h (by decide))
  refine v_iload_n g dX7_look_20 1 rfl 1 rfl ?_
  refine v_if_neN g 32 dX7_look_21 (by decide) (by decide) (fun _ => ?_) (fun h => absurd h (by decide))
  refine v_iload_n g dX7_look_32 1 rfl 1 rfl ?_
  refine v_iconst g dX7_look_33 (v := nI 1) (by decide +kernel) ?_
  refine v_icmp_neN g 45 dX7_look_34 (by decide) (by decide) (by decide) (fun h => absurd h (by decide)) (fun _ => ?_)
  refine v_aload_n g dX7_look_37 0 rfl 0 rfl ?_
  refine gf_X7_18 g dX7_look_38 0 rfl rfl ?_
  refine gf_X7_81 g dX7_look_41 1 rfl rfl ?_
  exact v_iret g R dX7_look_44 (by decide) (by decide) ⟨rfl, rfl⟩
set_option maxHeartbeats 4000000 in
set_option maxRecDepth 100000 in
theorem c_B_look2 (l : Launch) (D : va_G) (a0 : Nat) (a0_tape : Nat) (a0_made : Nat) (a0_nothing : Nat) (a0_slots : Nat) (a0_guards : Nat) (a0_digester : Nat) (a0_keyMaker : Nat) (a0_keyStream : Nat) (a0_tallier : Nat) (a0_sealer : Nat) (t_a0_slots : Nat → Option Nat) (a0_slots_at0 : Nat) (a0_slots_at0_bytes : Nat) (v_a0_slots_at0_count : Nat)  (h_a0_slots_at0 : t_a0_slots 0 = some a0_slots_at0) : vM l D yX7_look cX7_look 2 (some .int) { frames := 0, cells := 0, slots := 0, locals := 0 } [.ref a0, .int (nI 2)] [(a0, .inr (7, [.ref a0_tape, .ref a0_made, .ref a0_nothing, .ref a0_slots, .ref a0_guards, .ref a0_digester, .ref a0_keyMaker, .ref a0_keyStream, .ref a0_tallier, .ref a0_sealer])), (a0_slots, aR D 103 8 t_a0_slots), (a0_slots_at0, .inr (4, [.ref a0_slots_at0_bytes, .int (nI v_a0_slots_at0_count)]))] (fun r wo => r = some (.int (nI v_a0_slots_at0_count)) ∧ wo = [(a0, .inr (7, [.ref a0_tape, .ref a0_made, .ref a0_nothing, .ref a0_slots, .ref a0_guards, .ref a0_digester, .ref a0_keyMaker, .ref a0_keyStream, .ref a0_tallier, .ref a0_sealer])), (a0_slots, aR D 103 8 t_a0_slots), (a0_slots_at0, .inr (4, [.ref a0_slots_at0_bytes, .int (nI v_a0_slots_at0_count)]))]) := by
  refine vM.of (by decide) (Nat.le_of_ble_eq_true rfl) (fun C hCl hCD g R => ?_)
  subst hCl; subst hCD
  show VJ C 0 0 0 [(0, .ref a0), (1, .int (nI 2))] [] [(a0, .inr (7, [.ref a0_tape, .ref a0_made, .ref a0_nothing, .ref a0_slots, .ref a0_guards, .ref a0_digester, .ref a0_keyMaker, .ref a0_keyStream, .ref a0_tallier, .ref a0_sealer])), (a0_slots, aR C.D 103 8 t_a0_slots), (a0_slots_at0, .inr (4, [.ref a0_slots_at0_bytes, .int (nI v_a0_slots_at0_count)]))]
  refine v_iload_n g dX7_look_0 1 rfl 1 rfl ?_
  refine v_if_ltN g 10 dX7_look_1 (by decide) (by decide) (fun h => absurd h (by decide)) (fun _ => ?_)
  refine v_iload_n g dX7_look_4 1 rfl 1 rfl ?_
  refine v_bipush g dX7_look_5 (v := nI 14) (by decide +kernel) ?_
  refine v_icmp_ltN g 20 dX7_look_7 (by decide) (by decide) (by decide) (fun _ => ?_) (fun h => absurd h (by decide))
  refine v_iload_n g dX7_look_20 1 rfl 1 rfl ?_
  refine v_if_neN g 32 dX7_look_21 (by decide) (by decide) (fun _ => ?_) (fun h => absurd h (by decide))
  refine v_iload_n g dX7_look_32 1 rfl 1 rfl ?_
  refine v_iconst g dX7_look_33 (v := nI 1) (by decide +kernel) ?_
  refine v_icmp_neN g 45 dX7_look_34 (by decide) (by decide) (by decide) (fun _ => ?_) (fun h => absurd h (by decide))
  refine v_iload_n g dX7_look_45 1 rfl 1 rfl ?_
  refine v_bipush g dX7_look_46 (v := nI 10) (by decide +kernel) ?_
  refine v_icmp_geN g 63 dX7_look_48 (by decide) (by decide) (by decide) (fun h => absurd h (by decide)) (fun _ => ?_)
  refine v_aload_n g dX7_look_51 0 rfl 0 rfl ?_
  refine gf_X7_24 g dX7_look_52 0 rfl rfl ?_
  refine v_iload_n g dX7_look_55 1 rfl 1 rfl ?_
  refine v_iconst g dX7_look_56 (v := nI 2) (by decide +kernel) ?_
  refine v_isubN g dX7_look_57 (by decide) ?_
  refine v_toi (nI 0) rfl ?_
  refine v_aaldR g a0_slots_at0 1 3 rfl rfl (by decide) (by decide) h_a0_slots_at0 dX7_look_58 ?_
  refine gf_X7_81 g dX7_look_59 2 rfl rfl ?_
  exact v_iret g R dX7_look_62 (by decide) (by decide) ⟨rfl, rfl⟩
set_option maxHeartbeats 4000000 in
set_option maxRecDepth 100000 in
theorem c_B_look3 (l : Launch) (D : va_G) (a0 : Nat) (a0_tape : Nat) (a0_made : Nat) (a0_nothing : Nat) (a0_slots : Nat) (a0_guards : Nat) (a0_digester : Nat) (a0_keyMaker : Nat) (a0_keyStream : Nat) (a0_tallier : Nat) (a0_sealer : Nat) (t_a0_slots : Nat → Option Nat) (a0_slots_at1 : Nat) (a0_slots_at1_bytes : Nat) (v_a0_slots_at1_count : Nat)  (h_a0_slots_at1 : t_a0_slots 1 = some a0_slots_at1) : vM l D yX7_look cX7_look 2 (some .int) { frames := 0, cells := 0, slots := 0, locals := 0 } [.ref a0, .int (nI 3)] [(a0, .inr (7, [.ref a0_tape, .ref a0_made, .ref a0_nothing, .ref a0_slots, .ref a0_guards, .ref a0_digester, .ref a0_keyMaker, .ref a0_keyStream, .ref a0_tallier, .ref a0_sealer])), (a0_slots, aR D 103 8 t_a0_slots), (a0_slots_at1, .inr (4, [.ref a0_slots_at1_bytes, .int (nI v_a0_slots_at1_count)]))] (fun r wo => r = some (.int (nI v_a0_slots_at1_count)) ∧ wo = [(a0, .inr (7, [.ref a0_tape, .ref a0_made, .ref a0_nothing, .ref a0_slots, .ref a0_guards, .ref a0_digester, .ref a0_keyMaker, .ref a0_keyStream, .ref a0_tallier, .ref a0_sealer])), (a0_slots, aR D 103 8 t_a0_slots), (a0_slots_at1, .inr (4, [.ref a0_slots_at1_bytes, .int (nI v_a0_slots_at1_count)]))]) := by
  refine vM.of (by decide) (Nat.le_of_ble_eq_true rfl) (fun C hCl hCD g R => ?_)
  subst hCl; subst hCD
  show VJ C 0 0 0 [(0, .ref a0), (1, .int (nI 3))] [] [(a0, .inr (7, [.ref a0_tape, .ref a0_made, .ref a0_nothing, .ref a0_slots, .ref a0_guards, .ref a0_digester, .ref a0_keyMaker, .ref a0_keyStream, .ref a0_tallier, .ref a0_sealer])), (a0_slots, aR C.D 103 8 t_a0_slots), (a0_slots_at1, .inr (4, [.ref a0_slots_at1_bytes, .int (nI v_a0_slots_at1_count)]))]
  refine v_iload_n g dX7_look_0 1 rfl 1 rfl ?_
  refine v_if_ltN g 10 dX7_look_1 (by decide) (by decide) (fun h => absurd h (by decide)) (fun _ => ?_)
  refine v_iload_n g dX7_look_4 1 rfl 1 rfl ?_
  refine v_bipush g dX7_look_5 (v := nI 14) (by decide +kernel) ?_
  refine v_icmp_ltN g 20 dX7_look_7 (by decide) (by decide) (by decide) (fun _ => ?_) (fun h => absurd h (by decide))
  refine v_iload_n g dX7_look_20 1 rfl 1 rfl ?_
  refine v_if_neN g 32 dX7_look_21 (by decide) (by decide) (fun _ => ?_) (fun h => absurd h (by decide))
  refine v_iload_n g dX7_look_32 1 rfl 1 rfl ?_
  refine v_iconst g dX7_look_33 (v := nI 1) (by decide +kernel) ?_
  refine v_icmp_neN g 45 dX7_look_34 (by decide) (by decide) (by decide) (fun _ => ?_) (fun h => absurd h (by decide))
  refine v_iload_n g dX7_look_45 1 rfl 1 rfl ?_
  refine v_bipush g dX7_look_46 (v := nI 10) (by decide +kernel) ?_
  refine v_icmp_geN g 63 dX7_look_48 (by decide) (by decide) (by decide) (fun h => absurd h (by decide)) (fun _ => ?_)
  refine v_aload_n g dX7_look_51 0 rfl 0 rfl ?_
  refine gf_X7_24 g dX7_look_52 0 rfl rfl ?_
  refine v_iload_n g dX7_look_55 1 rfl 1 rfl ?_
  refine v_iconst g dX7_look_56 (v := nI 2) (by decide +kernel) ?_
  refine v_isubN g dX7_look_57 (by decide) ?_
  refine v_toi (nI 1) rfl ?_
  refine v_aaldR g a0_slots_at1 1 3 rfl rfl (by decide) (by decide) h_a0_slots_at1 dX7_look_58 ?_
  refine gf_X7_81 g dX7_look_59 2 rfl rfl ?_
  exact v_iret g R dX7_look_62 (by decide) (by decide) ⟨rfl, rfl⟩
set_option maxHeartbeats 4000000 in
set_option maxRecDepth 100000 in
theorem c_B_look4 (l : Launch) (D : va_G) (a0 : Nat) (a0_tape : Nat) (a0_made : Nat) (a0_nothing : Nat) (a0_slots : Nat) (a0_guards : Nat) (a0_digester : Nat) (a0_keyMaker : Nat) (a0_keyStream : Nat) (a0_tallier : Nat) (a0_sealer : Nat) (t_a0_slots : Nat → Option Nat) (a0_slots_at2 : Nat) (a0_slots_at2_bytes : Nat) (v_a0_slots_at2_count : Nat)  (h_a0_slots_at2 : t_a0_slots 2 = some a0_slots_at2) : vM l D yX7_look cX7_look 2 (some .int) { frames := 0, cells := 0, slots := 0, locals := 0 } [.ref a0, .int (nI 4)] [(a0, .inr (7, [.ref a0_tape, .ref a0_made, .ref a0_nothing, .ref a0_slots, .ref a0_guards, .ref a0_digester, .ref a0_keyMaker, .ref a0_keyStream, .ref a0_tallier, .ref a0_sealer])), (a0_slots, aR D 103 8 t_a0_slots), (a0_slots_at2, .inr (4, [.ref a0_slots_at2_bytes, .int (nI v_a0_slots_at2_count)]))] (fun r wo => r = some (.int (nI v_a0_slots_at2_count)) ∧ wo = [(a0, .inr (7, [.ref a0_tape, .ref a0_made, .ref a0_nothing, .ref a0_slots, .ref a0_guards, .ref a0_digester, .ref a0_keyMaker, .ref a0_keyStream, .ref a0_tallier, .ref a0_sealer])), (a0_slots, aR D 103 8 t_a0_slots), (a0_slots_at2, .inr (4, [.ref a0_slots_at2_bytes, .int (nI v_a0_slots_at2_count)]))]) := by
  refine vM.of (by decide) (Nat.le_of_ble_eq_true rfl) (fun C hCl hCD g R => ?_)
  subst hCl; subst hCD
  show VJ C 0 0 0 [(0, .ref a0), (1, .int (nI 4))] [] [(a0, .inr (7, [.ref a0_tape, .ref a0_made, .ref a0_nothing, .ref a0_slots, .ref a0_guards, .ref a0_digester, .ref a0_keyMaker, .ref a0_keyStream, .ref a0_tallier, .ref a0_sealer])), (a0_slots, aR C.D 103 8 t_a0_slots), (a0_slots_at2, .inr (4, [.ref a0_slots_at2_bytes, .int (nI v_a0_slots_at2_count)]))]
  refine v_iload_n g dX7_look_0 1 rfl 1 rfl ?_
  refine v_if_ltN g 10 dX7_look_1 (by decide) (by decide) (fun h => absurd h (by decide)) (fun _ => ?_)
  refine v_iload_n g dX7_look_4 1 rfl 1 rfl ?_
  refine v_bipush g dX7_look_5 (v := nI 14) (by decide +kernel) ?_
  refine v_icmp_ltN g 20 dX7_look_7 (by decide) (by decide) (by decide) (fun _ => ?_) (fun h => absurd h (by decide))
  refine v_iload_n g dX7_look_20 1 rfl 1 rfl ?_
  refine v_if_neN g 32 dX7_look_21 (by decide) (by decide) (fun _ => ?_) (fun h => absurd h (by decide))
  refine v_iload_n g dX7_look_32 1 rfl 1 rfl ?_
  refine v_iconst g dX7_look_33 (v := nI 1) (by decide +kernel) ?_
  refine v_icmp_neN g 45 dX7_look_34 (by decide) (by decide) (by decide) (fun _ => ?_) (fun h => absurd h (by decide))
  refine v_iload_n g dX7_look_45 1 rfl 1 rfl ?_
  refine v_bipush g dX7_look_46 (v := nI 10) (by decide +kernel) ?_
  refine v_icmp_geN g 63 dX7_look_48 (by decide) (by decide) (by decide) (fun h => absurd h (by decide)) (fun _ => ?_)
  refine v_aload_n g dX7_look_51 0 rfl 0 rfl ?_
  refine gf_X7_24 g dX7_look_52 0 rfl rfl ?_
  refine v_iload_n g dX7_look_55 1 rfl 1 rfl ?_
  refine v_iconst g dX7_look_56 (v := nI 2) (by decide +kernel) ?_
  refine v_isubN g dX7_look_57 (by decide) ?_
  refine v_toi (nI 2) rfl ?_
  refine v_aaldR g a0_slots_at2 1 3 rfl rfl (by decide) (by decide) h_a0_slots_at2 dX7_look_58 ?_
  refine gf_X7_81 g dX7_look_59 2 rfl rfl ?_
  exact v_iret g R dX7_look_62 (by decide) (by decide) ⟨rfl, rfl⟩
set_option maxHeartbeats 4000000 in
set_option maxRecDepth 100000 in
theorem c_B_look5 (l : Launch) (D : va_G) (a0 : Nat) (a0_tape : Nat) (a0_made : Nat) (a0_nothing : Nat) (a0_slots : Nat) (a0_guards : Nat) (a0_digester : Nat) (a0_keyMaker : Nat) (a0_keyStream : Nat) (a0_tallier : Nat) (a0_sealer : Nat) (t_a0_slots : Nat → Option Nat) (a0_slots_at3 : Nat) (a0_slots_at3_bytes : Nat) (v_a0_slots_at3_count : Nat)  (h_a0_slots_at3 : t_a0_slots 3 = some a0_slots_at3) : vM l D yX7_look cX7_look 2 (some .int) { frames := 0, cells := 0, slots := 0, locals := 0 } [.ref a0, .int (nI 5)] [(a0, .inr (7, [.ref a0_tape, .ref a0_made, .ref a0_nothing, .ref a0_slots, .ref a0_guards, .ref a0_digester, .ref a0_keyMaker, .ref a0_keyStream, .ref a0_tallier, .ref a0_sealer])), (a0_slots, aR D 103 8 t_a0_slots), (a0_slots_at3, .inr (4, [.ref a0_slots_at3_bytes, .int (nI v_a0_slots_at3_count)]))] (fun r wo => r = some (.int (nI v_a0_slots_at3_count)) ∧ wo = [(a0, .inr (7, [.ref a0_tape, .ref a0_made, .ref a0_nothing, .ref a0_slots, .ref a0_guards, .ref a0_digester, .ref a0_keyMaker, .ref a0_keyStream, .ref a0_tallier, .ref a0_sealer])), (a0_slots, aR D 103 8 t_a0_slots), (a0_slots_at3, .inr (4, [.ref a0_slots_at3_bytes, .int (nI v_a0_slots_at3_count)]))]) := by
  refine vM.of (by decide) (Nat.le_of_ble_eq_true rfl) (fun C hCl hCD g R => ?_)
  subst hCl; subst hCD
  show VJ C 0 0 0 [(0, .ref a0), (1, .int (nI 5))] [] [(a0, .inr (7, [.ref a0_tape, .ref a0_made, .ref a0_nothing, .ref a0_slots, .ref a0_guards, .ref a0_digester, .ref a0_keyMaker, .ref a0_keyStream, .ref a0_tallier, .ref a0_sealer])), (a0_slots, aR C.D 103 8 t_a0_slots), (a0_slots_at3, .inr (4, [.ref a0_slots_at3_bytes, .int (nI v_a0_slots_at3_count)]))]
  refine v_iload_n g dX7_look_0 1 rfl 1 rfl ?_
  refine v_if_ltN g 10 dX7_look_1 (by decide) (by decide) (fun h => absurd h (by decide)) (fun _ => ?_)
  refine v_iload_n g dX7_look_4 1 rfl 1 rfl ?_
  refine v_bipush g dX7_look_5 (v := nI 14) (by decide +kernel) ?_
  refine v_icmp_ltN g 20 dX7_look_7 (by decide) (by decide) (by decide) (fun _ => ?_) (fun h => absurd h (by decide))
  refine v_iload_n g dX7_look_20 1 rfl 1 rfl ?_
  refine v_if_neN g 32 dX7_look_21 (by decide) (by decide) (fun _ => ?_) (fun h => absurd h (by decide))
  refine v_iload_n g dX7_look_32 1 rfl 1 rfl ?_
  refine v_iconst g dX7_look_33 (v := nI 1) (by decide +kernel) ?_
  refine v_icmp_neN g 45 dX7_look_34 (by decide) (by decide) (by decide) (fun _ => ?_) (fun h => absurd h (by decide))
  refine v_iload_n g dX7_look_45 1 rfl 1 rfl ?_
  refine v_bipush g dX7_look_46 (v := nI 10) (by decide +kernel) ?_
  refine v_icmp_geN g 63 dX7_look_48 (by decide) (by decide) (by decide) (fun h => absurd h (by decide)) (fun _ => ?_)
  refine v_aload_n g dX7_look_51 0 rfl 0 rfl ?_
  refine gf_X7_24 g dX7_look_52 0 rfl rfl ?_
  refine v_iload_n g dX7_look_55 1 rfl 1 rfl ?_
  refine v_iconst g dX7_look_56 (v := nI 2) (by decide +kernel) ?_
  refine v_isubN g dX7_look_57 (by decide) ?_
  refine v_toi (nI 3) rfl ?_
  refine v_aaldR g a0_slots_at3 1 3 rfl rfl (by decide) (by decide) h_a0_slots_at3 dX7_look_58 ?_
  refine gf_X7_81 g dX7_look_59 2 rfl rfl ?_
  exact v_iret g R dX7_look_62 (by decide) (by decide) ⟨rfl, rfl⟩
set_option maxHeartbeats 4000000 in
set_option maxRecDepth 100000 in
theorem c_B_look6 (l : Launch) (D : va_G) (a0 : Nat) (a0_tape : Nat) (a0_made : Nat) (a0_nothing : Nat) (a0_slots : Nat) (a0_guards : Nat) (a0_digester : Nat) (a0_keyMaker : Nat) (a0_keyStream : Nat) (a0_tallier : Nat) (a0_sealer : Nat) (t_a0_slots : Nat → Option Nat) (a0_slots_at4 : Nat) (a0_slots_at4_bytes : Nat) (v_a0_slots_at4_count : Nat)  (h_a0_slots_at4 : t_a0_slots 4 = some a0_slots_at4) : vM l D yX7_look cX7_look 2 (some .int) { frames := 0, cells := 0, slots := 0, locals := 0 } [.ref a0, .int (nI 6)] [(a0, .inr (7, [.ref a0_tape, .ref a0_made, .ref a0_nothing, .ref a0_slots, .ref a0_guards, .ref a0_digester, .ref a0_keyMaker, .ref a0_keyStream, .ref a0_tallier, .ref a0_sealer])), (a0_slots, aR D 103 8 t_a0_slots), (a0_slots_at4, .inr (4, [.ref a0_slots_at4_bytes, .int (nI v_a0_slots_at4_count)]))] (fun r wo => r = some (.int (nI v_a0_slots_at4_count)) ∧ wo = [(a0, .inr (7, [.ref a0_tape, .ref a0_made, .ref a0_nothing, .ref a0_slots, .ref a0_guards, .ref a0_digester, .ref a0_keyMaker, .ref a0_keyStream, .ref a0_tallier, .ref a0_sealer])), (a0_slots, aR D 103 8 t_a0_slots), (a0_slots_at4, .inr (4, [.ref a0_slots_at4_bytes, .int (nI v_a0_slots_at4_count)]))]) := by
  refine vM.of (by decide) (Nat.le_of_ble_eq_true rfl) (fun C hCl hCD g R => ?_)
  subst hCl; subst hCD
  show VJ C 0 0 0 [(0, .ref a0), (1, .int (nI 6))] [] [(a0, .inr (7, [.ref a0_tape, .ref a0_made, .ref a0_nothing, .ref a0_slots, .ref a0_guards, .ref a0_digester, .ref a0_keyMaker, .ref a0_keyStream, .ref a0_tallier, .ref a0_sealer])), (a0_slots, aR C.D 103 8 t_a0_slots), (a0_slots_at4, .inr (4, [.ref a0_slots_at4_bytes, .int (nI v_a0_slots_at4_count)]))]
  refine v_iload_n g dX7_look_0 1 rfl 1 rfl ?_
  refine v_if_ltN g 10 dX7_look_1 (by decide) (by decide) (fun h => absurd h (by decide)) (fun _ => ?_)
  refine v_iload_n g dX7_look_4 1 rfl 1 rfl ?_
  refine v_bipush g dX7_look_5 (v := nI 14) (by decide +kernel) ?_
  refine v_icmp_ltN g 20 dX7_look_7 (by decide) (by decide) (by decide) (fun _ => ?_) (fun h => absurd h (by decide))
  refine v_iload_n g dX7_look_20 1 rfl 1 rfl ?_
  refine v_if_neN g 32 dX7_look_21 (by decide) (by decide) (fun _ => ?_) (fun h => absurd h (by decide))
  refine v_iload_n g dX7_look_32 1 rfl 1 rfl ?_
  refine v_iconst g dX7_look_33 (v := nI 1) (by decide +kernel) ?_
  refine v_icmp_neN g 45 dX7_look_34 (by decide) (by decide) (by decide) (fun _ => ?_) (fun h => absurd h (by decide))
  refine v_iload_n g dX7_look_45 1 rfl 1 rfl ?_
  refine v_bipush g dX7_look_46 (v := nI 10) (by decide +kernel) ?_
  refine v_icmp_geN g 63 dX7_look_48 (by decide) (by decide) (by decide) (fun h => absurd h (by decide)) (fun _ => ?_)
  refine v_aload_n g dX7_look_51 0 rfl 0 rfl ?_
  refine gf_X7_24 g dX7_look_52 0 rfl rfl ?_
  refine v_iload_n g dX7_look_55 1 rfl 1 rfl ?_
  refine v_iconst g dX7_look_56 (v := nI 2) (by decide +kernel) ?_
  refine v_isubN g dX7_look_57 (by decide) ?_
  refine v_toi (nI 4) rfl ?_
  refine v_aaldR g a0_slots_at4 1 3 rfl rfl (by decide) (by decide) h_a0_slots_at4 dX7_look_58 ?_
  refine gf_X7_81 g dX7_look_59 2 rfl rfl ?_
  exact v_iret g R dX7_look_62 (by decide) (by decide) ⟨rfl, rfl⟩
set_option maxHeartbeats 4000000 in
set_option maxRecDepth 100000 in
theorem c_B_look7 (l : Launch) (D : va_G) (a0 : Nat) (a0_tape : Nat) (a0_made : Nat) (a0_nothing : Nat) (a0_slots : Nat) (a0_guards : Nat) (a0_digester : Nat) (a0_keyMaker : Nat) (a0_keyStream : Nat) (a0_tallier : Nat) (a0_sealer : Nat) (t_a0_slots : Nat → Option Nat) (a0_slots_at5 : Nat) (a0_slots_at5_bytes : Nat) (v_a0_slots_at5_count : Nat)  (h_a0_slots_at5 : t_a0_slots 5 = some a0_slots_at5) : vM l D yX7_look cX7_look 2 (some .int) { frames := 0, cells := 0, slots := 0, locals := 0 } [.ref a0, .int (nI 7)] [(a0, .inr (7, [.ref a0_tape, .ref a0_made, .ref a0_nothing, .ref a0_slots, .ref a0_guards, .ref a0_digester, .ref a0_keyMaker, .ref a0_keyStream, .ref a0_tallier, .ref a0_sealer])), (a0_slots, aR D 103 8 t_a0_slots), (a0_slots_at5, .inr (4, [.ref a0_slots_at5_bytes, .int (nI v_a0_slots_at5_count)]))] (fun r wo => r = some (.int (nI v_a0_slots_at5_count)) ∧ wo = [(a0, .inr (7, [.ref a0_tape, .ref a0_made, .ref a0_nothing, .ref a0_slots, .ref a0_guards, .ref a0_digester, .ref a0_keyMaker, .ref a0_keyStream, .ref a0_tallier, .ref a0_sealer])), (a0_slots, aR D 103 8 t_a0_slots), (a0_slots_at5, .inr (4, [.ref a0_slots_at5_bytes, .int (nI v_a0_slots_at5_count)]))]) := by
  refine vM.of (by decide) (Nat.le_of_ble_eq_true rfl) (fun C hCl hCD g R => ?_)
  subst hCl; subst hCD
  show VJ C 0 0 0 [(0, .ref a0), (1, .int (nI 7))] [] [(a0, .inr (7, [.ref a0_tape, .ref a0_made, .ref a0_nothing, .ref a0_slots, .ref a0_guards, .ref a0_digester, .ref a0_keyMaker, .ref a0_keyStream, .ref a0_tallier, .ref a0_sealer])), (a0_slots, aR C.D 103 8 t_a0_slots), (a0_slots_at5, .inr (4, [.ref a0_slots_at5_bytes, .int (nI v_a0_slots_at5_count)]))]
  refine v_iload_n g dX7_look_0 1 rfl 1 rfl ?_
  refine v_if_ltN g 10 dX7_look_1 (by decide) (by decide) (fun h => absurd h (by decide)) (fun _ => ?_)
  refine v_iload_n g dX7_look_4 1 rfl 1 rfl ?_
  refine v_bipush g dX7_look_5 (v := nI 14) (by decide +kernel) ?_
  refine v_icmp_ltN g 20 dX7_look_7 (by decide) (by decide) (by decide) (fun _ => ?_) (fun h => absurd h (by decide))
  refine v_iload_n g dX7_look_20 1 rfl 1 rfl ?_
  refine v_if_neN g 32 dX7_look_21 (by decide) (by decide) (fun _ => ?_) (fun h => absurd h (by decide))
  refine v_iload_n g dX7_look_32 1 rfl 1 rfl ?_
  refine v_iconst g dX7_look_33 (v := nI 1) (by decide +kernel) ?_
  refine v_icmp_neN g 45 dX7_look_34 (by decide) (by decide) (by decide) (fun _ => ?_) (fun h => absurd h (by decide))
  refine v_iload_n g dX7_look_45 1 rfl 1 rfl ?_
  refine v_bipush g dX7_look_46 (v := nI 10) (by decide +kernel) ?_
  refine v_icmp_geN g 63 dX7_look_48 (by decide) (by decide) (by decide) (fun h => absurd h (by decide)) (fun _ => ?_)
  refine v_aload_n g dX7_look_51 0 rfl 0 rfl ?_
  refine gf_X7_24 g dX7_look_52 0 rfl rfl ?_
  refine v_iload_n g dX7_look_55 1 rfl 1 rfl ?_
  refine v_iconst g dX7_look_56 (v := nI 2) (by decide +kernel) ?_
  refine v_isubN g dX7_look_57 (by decide) ?_
  refine v_toi (nI 5) rfl ?_
  refine v_aaldR g a0_slots_at5 1 3 rfl rfl (by decide) (by decide) h_a0_slots_at5 dX7_look_58 ?_
  refine gf_X7_81 g dX7_look_59 2 rfl rfl ?_
  exact v_iret g R dX7_look_62 (by decide) (by decide) ⟨rfl, rfl⟩
set_option maxHeartbeats 4000000 in
set_option maxRecDepth 100000 in
theorem c_B_look8 (l : Launch) (D : va_G) (a0 : Nat) (a0_tape : Nat) (a0_made : Nat) (a0_nothing : Nat) (a0_slots : Nat) (a0_guards : Nat) (a0_digester : Nat) (a0_keyMaker : Nat) (a0_keyStream : Nat) (a0_tallier : Nat) (a0_sealer : Nat) (t_a0_slots : Nat → Option Nat) (a0_slots_at6 : Nat) (a0_slots_at6_bytes : Nat) (v_a0_slots_at6_count : Nat)  (h_a0_slots_at6 : t_a0_slots 6 = some a0_slots_at6) : vM l D yX7_look cX7_look 2 (some .int) { frames := 0, cells := 0, slots := 0, locals := 0 } [.ref a0, .int (nI 8)] [(a0, .inr (7, [.ref a0_tape, .ref a0_made, .ref a0_nothing, .ref a0_slots, .ref a0_guards, .ref a0_digester, .ref a0_keyMaker, .ref a0_keyStream, .ref a0_tallier, .ref a0_sealer])), (a0_slots, aR D 103 8 t_a0_slots), (a0_slots_at6, .inr (4, [.ref a0_slots_at6_bytes, .int (nI v_a0_slots_at6_count)]))] (fun r wo => r = some (.int (nI v_a0_slots_at6_count)) ∧ wo = [(a0, .inr (7, [.ref a0_tape, .ref a0_made, .ref a0_nothing, .ref a0_slots, .ref a0_guards, .ref a0_digester, .ref a0_keyMaker, .ref a0_keyStream, .ref a0_tallier, .ref a0_sealer])), (a0_slots, aR D 103 8 t_a0_slots), (a0_slots_at6, .inr (4, [.ref a0_slots_at6_bytes, .int (nI v_a0_slots_at6_count)]))]) := by
  refine vM.of (by decide) (Nat.le_of_ble_eq_true rfl) (fun C hCl hCD g R => ?_)
  subst hCl; subst hCD
  show VJ C 0 0 0 [(0, .ref a0), (1, .int (nI 8))] [] [(a0, .inr (7, [.ref a0_tape, .ref a0_made, .ref a0_nothing, .ref a0_slots, .ref a0_guards, .ref a0_digester, .ref a0_keyMaker, .ref a0_keyStream, .ref a0_tallier, .ref a0_sealer])), (a0_slots, aR C.D 103 8 t_a0_slots), (a0_slots_at6, .inr (4, [.ref a0_slots_at6_bytes, .int (nI v_a0_slots_at6_count)]))]
  refine v_iload_n g dX7_look_0 1 rfl 1 rfl ?_
  refine v_if_ltN g 10 dX7_look_1 (by decide) (by decide) (fun h => absurd h (by decide)) (fun _ => ?_)
  refine v_iload_n g dX7_look_4 1 rfl 1 rfl ?_
  refine v_bipush g dX7_look_5 (v := nI 14) (by decide +kernel) ?_
  refine v_icmp_ltN g 20 dX7_look_7 (by decide) (by decide) (by decide) (fun _ => ?_) (fun h => absurd h (by decide))
  refine v_iload_n g dX7_look_20 1 rfl 1 rfl ?_
  refine v_if_neN g 32 dX7_look_21 (by decide) (by decide) (fun _ => ?_) (fun h => absurd h (by decide))
  refine v_iload_n g dX7_look_32 1 rfl 1 rfl ?_
  refine v_iconst g dX7_look_33 (v := nI 1) (by decide +kernel) ?_
  refine v_icmp_neN g 45 dX7_look_34 (by decide) (by decide) (by decide) (fun _ => ?_) (fun h => absurd h (by decide))
  refine v_iload_n g dX7_look_45 1 rfl 1 rfl ?_
  refine v_bipush g dX7_look_46 (v := nI 10) (by decide +kernel) ?_
  refine v_icmp_geN g 63 dX7_look_48 (by decide) (by decide) (by decide) (fun h => absurd h (by decide)) (fun _ => ?_)
  refine v_aload_n g dX7_look_51 0 rfl 0 rfl ?_
  refine gf_X7_24 g dX7_look_52 0 rfl rfl ?_
  refine v_iload_n g dX7_look_55 1 rfl 1 rfl ?_
  refine v_iconst g dX7_look_56 (v := nI 2) (by decide +kernel) ?_
  refine v_isubN g dX7_look_57 (by decide) ?_
  refine v_toi (nI 6) rfl ?_
  refine v_aaldR g a0_slots_at6 1 3 rfl rfl (by decide) (by decide) h_a0_slots_at6 dX7_look_58 ?_
  refine gf_X7_81 g dX7_look_59 2 rfl rfl ?_
  exact v_iret g R dX7_look_62 (by decide) (by decide) ⟨rfl, rfl⟩
set_option maxHeartbeats 4000000 in
set_option maxRecDepth 100000 in
theorem c_B_look9 (l : Launch) (D : va_G) (a0 : Nat) (a0_tape : Nat) (a0_made : Nat) (a0_nothing : Nat) (a0_slots : Nat) (a0_guards : Nat) (a0_digester : Nat) (a0_keyMaker : Nat) (a0_keyStream : Nat) (a0_tallier : Nat) (a0_sealer : Nat) (t_a0_slots : Nat → Option Nat) (a0_slots_at7 : Nat) (a0_slots_at7_bytes : Nat) (v_a0_slots_at7_count : Nat)  (h_a0_slots_at7 : t_a0_slots 7 = some a0_slots_at7) : vM l D yX7_look cX7_look 2 (some .int) { frames := 0, cells := 0, slots := 0, locals := 0 } [.ref a0, .int (nI 9)] [(a0, .inr (7, [.ref a0_tape, .ref a0_made, .ref a0_nothing, .ref a0_slots, .ref a0_guards, .ref a0_digester, .ref a0_keyMaker, .ref a0_keyStream, .ref a0_tallier, .ref a0_sealer])), (a0_slots, aR D 103 8 t_a0_slots), (a0_slots_at7, .inr (4, [.ref a0_slots_at7_bytes, .int (nI v_a0_slots_at7_count)]))] (fun r wo => r = some (.int (nI v_a0_slots_at7_count)) ∧ wo = [(a0, .inr (7, [.ref a0_tape, .ref a0_made, .ref a0_nothing, .ref a0_slots, .ref a0_guards, .ref a0_digester, .ref a0_keyMaker, .ref a0_keyStream, .ref a0_tallier, .ref a0_sealer])), (a0_slots, aR D 103 8 t_a0_slots), (a0_slots_at7, .inr (4, [.ref a0_slots_at7_bytes, .int (nI v_a0_slots_at7_count)]))]) := by
  refine vM.of (by decide) (Nat.le_of_ble_eq_true rfl) (fun C hCl hCD g R => ?_)
  subst hCl; subst hCD
  show VJ C 0 0 0 [(0, .ref a0), (1, .int (nI 9))] [] [(a0, .inr (7, [.ref a0_tape, .ref a0_made, .ref a0_nothing, .ref a0_slots, .ref a0_guards, .ref a0_digester, .ref a0_keyMaker, .ref a0_keyStream, .ref a0_tallier, .ref a0_sealer])), (a0_slots, aR C.D 103 8 t_a0_slots), (a0_slots_at7, .inr (4, [.ref a0_slots_at7_bytes, .int (nI v_a0_slots_at7_count)]))]
  refine v_iload_n g dX7_look_0 1 rfl 1 rfl ?_
  refine v_if_ltN g 10 dX7_look_1 (by decide) (by decide) (fun h => absurd h (by decide)) (fun _ => ?_)
  refine v_iload_n g dX7_look_4 1 rfl 1 rfl ?_
  refine v_bipush g dX7_look_5 (v := nI 14) (by decide +kernel) ?_
  refine v_icmp_ltN g 20 dX7_look_7 (by decide) (by decide) (by decide) (fun _ => ?_) (fun h => absurd h (by decide))
  refine v_iload_n g dX7_look_20 1 rfl 1 rfl ?_
  refine v_if_neN g 32 dX7_look_21 (by decide) (by decide) (fun _ => ?_) (fun h => absurd h (by decide))
  refine v_iload_n g dX7_look_32 1 rfl 1 rfl ?_
  refine v_iconst g dX7_look_33 (v := nI 1) (by decide +kernel) ?_
  refine v_icmp_neN g 45 dX7_look_34 (by decide) (by decide) (by decide) (fun _ => ?_) (fun h => absurd h (by decide))
  refine v_iload_n g dX7_look_45 1 rfl 1 rfl ?_
  refine v_bipush g dX7_look_46 (v := nI 10) (by decide +kernel) ?_
  refine v_icmp_geN g 63 dX7_look_48 (by decide) (by decide) (by decide) (fun h => absurd h (by decide)) (fun _ => ?_)
  refine v_aload_n g dX7_look_51 0 rfl 0 rfl ?_
  refine gf_X7_24 g dX7_look_52 0 rfl rfl ?_
  refine v_iload_n g dX7_look_55 1 rfl 1 rfl ?_
  refine v_iconst g dX7_look_56 (v := nI 2) (by decide +kernel) ?_
  refine v_isubN g dX7_look_57 (by decide) ?_
  refine v_toi (nI 7) rfl ?_
  refine v_aaldR g a0_slots_at7 1 3 rfl rfl (by decide) (by decide) h_a0_slots_at7 dX7_look_58 ?_
  refine gf_X7_81 g dX7_look_59 2 rfl rfl ?_
  exact v_iret g R dX7_look_62 (by decide) (by decide) ⟨rfl, rfl⟩
set_option maxHeartbeats 4000000 in
set_option maxRecDepth 100000 in
theorem c_B_look10 (l : Launch) (D : va_G) (a0 : Nat) (a0_tape : Nat) (a0_made : Nat) (a0_nothing : Nat) (a0_slots : Nat) (a0_guards : Nat) (a0_digester : Nat) (a0_keyMaker : Nat) (a0_keyStream : Nat) (a0_tallier : Nat) (a0_sealer : Nat) (t_a0_guards : Nat → Option Nat) (a0_guards_at0 : Nat) (a0_guards_at0_secret : Nat) (a0_guards_at0_key : Nat) (a0_guards_at0_iv : Nat) (a0_guards_at0_hide : Nat) (v_a0_guards_at0_phase : Int32)  (h_a0_guards_at0 : t_a0_guards 0 = some a0_guards_at0) : vM l D yX7_look cX7_look 2 (some .int) { frames := 0, cells := 0, slots := 0, locals := 0 } [.ref a0, .int (nI 10)] [(a0, .inr (7, [.ref a0_tape, .ref a0_made, .ref a0_nothing, .ref a0_slots, .ref a0_guards, .ref a0_digester, .ref a0_keyMaker, .ref a0_keyStream, .ref a0_tallier, .ref a0_sealer])), (a0_guards, aR D 104 4 t_a0_guards), (a0_guards_at0, .inr (1, [.ref a0_guards_at0_secret, .ref a0_guards_at0_key, .ref a0_guards_at0_iv, .ref a0_guards_at0_hide, .int v_a0_guards_at0_phase]))] (fun r wo => r = some (.int v_a0_guards_at0_phase) ∧ wo = [(a0, .inr (7, [.ref a0_tape, .ref a0_made, .ref a0_nothing, .ref a0_slots, .ref a0_guards, .ref a0_digester, .ref a0_keyMaker, .ref a0_keyStream, .ref a0_tallier, .ref a0_sealer])), (a0_guards, aR D 104 4 t_a0_guards), (a0_guards_at0, .inr (1, [.ref a0_guards_at0_secret, .ref a0_guards_at0_key, .ref a0_guards_at0_iv, .ref a0_guards_at0_hide, .int v_a0_guards_at0_phase]))]) := by
  refine vM.of (by decide) (Nat.le_of_ble_eq_true rfl) (fun C hCl hCD g R => ?_)
  subst hCl; subst hCD
  show VJ C 0 0 0 [(0, .ref a0), (1, .int (nI 10))] [] [(a0, .inr (7, [.ref a0_tape, .ref a0_made, .ref a0_nothing, .ref a0_slots, .ref a0_guards, .ref a0_digester, .ref a0_keyMaker, .ref a0_keyStream, .ref a0_tallier, .ref a0_sealer])), (a0_guards, aR C.D 104 4 t_a0_guards), (a0_guards_at0, .inr (1, [.ref a0_guards_at0_secret, .ref a0_guards_at0_key, .ref a0_guards_at0_iv, .ref a0_guards_at0_hide, .int v_a0_guards_at0_phase]))]
  refine v_iload_n g dX7_look_0 1 rfl 1 rfl ?_
  refine v_if_ltN g 10 dX7_look_1 (by decide) (by decide) (fun h => absurd h (by decide)) (fun _ => ?_)
  refine v_iload_n g dX7_look_4 1 rfl 1 rfl ?_
  refine v_bipush g dX7_look_5 (v := nI 14) (by decide +kernel) ?_
  refine v_icmp_ltN g 20 dX7_look_7 (by decide) (by decide) (by decide) (fun _ => ?_) (fun h => absurd h (by decide))
  refine v_iload_n g dX7_look_20 1 rfl 1 rfl ?_
  refine v_if_neN g 32 dX7_look_21 (by decide) (by decide) (fun _ => ?_) (fun h => absurd h (by decide))
  refine v_iload_n g dX7_look_32 1 rfl 1 rfl ?_
  refine v_iconst g dX7_look_33 (v := nI 1) (by decide +kernel) ?_
  refine v_icmp_neN g 45 dX7_look_34 (by decide) (by decide) (by decide) (fun _ => ?_) (fun h => absurd h (by decide))
  refine v_iload_n g dX7_look_45 1 rfl 1 rfl ?_
  refine v_bipush g dX7_look_46 (v := nI 10) (by decide +kernel) ?_
  refine v_icmp_geN g 63 dX7_look_48 (by decide) (by decide) (by decide) (fun _ => ?_) (fun h => absurd h (by decide))
  refine v_aload_n g dX7_look_63 0 rfl 0 rfl ?_
  refine gf_X7_30 g dX7_look_64 0 rfl rfl ?_
  refine v_iload_n g dX7_look_67 1 rfl 1 rfl ?_
  refine v_iconst g dX7_look_68 (v := nI 2) (by decide +kernel) ?_
  refine v_isubN g dX7_look_69 (by decide) ?_
  refine v_toi (nI 8) rfl ?_
  refine v_bipush g dX7_look_70 (v := nI 8) (by decide +kernel) ?_
  refine v_isubN g dX7_look_72 (by decide) ?_
  refine v_toi (nI 0) rfl ?_
  refine v_aaldR g a0_guards_at0 1 4 rfl rfl (by decide) (by decide) h_a0_guards_at0 dX7_look_73 ?_
  refine gf_X7_164 g dX7_look_74 2 rfl rfl ?_
  exact v_iret g R dX7_look_77 (by decide) (by decide) ⟨rfl, rfl⟩
set_option maxHeartbeats 4000000 in
set_option maxRecDepth 100000 in
theorem c_B_look11 (l : Launch) (D : va_G) (a0 : Nat) (a0_tape : Nat) (a0_made : Nat) (a0_nothing : Nat) (a0_slots : Nat) (a0_guards : Nat) (a0_digester : Nat) (a0_keyMaker : Nat) (a0_keyStream : Nat) (a0_tallier : Nat) (a0_sealer : Nat) (t_a0_guards : Nat → Option Nat) (a0_guards_at1 : Nat) (a0_guards_at1_secret : Nat) (a0_guards_at1_key : Nat) (a0_guards_at1_iv : Nat) (a0_guards_at1_hide : Nat) (v_a0_guards_at1_phase : Int32)  (h_a0_guards_at1 : t_a0_guards 1 = some a0_guards_at1) : vM l D yX7_look cX7_look 2 (some .int) { frames := 0, cells := 0, slots := 0, locals := 0 } [.ref a0, .int (nI 11)] [(a0, .inr (7, [.ref a0_tape, .ref a0_made, .ref a0_nothing, .ref a0_slots, .ref a0_guards, .ref a0_digester, .ref a0_keyMaker, .ref a0_keyStream, .ref a0_tallier, .ref a0_sealer])), (a0_guards, aR D 104 4 t_a0_guards), (a0_guards_at1, .inr (1, [.ref a0_guards_at1_secret, .ref a0_guards_at1_key, .ref a0_guards_at1_iv, .ref a0_guards_at1_hide, .int v_a0_guards_at1_phase]))] (fun r wo => r = some (.int v_a0_guards_at1_phase) ∧ wo = [(a0, .inr (7, [.ref a0_tape, .ref a0_made, .ref a0_nothing, .ref a0_slots, .ref a0_guards, .ref a0_digester, .ref a0_keyMaker, .ref a0_keyStream, .ref a0_tallier, .ref a0_sealer])), (a0_guards, aR D 104 4 t_a0_guards), (a0_guards_at1, .inr (1, [.ref a0_guards_at1_secret, .ref a0_guards_at1_key, .ref a0_guards_at1_iv, .ref a0_guards_at1_hide, .int v_a0_guards_at1_phase]))]) := by
  refine vM.of (by decide) (Nat.le_of_ble_eq_true rfl) (fun C hCl hCD g R => ?_)
  subst hCl; subst hCD
  show VJ C 0 0 0 [(0, .ref a0), (1, .int (nI 11))] [] [(a0, .inr (7, [.ref a0_tape, .ref a0_made, .ref a0_nothing, .ref a0_slots, .ref a0_guards, .ref a0_digester, .ref a0_keyMaker, .ref a0_keyStream, .ref a0_tallier, .ref a0_sealer])), (a0_guards, aR C.D 104 4 t_a0_guards), (a0_guards_at1, .inr (1, [.ref a0_guards_at1_secret, .ref a0_guards_at1_key, .ref a0_guards_at1_iv, .ref a0_guards_at1_hide, .int v_a0_guards_at1_phase]))]
  refine v_iload_n g dX7_look_0 1 rfl 1 rfl ?_
  refine v_if_ltN g 10 dX7_look_1 (by decide) (by decide) (fun h => absurd h (by decide)) (fun _ => ?_)
  refine v_iload_n g dX7_look_4 1 rfl 1 rfl ?_
  refine v_bipush g dX7_look_5 (v := nI 14) (by decide +kernel) ?_
  refine v_icmp_ltN g 20 dX7_look_7 (by decide) (by decide) (by decide) (fun _ => ?_) (fun h => absurd h (by decide))
  refine v_iload_n g dX7_look_20 1 rfl 1 rfl ?_
  refine v_if_neN g 32 dX7_look_21 (by decide) (by decide) (fun _ => ?_) (fun h => absurd h (by decide))
  refine v_iload_n g dX7_look_32 1 rfl 1 rfl ?_
  refine v_iconst g dX7_look_33 (v := nI 1) (by decide +kernel) ?_
  refine v_icmp_neN g 45 dX7_look_34 (by decide) (by decide) (by decide) (fun _ => ?_) (fun h => absurd h (by decide))
  refine v_iload_n g dX7_look_45 1 rfl 1 rfl ?_
  refine v_bipush g dX7_look_46 (v := nI 10) (by decide +kernel) ?_
  refine v_icmp_geN g 63 dX7_look_48 (by decide) (by decide) (by decide) (fun _ => ?_) (fun h => absurd h (by decide))
  refine v_aload_n g dX7_look_63 0 rfl 0 rfl ?_
  refine gf_X7_30 g dX7_look_64 0 rfl rfl ?_
  refine v_iload_n g dX7_look_67 1 rfl 1 rfl ?_
  refine v_iconst g dX7_look_68 (v := nI 2) (by decide +kernel) ?_
  refine v_isubN g dX7_look_69 (by decide) ?_
  refine v_toi (nI 9) rfl ?_
  refine v_bipush g dX7_look_70 (v := nI 8) (by decide +kernel) ?_
  refine v_isubN g dX7_look_72 (by decide) ?_
  refine v_toi (nI 1) rfl ?_
  refine v_aaldR g a0_guards_at1 1 4 rfl rfl (by decide) (by decide) h_a0_guards_at1 dX7_look_73 ?_
  refine gf_X7_164 g dX7_look_74 2 rfl rfl ?_
  exact v_iret g R dX7_look_77 (by decide) (by decide) ⟨rfl, rfl⟩
set_option maxHeartbeats 4000000 in
set_option maxRecDepth 100000 in
theorem c_B_look12 (l : Launch) (D : va_G) (a0 : Nat) (a0_tape : Nat) (a0_made : Nat) (a0_nothing : Nat) (a0_slots : Nat) (a0_guards : Nat) (a0_digester : Nat) (a0_keyMaker : Nat) (a0_keyStream : Nat) (a0_tallier : Nat) (a0_sealer : Nat) (t_a0_guards : Nat → Option Nat) (a0_guards_at2 : Nat) (a0_guards_at2_secret : Nat) (a0_guards_at2_key : Nat) (a0_guards_at2_iv : Nat) (a0_guards_at2_hide : Nat) (v_a0_guards_at2_phase : Int32)  (h_a0_guards_at2 : t_a0_guards 2 = some a0_guards_at2) : vM l D yX7_look cX7_look 2 (some .int) { frames := 0, cells := 0, slots := 0, locals := 0 } [.ref a0, .int (nI 12)] [(a0, .inr (7, [.ref a0_tape, .ref a0_made, .ref a0_nothing, .ref a0_slots, .ref a0_guards, .ref a0_digester, .ref a0_keyMaker, .ref a0_keyStream, .ref a0_tallier, .ref a0_sealer])), (a0_guards, aR D 104 4 t_a0_guards), (a0_guards_at2, .inr (1, [.ref a0_guards_at2_secret, .ref a0_guards_at2_key, .ref a0_guards_at2_iv, .ref a0_guards_at2_hide, .int v_a0_guards_at2_phase]))] (fun r wo => r = some (.int v_a0_guards_at2_phase) ∧ wo = [(a0, .inr (7, [.ref a0_tape, .ref a0_made, .ref a0_nothing, .ref a0_slots, .ref a0_guards, .ref a0_digester, .ref a0_keyMaker, .ref a0_keyStream, .ref a0_tallier, .ref a0_sealer])), (a0_guards, aR D 104 4 t_a0_guards), (a0_guards_at2, .inr (1, [.ref a0_guards_at2_secret, .ref a0_guards_at2_key, .ref a0_guards_at2_iv, .ref a0_guards_at2_hide, .int v_a0_guards_at2_phase]))]) := by
  refine vM.of (by decide) (Nat.le_of_ble_eq_true rfl) (fun C hCl hCD g R => ?_)
  subst hCl; subst hCD
  show VJ C 0 0 0 [(0, .ref a0), (1, .int (nI 12))] [] [(a0, .inr (7, [.ref a0_tape, .ref a0_made, .ref a0_nothing, .ref a0_slots, .ref a0_guards, .ref a0_digester, .ref a0_keyMaker, .ref a0_keyStream, .ref a0_tallier, .ref a0_sealer])), (a0_guards, aR C.D 104 4 t_a0_guards), (a0_guards_at2, .inr (1, [.ref a0_guards_at2_secret, .ref a0_guards_at2_key, .ref a0_guards_at2_iv, .ref a0_guards_at2_hide, .int v_a0_guards_at2_phase]))]
  refine v_iload_n g dX7_look_0 1 rfl 1 rfl ?_
  refine v_if_ltN g 10 dX7_look_1 (by decide) (by decide) (fun h => absurd h (by decide)) (fun _ => ?_)
  refine v_iload_n g dX7_look_4 1 rfl 1 rfl ?_
  refine v_bipush g dX7_look_5 (v := nI 14) (by decide +kernel) ?_
  refine v_icmp_ltN g 20 dX7_look_7 (by decide) (by decide) (by decide) (fun _ => ?_) (fun h => absurd h (by decide))
  refine v_iload_n g dX7_look_20 1 rfl 1 rfl ?_
  refine v_if_neN g 32 dX7_look_21 (by decide) (by decide) (fun _ => ?_) (fun h => absurd h (by decide))
  refine v_iload_n g dX7_look_32 1 rfl 1 rfl ?_
  refine v_iconst g dX7_look_33 (v := nI 1) (by decide +kernel) ?_
  refine v_icmp_neN g 45 dX7_look_34 (by decide) (by decide) (by decide) (fun _ => ?_) (fun h => absurd h (by decide))
  refine v_iload_n g dX7_look_45 1 rfl 1 rfl ?_
  refine v_bipush g dX7_look_46 (v := nI 10) (by decide +kernel) ?_
  refine v_icmp_geN g 63 dX7_look_48 (by decide) (by decide) (by decide) (fun _ => ?_) (fun h => absurd h (by decide))
  refine v_aload_n g dX7_look_63 0 rfl 0 rfl ?_
  refine gf_X7_30 g dX7_look_64 0 rfl rfl ?_
  refine v_iload_n g dX7_look_67 1 rfl 1 rfl ?_
  refine v_iconst g dX7_look_68 (v := nI 2) (by decide +kernel) ?_
  refine v_isubN g dX7_look_69 (by decide) ?_
  refine v_toi (nI 10) rfl ?_
  refine v_bipush g dX7_look_70 (v := nI 8) (by decide +kernel) ?_
  refine v_isubN g dX7_look_72 (by decide) ?_
  refine v_toi (nI 2) rfl ?_
  refine v_aaldR g a0_guards_at2 1 4 rfl rfl (by decide) (by decide) h_a0_guards_at2 dX7_look_73 ?_
  refine gf_X7_164 g dX7_look_74 2 rfl rfl ?_
  exact v_iret g R dX7_look_77 (by decide) (by decide) ⟨rfl, rfl⟩
set_option maxHeartbeats 4000000 in
set_option maxRecDepth 100000 in
theorem c_B_look13 (l : Launch) (D : va_G) (a0 : Nat) (a0_tape : Nat) (a0_made : Nat) (a0_nothing : Nat) (a0_slots : Nat) (a0_guards : Nat) (a0_digester : Nat) (a0_keyMaker : Nat) (a0_keyStream : Nat) (a0_tallier : Nat) (a0_sealer : Nat) (t_a0_guards : Nat → Option Nat) (a0_guards_at3 : Nat) (a0_guards_at3_secret : Nat) (a0_guards_at3_key : Nat) (a0_guards_at3_iv : Nat) (a0_guards_at3_hide : Nat) (v_a0_guards_at3_phase : Int32)  (h_a0_guards_at3 : t_a0_guards 3 = some a0_guards_at3) : vM l D yX7_look cX7_look 2 (some .int) { frames := 0, cells := 0, slots := 0, locals := 0 } [.ref a0, .int (nI 13)] [(a0, .inr (7, [.ref a0_tape, .ref a0_made, .ref a0_nothing, .ref a0_slots, .ref a0_guards, .ref a0_digester, .ref a0_keyMaker, .ref a0_keyStream, .ref a0_tallier, .ref a0_sealer])), (a0_guards, aR D 104 4 t_a0_guards), (a0_guards_at3, .inr (1, [.ref a0_guards_at3_secret, .ref a0_guards_at3_key, .ref a0_guards_at3_iv, .ref a0_guards_at3_hide, .int v_a0_guards_at3_phase]))] (fun r wo => r = some (.int v_a0_guards_at3_phase) ∧ wo = [(a0, .inr (7, [.ref a0_tape, .ref a0_made, .ref a0_nothing, .ref a0_slots, .ref a0_guards, .ref a0_digester, .ref a0_keyMaker, .ref a0_keyStream, .ref a0_tallier, .ref a0_sealer])), (a0_guards, aR D 104 4 t_a0_guards), (a0_guards_at3, .inr (1, [.ref a0_guards_at3_secret, .ref a0_guards_at3_key, .ref a0_guards_at3_iv, .ref a0_guards_at3_hide, .int v_a0_guards_at3_phase]))]) := by
  refine vM.of (by decide) (Nat.le_of_ble_eq_true rfl) (fun C hCl hCD g R => ?_)
  subst hCl; subst hCD
  show VJ C 0 0 0 [(0, .ref a0), (1, .int (nI 13))] [] [(a0, .inr (7, [.ref a0_tape, .ref a0_made, .ref a0_nothing, .ref a0_slots, .ref a0_guards, .ref a0_digester, .ref a0_keyMaker, .ref a0_keyStream, .ref a0_tallier, .ref a0_sealer])), (a0_guards, aR C.D 104 4 t_a0_guards), (a0_guards_at3, .inr (1, [.ref a0_guards_at3_secret, .ref a0_guards_at3_key, .ref a0_guards_at3_iv, .ref a0_guards_at3_hide, .int v_a0_guards_at3_phase]))]
  refine v_iload_n g dX7_look_0 1 rfl 1 rfl ?_
  refine v_if_ltN g 10 dX7_look_1 (by decide) (by decide) (fun h => absurd h (by decide)) (fun _ => ?_)
  refine v_iload_n g dX7_look_4 1 rfl 1 rfl ?_
  refine v_bipush g dX7_look_5 (v := nI 14) (by decide +kernel) ?_
  refine v_icmp_ltN g 20 dX7_look_7 (by decide) (by decide) (by decide) (fun _ => ?_) (fun h => absurd h (by decide))
  refine v_iload_n g dX7_look_20 1 rfl 1 rfl ?_
  refine v_if_neN g 32 dX7_look_21 (by decide) (by decide) (fun _ => ?_) (fun h => absurd h (by decide))
  refine v_iload_n g dX7_look_32 1 rfl 1 rfl ?_
  refine v_iconst g dX7_look_33 (v := nI 1) (by decide +kernel) ?_
  refine v_icmp_neN g 45 dX7_look_34 (by decide) (by decide) (by decide) (fun _ => ?_) (fun h => absurd h (by decide))
  refine v_iload_n g dX7_look_45 1 rfl 1 rfl ?_
  refine v_bipush g dX7_look_46 (v := nI 10) (by decide +kernel) ?_
  refine v_icmp_geN g 63 dX7_look_48 (by decide) (by decide) (by decide) (fun _ => ?_) (fun h => absurd h (by decide))
  refine v_aload_n g dX7_look_63 0 rfl 0 rfl ?_
  refine gf_X7_30 g dX7_look_64 0 rfl rfl ?_
  refine v_iload_n g dX7_look_67 1 rfl 1 rfl ?_
  refine v_iconst g dX7_look_68 (v := nI 2) (by decide +kernel) ?_
  refine v_isubN g dX7_look_69 (by decide) ?_
  refine v_toi (nI 11) rfl ?_
  refine v_bipush g dX7_look_70 (v := nI 8) (by decide +kernel) ?_
  refine v_isubN g dX7_look_72 (by decide) ?_
  refine v_toi (nI 3) rfl ?_
  refine v_aaldR g a0_guards_at3 1 4 rfl rfl (by decide) (by decide) h_a0_guards_at3 dX7_look_73 ?_
  refine gf_X7_164 g dX7_look_74 2 rfl rfl ?_
  exact v_iret g R dX7_look_77 (by decide) (by decide) ⟨rfl, rfl⟩
set_option maxHeartbeats 4000000 in
set_option maxRecDepth 100000 in
theorem x_B_look (l : Launch) (hL : noTr l) (D : va_G) (a0 : Nat) (p1 : Int32)  (h0 : p1 < 0 ∨ nI 14 ≤ p1) : vMX l D yX7_look cX7_look 2 (some .int) { frames := 6, cells := 1, slots := 6, locals := 82 } [.ref a0, .int p1] [] "java/util/NoSuchElementException" := by
  refine vMX.of (by decide) (Nat.le_of_ble_eq_true rfl) (fun C hCl hCD g R => ?_)
  subst hCl; subst hCD
  show VJ C 0 0 0 [(0, .ref a0), (1, .int p1)] [] []
  refine v_iload_n g dX7_look_0 1 rfl 1 rfl ?_
  refine v_if_lt g 10 dX7_look_1 (by decide) (fun h1 => ?_) (fun h1 => ?_)
  · skip
    exact v_throwX g hL R (by decide +kernel) (by decide +kernel) (by decide +kernel) (by decide +kernel) th_214 (List.mem_of_getElem? (i := 732) (by decide +kernel)) (List.mem_of_getElem? (i := 733) (by decide +kernel)) (List.mem_of_getElem? (i := 64) (by decide +kernel)) (by decide +kernel) (g.gx.2.2.2.2.2.1 (212, "nothing to look at") (by decide)) dX7_look_10 dX7_look_13 dX7_look_14 dX7_look_16 dX7_look_19 (by decide) (by decide) (by decide) (by decide)
  · skip
    refine v_iload_n g dX7_look_4 1 rfl 1 rfl ?_
    refine v_bipush g dX7_look_5 (v := nI 14) (by decide +kernel) ?_
    refine v_icmp_lt g 20 dX7_look_7 (by decide) (fun h2 => ?_) (fun h2 => ?_)
    · skip
      exact absurd h2 (h0.elim (fun q => absurd q h1) i_le_nlt)
    · skip
      exact v_throwX g hL R (by decide +kernel) (by decide +kernel) (by decide +kernel) (by decide +kernel) th_214 (List.mem_of_getElem? (i := 732) (by decide +kernel)) (List.mem_of_getElem? (i := 733) (by decide +kernel)) (List.mem_of_getElem? (i := 64) (by decide +kernel)) (by decide +kernel) (g.gx.2.2.2.2.2.1 (212, "nothing to look at") (by decide)) dX7_look_10 dX7_look_13 dX7_look_14 dX7_look_16 dX7_look_19 (by decide) (by decide) (by decide) (by decide)
