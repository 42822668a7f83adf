theorem dX8_digestOf_0 : decode cX8_digestOf 0 = .ok (.iload_n 1, 1) := by decide +kernel
theorem dX8_digestOf_1 : decode cX8_digestOf 1 = .ok (.bipush 8, 2) := by decide +kernel
theorem dX8_digestOf_3 : decode cX8_digestOf 3 = .ok (.iadd, 1) := by decide +kernel
theorem dX8_digestOf_4 : decode cX8_digestOf 4 = .ok (.bipush 64, 2) := by decide +kernel
theorem dX8_digestOf_6 : decode cX8_digestOf 6 = .ok (.idiv, 1) := by decide +kernel
theorem dX8_digestOf_7 : decode cX8_digestOf 7 = .ok (.bipush 64, 2) := by decide +kernel
theorem dX8_digestOf_9 : decode cX8_digestOf 9 = .ok (.imul, 1) := by decide +kernel
theorem dX8_digestOf_10 : decode cX8_digestOf 10 = .ok (.bipush 64, 2) := by decide +kernel
theorem dX8_digestOf_12 : decode cX8_digestOf 12 = .ok (.iadd, 1) := by decide +kernel
theorem dX8_digestOf_13 : decode cX8_digestOf 13 = .ok (.istore_n 2, 1) := by decide +kernel
theorem dX8_digestOf_14 : decode cX8_digestOf 14 = .ok (.iload_n 1, 1) := by decide +kernel
theorem dX8_digestOf_15 : decode cX8_digestOf 15 = .ok (.istore_n 3, 1) := by decide +kernel
theorem dX8_digestOf_16 : decode cX8_digestOf 16 = .ok (.iload_n 3, 1) := by decide +kernel
theorem dX8_digestOf_17 : decode cX8_digestOf 17 = .ok (.iload_n 2, 1) := by decide +kernel
theorem dX8_digestOf_18 : decode cX8_digestOf 18 = .ok (.if_icmp .ge 16, 3) := by decide +kernel
theorem dX8_digestOf_21 : decode cX8_digestOf 21 = .ok (.aload_n 0, 1) := by decide +kernel
theorem dX8_digestOf_22 : decode cX8_digestOf 22 = .ok (.getfield 50, 3) := by decide +kernel
theorem dX8_digestOf_25 : decode cX8_digestOf 25 = .ok (.iload_n 3, 1) := by decide +kernel
theorem dX8_digestOf_26 : decode cX8_digestOf 26 = .ok (.iconst 0, 1) := by decide +kernel
theorem dX8_digestOf_27 : decode cX8_digestOf 27 = .ok (.iastore, 1) := by decide +kernel
theorem dX8_digestOf_28 : decode cX8_digestOf 28 = .ok (.iinc 3 1, 3) := by decide +kernel
theorem dX8_digestOf_31 : decode cX8_digestOf 31 = .ok (.goto (-15), 3) := by decide +kernel
theorem dX8_digestOf_34 : decode cX8_digestOf 34 = .ok (.aload_n 0, 1) := by decide +kernel
theorem dX8_digestOf_35 : decode cX8_digestOf 35 = .ok (.getfield 50, 3) := by decide +kernel
theorem dX8_digestOf_38 : decode cX8_digestOf 38 = .ok (.iload_n 1, 1) := by decide +kernel
theorem dX8_digestOf_39 : decode cX8_digestOf 39 = .ok (.sipush 128, 3) := by decide +kernel
theorem dX8_digestOf_42 : decode cX8_digestOf 42 = .ok (.iastore, 1) := by decide +kernel
theorem dX8_digestOf_43 : decode cX8_digestOf 43 = .ok (.iconst 0, 1) := by decide +kernel
theorem dX8_digestOf_44 : decode cX8_digestOf 44 = .ok (.istore_n 3, 1) := by decide +kernel
theorem dX8_digestOf_45 : decode cX8_digestOf 45 = .ok (.iload_n 3, 1) := by decide +kernel
theorem dX8_digestOf_46 : decode cX8_digestOf 46 = .ok (.iconst 4, 1) := by decide +kernel
theorem dX8_digestOf_47 : decode cX8_digestOf 47 = .ok (.if_icmp .ge 32, 3) := by decide +kernel
theorem dX8_digestOf_50 : decode cX8_digestOf 50 = .ok (.aload_n 0, 1) := by decide +kernel
theorem dX8_digestOf_51 : decode cX8_digestOf 51 = .ok (.getfield 50, 3) := by decide +kernel
theorem dX8_digestOf_54 : decode cX8_digestOf 54 = .ok (.iload_n 2, 1) := by decide +kernel
theorem dX8_digestOf_55 : decode cX8_digestOf 55 = .ok (.iconst 1, 1) := by decide +kernel
theorem dX8_digestOf_56 : decode cX8_digestOf 56 = .ok (.isub, 1) := by decide +kernel
theorem dX8_digestOf_57 : decode cX8_digestOf 57 = .ok (.iload_n 3, 1) := by decide +kernel
theorem dX8_digestOf_58 : decode cX8_digestOf 58 = .ok (.isub, 1) := by decide +kernel
theorem dX8_digestOf_59 : decode cX8_digestOf 59 = .ok (.bipush 8, 2) := by decide +kernel
theorem dX8_digestOf_61 : decode cX8_digestOf 61 = .ok (.iload_n 1, 1) := by decide +kernel
theorem dX8_digestOf_62 : decode cX8_digestOf 62 = .ok (.imul, 1) := by decide +kernel
theorem dX8_digestOf_63 : decode cX8_digestOf 63 = .ok (.bipush 8, 2) := by decide +kernel
theorem dX8_digestOf_65 : decode cX8_digestOf 65 = .ok (.iload_n 3, 1) := by decide +kernel
theorem dX8_digestOf_66 : decode cX8_digestOf 66 = .ok (.imul, 1) := by decide +kernel
theorem dX8_digestOf_67 : decode cX8_digestOf 67 = .ok (.ishr, 1) := by decide +kernel
theorem dX8_digestOf_68 : decode cX8_digestOf 68 = .ok (.sipush 255, 3) := by decide +kernel
theorem dX8_digestOf_71 : decode cX8_digestOf 71 = .ok (.iand, 1) := by decide +kernel
theorem dX8_digestOf_72 : decode cX8_digestOf 72 = .ok (.iastore, 1) := by decide +kernel
theorem dX8_digestOf_73 : decode cX8_digestOf 73 = .ok (.iinc 3 1, 3) := by decide +kernel
theorem dX8_digestOf_76 : decode cX8_digestOf 76 = .ok (.goto (-31), 3) := by decide +kernel
theorem dX8_digestOf_79 : decode cX8_digestOf 79 = .ok (.iconst 0, 1) := by decide +kernel
theorem dX8_digestOf_80 : decode cX8_digestOf 80 = .ok (.istore_n 3, 1) := by decide +kernel
theorem dX8_digestOf_81 : decode cX8_digestOf 81 = .ok (.iload_n 3, 1) := by decide +kernel
theorem dX8_digestOf_82 : decode cX8_digestOf 82 = .ok (.bipush 8, 2) := by decide +kernel
theorem dX8_digestOf_84 : decode cX8_digestOf 84 = .ok (.if_icmp .ge 21, 3) := by decide +kernel
theorem dX8_digestOf_87 : decode cX8_digestOf 87 = .ok (.aload_n 0, 1) := by decide +kernel
theorem dX8_digestOf_88 : decode cX8_digestOf 88 = .ok (.getfield 56, 3) := by decide +kernel
theorem dX8_digestOf_91 : decode cX8_digestOf 91 = .ok (.iload_n 3, 1) := by decide +kernel
theorem dX8_digestOf_92 : decode cX8_digestOf 92 = .ok (.aload_n 0, 1) := by decide +kernel
theorem dX8_digestOf_93 : decode cX8_digestOf 93 = .ok (.getfield 37, 3) := by decide +kernel
theorem dX8_digestOf_96 : decode cX8_digestOf 96 = .ok (.iload_n 3, 1) := by decide +kernel
theorem dX8_digestOf_97 : decode cX8_digestOf 97 = .ok (.laload, 1) := by decide +kernel
theorem dX8_digestOf_98 : decode cX8_digestOf 98 = .ok (.lastore, 1) := by decide +kernel
theorem dX8_digestOf_99 : decode cX8_digestOf 99 = .ok (.iinc 3 1, 3) := by decide +kernel
theorem dX8_digestOf_102 : decode cX8_digestOf 102 = .ok (.goto (-21), 3) := by decide +kernel
theorem dX8_digestOf_105 : decode cX8_digestOf 105 = .ok (.iconst 0, 1) := by decide +kernel
theorem dX8_digestOf_106 : decode cX8_digestOf 106 = .ok (.istore_n 3, 1) := by decide +kernel
theorem dX8_digestOf_107 : decode cX8_digestOf 107 = .ok (.iload_n 3, 1) := by decide +kernel
theorem dX8_digestOf_108 : decode cX8_digestOf 108 = .ok (.iload_n 2, 1) := by decide +kernel
theorem dX8_digestOf_109 : decode cX8_digestOf 109 = .ok (.if_icmp .ge 14, 3) := by decide +kernel
theorem dX8_digestOf_112 : decode cX8_digestOf 112 = .ok (.aload_n 0, 1) := by decide +kernel
theorem dX8_digestOf_113 : decode cX8_digestOf 113 = .ok (.iload_n 3, 1) := by decide +kernel
theorem dX8_digestOf_114 : decode cX8_digestOf 114 = .ok (.invokevirtual 130, 3) := by decide +kernel
theorem dX8_digestOf_117 : decode cX8_digestOf 117 = .ok (.iinc 3 64, 3) := by decide +kernel
theorem dX8_digestOf_120 : decode cX8_digestOf 120 = .ok (.goto (-13), 3) := by decide +kernel
theorem dX8_digestOf_123 : decode cX8_digestOf 123 = .ok (.iconst 0, 1) := by decide +kernel
theorem dX8_digestOf_124 : decode cX8_digestOf 124 = .ok (.istore_n 3, 1) := by decide +kernel
theorem dX8_digestOf_125 : decode cX8_digestOf 125 = .ok (.iload_n 3, 1) := by decide +kernel
theorem dX8_digestOf_126 : decode cX8_digestOf 126 = .ok (.bipush 32, 2) := by decide +kernel
theorem dX8_digestOf_128 : decode cX8_digestOf 128 = .ok (.if_icmp .ge 38, 3) := by decide +kernel
theorem dX8_digestOf_131 : decode cX8_digestOf 131 = .ok (.aload_n 0, 1) := by decide +kernel
theorem dX8_digestOf_132 : decode cX8_digestOf 132 = .ok (.getfield 62, 3) := by decide +kernel
theorem dX8_digestOf_135 : decode cX8_digestOf 135 = .ok (.iload_n 3, 1) := by decide +kernel
theorem dX8_digestOf_136 : decode cX8_digestOf 136 = .ok (.aload_n 0, 1) := by decide +kernel
theorem dX8_digestOf_137 : decode cX8_digestOf 137 = .ok (.getfield 56, 3) := by decide +kernel
theorem dX8_digestOf_140 : decode cX8_digestOf 140 = .ok (.iload_n 3, 1) := by decide +kernel
theorem dX8_digestOf_141 : decode cX8_digestOf 141 = .ok (.iconst 4, 1) := by decide +kernel
theorem dX8_digestOf_142 : decode cX8_digestOf 142 = .ok (.idiv, 1) := by decide +kernel
theorem dX8_digestOf_143 : decode cX8_digestOf 143 = .ok (.laload, 1) := by decide +kernel
theorem dX8_digestOf_144 : decode cX8_digestOf 144 = .ok (.bipush 24, 2) := by decide +kernel
theorem dX8_digestOf_146 : decode cX8_digestOf 146 = .ok (.bipush 8, 2) := by decide +kernel
theorem dX8_digestOf_148 : decode cX8_digestOf 148 = .ok (.iload_n 3, 1) := by decide +kernel
theorem dX8_digestOf_149 : decode cX8_digestOf 149 = .ok (.iconst 4, 1) := by decide +kernel
theorem dX8_digestOf_150 : decode cX8_digestOf 150 = .ok (.irem, 1) := by decide +kernel
theorem dX8_digestOf_151 : decode cX8_digestOf 151 = .ok (.imul, 1) := by decide +kernel
theorem dX8_digestOf_152 : decode cX8_digestOf 152 = .ok (.isub, 1) := by decide +kernel
theorem dX8_digestOf_153 : decode cX8_digestOf 153 = .ok (.lshr, 1) := by decide +kernel
theorem dX8_digestOf_154 : decode cX8_digestOf 154 = .ok (.ldc2_w 134, 3) := by decide +kernel
theorem dX8_digestOf_157 : decode cX8_digestOf 157 = .ok (.land, 1) := by decide +kernel
theorem dX8_digestOf_158 : decode cX8_digestOf 158 = .ok (.l2i, 1) := by decide +kernel
theorem dX8_digestOf_159 : decode cX8_digestOf 159 = .ok (.iastore, 1) := by decide +kernel
theorem dX8_digestOf_160 : decode cX8_digestOf 160 = .ok (.iinc 3 1, 3) := by decide +kernel
theorem dX8_digestOf_163 : decode cX8_digestOf 163 = .ok (.goto (-38), 3) := by decide +kernel
theorem dX8_digestOf_166 : decode cX8_digestOf 166 = .ok (.return_, 1) := by decide +kernel
set_option maxHeartbeats 4000000 in
set_option maxRecDepth 100000 in
theorem c_R_dig (l : Launch) (D : va_G) (a0 : Nat) (p1 : Nat) (v_a0_thrown : Nat) (a0_tape : Nat) (v_a0_taped : Nat) (a0_out : Nat) (v_a0_outs : Nat) (a0_slots : Nat) (a0_kept : Nat) (a0_phase : Nat) (a0_secret : Nat) (a0_key : Nat) (a0_hide : Nat) (a0_iv : Nat) (a0_begin : Nat) (a0_each : Nat) (a0_root : Nat) (a0_power : Nat) (a0_work : Nat) (a0_w : Nat) (a0_h : Nat) (a0_state : Nat) (a0_sum : Nat) (a0_pad : Nat) (a0_text : Nat) (v_a0_texts : Nat) (a0_info : Nat) (v_a0_infos : Nat) (a0_made : Nat) (a0_blockKey : Nat) (a0_nonce : Nat) (a0_x : Nat) (a0_first : Nat) (a0_block : Nat) (a0_a : Nat) (a0_r : Nat) (a0_product : Nat) (a0_tag : Nat) (a0_sealed : Nat) (t_a0_work : Nat → By) (t_a0_w : Nat → Nat) (t_a0_h : Nat → Wd) (t_a0_state : Nat → Wd) (t_a0_each : Nat → Wd) (t_a0_begin : Nat → Wd) (t_a0_sum : Nat → By)  (h1 : p1 ≤ 2320) (he : ∀ j, j < 64 → t_a0_each j = shK j) (hbg : ∀ j, j < 8 → t_a0_begin j = shI j) : vM l D yX8_digestOf cX8_digestOf 4 none { frames := 2, cells := 0, slots := 0, locals := 61 } [.ref a0, .int (nI p1)] [(a0, .inr (8, [.int (nI v_a0_thrown), .ref a0_tape, .int (nI v_a0_taped), .ref a0_out, .int (nI v_a0_outs), .ref a0_slots, .ref a0_kept, .ref a0_phase, .ref a0_secret, .ref a0_key, .ref a0_hide, .ref a0_iv, .ref a0_begin, .ref a0_each, .ref a0_root, .ref a0_power, .ref a0_work, .ref a0_w, .ref a0_h, .ref a0_state, .ref a0_sum, .ref a0_pad, .ref a0_text, .int (nI v_a0_texts), .ref a0_info, .int (nI v_a0_infos), .ref a0_made, .ref a0_blockKey, .ref a0_nonce, .ref a0_x, .ref a0_first, .ref a0_block, .ref a0_a, .ref a0_r, .ref a0_product, .ref a0_tag, .ref a0_sealed])), (a0_work, aY D 2400 t_a0_work), (a0_w, aL D 64 t_a0_w), (a0_h, aM D 8 t_a0_h), (a0_state, aM D 8 t_a0_state), (a0_each, aM D 64 t_a0_each), (a0_begin, aM D 8 t_a0_begin), (a0_sum, aY D 32 t_a0_sum)] (fun r wo => ∃ (wk : Nat → By) (w1 : Nat → Nat) (th : Nat → Wd) (s1 : Nat → Wd) (su : Nat → By), r = none ∧ wo = [(a0, .inr (8, [.int (nI v_a0_thrown), .ref a0_tape, .int (nI v_a0_taped), .ref a0_out, .int (nI v_a0_outs), .ref a0_slots, .ref a0_kept, .ref a0_phase, .ref a0_secret, .ref a0_key, .ref a0_hide, .ref a0_iv, .ref a0_begin, .ref a0_each, .ref a0_root, .ref a0_power, .ref a0_work, .ref a0_w, .ref a0_h, .ref a0_state, .ref a0_sum, .ref a0_pad, .ref a0_text, .int (nI v_a0_texts), .ref a0_info, .int (nI v_a0_infos), .ref a0_made, .ref a0_blockKey, .ref a0_nonce, .ref a0_x, .ref a0_first, .ref a0_block, .ref a0_a, .ref a0_r, .ref a0_product, .ref a0_tag, .ref a0_sealed])), (a0_work, aY D 2400 wk), (a0_w, aL D 64 w1), (a0_h, aM D 8 th), (a0_state, aM D 8 s1), (a0_each, aM D 64 t_a0_each), (a0_begin, aM D 8 t_a0_begin), (a0_sum, aY D 32 su)] ∧ (∀ j, j < 32 → su j = digF t_a0_work p1 j)) := by
  refine vM.of (by decide) (Nat.le_of_ble_eq_true rfl) (fun C hCl hCD g R => ?_)
  subst hCl; subst hCD
  show VJ C 0 0 0 [(0, .ref a0), (1, .int (nI p1))] [] [(a0, .inr (8, [.int (nI v_a0_thrown), .ref a0_tape, .int (nI v_a0_taped), .ref a0_out, .int (nI v_a0_outs), .ref a0_slots, .ref a0_kept, .ref a0_phase, .ref a0_secret, .ref a0_key, .ref a0_hide, .ref a0_iv, .ref a0_begin, .ref a0_each, .ref a0_root, .ref a0_power, .ref a0_work, .ref a0_w, .ref a0_h, .ref a0_state, .ref a0_sum, .ref a0_pad, .ref a0_text, .int (nI v_a0_texts), .ref a0_info, .int (nI v_a0_infos), .ref a0_made, .ref a0_blockKey, .ref a0_nonce, .ref a0_x, .ref a0_first, .ref a0_block, .ref a0_a, .ref a0_r, .ref a0_product, .ref a0_tag, .ref a0_sealed])), (a0_work, aY C.D 2400 t_a0_work), (a0_w, aL C.D 64 t_a0_w), (a0_h, aM C.D 8 t_a0_h), (a0_state, aM C.D 8 t_a0_state), (a0_each, aM C.D 64 t_a0_each), (a0_begin, aM C.D 8 t_a0_begin), (a0_sum, aY C.D 32 t_a0_sum)]
  refine v_iload_n g dX8_digestOf_0 1 rfl 1 rfl ?_
  refine v_bipush g dX8_digestOf_1 (v := nI 8) (by decide +kernel) ?_
  refine v_iaddN g dX8_digestOf_3 ?_
  refine v_bipush g dX8_digestOf_4 (v := nI 64) (by decide +kernel) ?_
  refine v_idivN g dX8_digestOf_6 (by omega) (by omega) (by omega) ?_
  refine v_bipush g dX8_digestOf_7 (v := nI 64) (by decide +kernel) ?_
  refine v_imulN g dX8_digestOf_9 ?_
  refine v_bipush g dX8_digestOf_10 (v := nI 64) (by decide +kernel) ?_
  refine v_iaddN g dX8_digestOf_12 ?_
  refine v_istore_n g [(2, .int (nI ((((p1 + 8) / 64) * 64) + 64))), (0, .ref a0), (1, .int (nI p1))] dX8_digestOf_13 2 rfl (by decide) rfl ?_
  refine v_iload_n g dX8_digestOf_14 1 rfl 2 rfl ?_
  refine v_istore_n g [(3, .int (nI p1)), (2, .int (nI ((((p1 + 8) / 64) * 64) + 64))), (0, .ref a0), (1, .int (nI p1))] dX8_digestOf_15 3 rfl (by decide) rfl ?_
  have L16_0 : ∀ i : Nat, i ≤ ((p1 + 8) / 64 * 64 + 64 - p1) → ∀ (wa : Nat → By), (∀ j, j < p1 → wa j = t_a0_work j) → (∀ j, p1 ≤ j → j < p1 + i → wa j = 0#8) → VJ C 0 0 16 [(3, .int (nI (p1 + i))), (2, .int (nI ((((p1 + 8) / 64) * 64) + 64))), (0, .ref a0), (1, .int (nI p1))] [] [(a0, .inr (8, [.int (nI v_a0_thrown), .ref a0_tape, .int (nI v_a0_taped), .ref a0_out, .int (nI v_a0_outs), .ref a0_slots, .ref a0_kept, .ref a0_phase, .ref a0_secret, .ref a0_key, .ref a0_hide, .ref a0_iv, .ref a0_begin, .ref a0_each, .ref a0_root, .ref a0_power, .ref a0_work, .ref a0_w, .ref a0_h, .ref a0_state, .ref a0_sum, .ref a0_pad, .ref a0_text, .int (nI v_a0_texts), .ref a0_info, .int (nI v_a0_infos), .ref a0_made, .ref a0_blockKey, .ref a0_nonce, .ref a0_x, .ref a0_first, .ref a0_block, .ref a0_a, .ref a0_r, .ref a0_product, .ref a0_tag, .ref a0_sealed])), (a0_work, aY C.D 2400 wa), (a0_w, aL C.D 64 t_a0_w), (a0_h, aM C.D 8 t_a0_h), (a0_state, aM C.D 8 t_a0_state), (a0_each, aM C.D 64 t_a0_each), (a0_begin, aM C.D 8 t_a0_begin), (a0_sum, aY C.D 32 t_a0_sum)] := by
    refine v_for (((p1 + 8) / 64 * 64 + 64 - p1)) ?_ ?_
    · skip
      intro i hii ih wa hv0 hv1
      refine v_iload_n g dX8_digestOf_16 3 rfl 0 rfl ?_
      refine v_iload_n g dX8_digestOf_17 2 rfl 1 rfl ?_
      refine v_icmp_geN g 34 dX8_digestOf_18 (by decide) (by omega) (by omega) (fun h2 => ?_) (fun h2 => ?_)
      · skip
        exact absurd h2 (by omega)
      · skip
        refine v_aload_n g dX8_digestOf_21 0 rfl 2 rfl ?_
        refine gf_X8_50 g dX8_digestOf_22 0 rfl rfl ?_
        refine v_iload_n g dX8_digestOf_25 3 rfl 0 rfl ?_
        refine v_iconst g dX8_digestOf_26 (v := nI 0) (by decide +kernel) ?_
        obtain ⟨t3, ht3⟩ : ∃ z : Nat → By, z = va_up wa (p1 + i) 0#8 := ⟨_, rfl⟩
        refine v_iastY g (0#8) rfl t3 ht3 1 [(a0, .inr (8, [.int (nI v_a0_thrown), .ref a0_tape, .int (nI v_a0_taped), .ref a0_out, .int (nI v_a0_outs), .ref a0_slots, .ref a0_kept, .ref a0_phase, .ref a0_secret, .ref a0_key, .ref a0_hide, .ref a0_iv, .ref a0_begin, .ref a0_each, .ref a0_root, .ref a0_power, .ref a0_work, .ref a0_w, .ref a0_h, .ref a0_state, .ref a0_sum, .ref a0_pad, .ref a0_text, .int (nI v_a0_texts), .ref a0_info, .int (nI v_a0_infos), .ref a0_made, .ref a0_blockKey, .ref a0_nonce, .ref a0_x, .ref a0_first, .ref a0_block, .ref a0_a, .ref a0_r, .ref a0_product, .ref a0_tag, .ref a0_sealed])), (a0_work, aY C.D 2400 t3), (a0_w, aL C.D 64 t_a0_w), (a0_h, aM C.D 8 t_a0_h), (a0_state, aM C.D 8 t_a0_state), (a0_each, aM C.D 64 t_a0_each), (a0_begin, aM C.D 8 t_a0_begin), (a0_sum, aY C.D 32 t_a0_sum)] rfl (by omega) (by decide) dX8_digestOf_27 rfl ?_
        refine v_iincN g 1 [(3, .int (nI (p1 + i + 1))), (2, .int (nI ((((p1 + 8) / 64) * 64) + 64))), (0, .ref a0), (1, .int (nI p1))] dX8_digestOf_28 0 rfl (by decide +kernel) (by decide) rfl ?_
        refine v_goto g 16 dX8_digestOf_31 (by decide) ?_
        exact ih t3 (fun j hj => by rw [ht3]; unfold va_up; rw [if_neg (by omega)]; exact hv0 j hj) (fun j g1 g2 => by
            rw [ht3]
            unfold va_up
            by_cases e : j = p1 + i
            · rw [if_pos e]
            · rw [if_neg e]; exact hv1 j g1 (by omega))
    · skip
      intro wa hv0 hv1
      refine v_iload_n g dX8_digestOf_16 3 rfl 0 rfl ?_
      refine v_iload_n g dX8_digestOf_17 2 rfl 1 rfl ?_
      refine v_icmp_geN g 34 dX8_digestOf_18 (by decide) (by omega) (by omega) (fun h4 => ?_) (fun h4 => ?_)
      · skip
        have hA0 := hv0
        have hA1 := hv1
        refine v_aload_n g dX8_digestOf_34 0 rfl 2 rfl ?_
        refine gf_X8_50 g dX8_digestOf_35 0 rfl rfl ?_
        refine v_iload_n g dX8_digestOf_38 1 rfl 3 rfl ?_
        refine v_sipush g dX8_digestOf_39 (v := nI 128) (by decide +kernel) ?_
        obtain ⟨t5, ht5⟩ : ∃ z : Nat → By, z = va_up wa p1 128#8 := ⟨_, rfl⟩
        refine v_iastY g (128#8) rfl t5 ht5 1 [(a0, .inr (8, [.int (nI v_a0_thrown), .ref a0_tape, .int (nI v_a0_taped), .ref a0_out, .int (nI v_a0_outs), .ref a0_slots, .ref a0_kept, .ref a0_phase, .ref a0_secret, .ref a0_key, .ref a0_hide, .ref a0_iv, .ref a0_begin, .ref a0_each, .ref a0_root, .ref a0_power, .ref a0_work, .ref a0_w, .ref a0_h, .ref a0_state, .ref a0_sum, .ref a0_pad, .ref a0_text, .int (nI v_a0_texts), .ref a0_info, .int (nI v_a0_infos), .ref a0_made, .ref a0_blockKey, .ref a0_nonce, .ref a0_x, .ref a0_first, .ref a0_block, .ref a0_a, .ref a0_r, .ref a0_product, .ref a0_tag, .ref a0_sealed])), (a0_work, aY C.D 2400 t5), (a0_w, aL C.D 64 t_a0_w), (a0_h, aM C.D 8 t_a0_h), (a0_state, aM C.D 8 t_a0_state), (a0_each, aM C.D 64 t_a0_each), (a0_begin, aM C.D 8 t_a0_begin), (a0_sum, aY C.D 32 t_a0_sum)] rfl (by omega) (by decide) dX8_digestOf_42 rfl ?_
        refine v_iconst g dX8_digestOf_43 (v := nI 0) (by decide +kernel) ?_
        refine v_istore_n g [(3, .int (nI 0)), (2, .int (nI ((((p1 + 8) / 64) * 64) + 64))), (0, .ref a0), (1, .int (nI p1))] dX8_digestOf_44 3 rfl (by decide) rfl ?_
        have hz : ∀ j, j < (p1 + 8) / 64 * 64 + 64 → t5 j = pz t_a0_work p1 j := by
          intro j hj
          rw [ht5]
          unfold va_up pz
          by_cases e : j = p1
          · rw [if_pos e, if_neg (by omega), if_pos e]
          · rw [if_neg e]
            by_cases e2 : j < p1
            · rw [if_pos e2]; exact hA0 j e2
            · rw [if_neg e2, if_neg e]; exact hA1 j (by omega) (by omega)
        have L45_5 : ∀ i : Nat, i ≤ 4 → ∀ (wb : Nat → By), (∀ j, j < (p1 + 8) / 64 * 64 + 64 - i → wb j = pz t_a0_work p1 j) → (∀ j, (p1 + 8) / 64 * 64 + 64 - i ≤ j → j < (p1 + 8) / 64 * 64 + 64 → wb j = sh_pad t_a0_work p1 j) → VJ C 0 0 45 [(3, .int (nI i)), (2, .int (nI ((((p1 + 8) / 64) * 64) + 64))), (0, .ref a0), (1, .int (nI p1))] [] [(a0, .inr (8, [.int (nI v_a0_thrown), .ref a0_tape, .int (nI v_a0_taped), .ref a0_out, .int (nI v_a0_outs), .ref a0_slots, .ref a0_kept, .ref a0_phase, .ref a0_secret, .ref a0_key, .ref a0_hide, .ref a0_iv, .ref a0_begin, .ref a0_each, .ref a0_root, .ref a0_power, .ref a0_work, .ref a0_w, .ref a0_h, .ref a0_state, .ref a0_sum, .ref a0_pad, .ref a0_text, .int (nI v_a0_texts), .ref a0_info, .int (nI v_a0_infos), .ref a0_made, .ref a0_blockKey, .ref a0_nonce, .ref a0_x, .ref a0_first, .ref a0_block, .ref a0_a, .ref a0_r, .ref a0_product, .ref a0_tag, .ref a0_sealed])), (a0_work, aY C.D 2400 wb), (a0_w, aL C.D 64 t_a0_w), (a0_h, aM C.D 8 t_a0_h), (a0_state, aM C.D 8 t_a0_state), (a0_each, aM C.D 64 t_a0_each), (a0_begin, aM C.D 8 t_a0_begin), (a0_sum, aY C.D 32 t_a0_sum)] := by
          refine v_for (4) ?_ ?_
          · skip
            intro i hii ih wb hv0 hv1
            refine v_iload_n g dX8_digestOf_45 3 rfl 0 rfl ?_
            refine v_iconst g dX8_digestOf_46 (v := nI 4) (by decide +kernel) ?_
            refine v_icmp_geN g 79 dX8_digestOf_47 (by decide) (by omega) (by omega) (fun h6 => ?_) (fun h6 => ?_)
            · skip
              exact absurd h6 (by omega)
            · skip
              refine v_aload_n g dX8_digestOf_50 0 rfl 2 rfl ?_
              refine gf_X8_50 g dX8_digestOf_51 0 rfl rfl ?_
              refine v_iload_n g dX8_digestOf_54 2 rfl 1 rfl ?_
              refine v_iconst g dX8_digestOf_55 (v := nI 1) (by decide +kernel) ?_
              refine v_isubN g dX8_digestOf_56 (by omega) ?_
              refine v_iload_n g dX8_digestOf_57 3 rfl 0 rfl ?_
              refine v_isubN g dX8_digestOf_58 (by omega) ?_
              refine v_bipush g dX8_digestOf_59 (v := nI 8) (by decide +kernel) ?_
              refine v_iload_n g dX8_digestOf_61 1 rfl 3 rfl ?_
              refine v_imulN g dX8_digestOf_62 ?_
              refine v_bipush g dX8_digestOf_63 (v := nI 8) (by decide +kernel) ?_
              refine v_iload_n g dX8_digestOf_65 3 rfl 0 rfl ?_
              refine v_imulN g dX8_digestOf_66 ?_
              refine v_ishrN g (by omega) (by omega) dX8_digestOf_67 ?_
              refine v_sipush g dX8_digestOf_68 (v := nI 255) (by decide +kernel) ?_
              refine v_iandM g 8 (by decide) dX8_digestOf_71 ?_
              obtain ⟨t7, ht7⟩ : ∃ z : Nat → By, z = va_up wb ((((((p1 + 8) / 64) * 64) + 64) - 1) - i) (BitVec.ofNat 8 ((8 * p1) / 2 ^ (8 * i))) := ⟨_, rfl⟩
              refine v_iastY g (BitVec.ofNat 8 ((8 * p1) / 2 ^ (8 * i))) (congrArg nI (BitVec.toNat_ofNat _ _).symm) t7 ht7 1 [(a0, .inr (8, [.int (nI v_a0_thrown), .ref a0_tape, .int (nI v_a0_taped), .ref a0_out, .int (nI v_a0_outs), .ref a0_slots, .ref a0_kept, .ref a0_phase, .ref a0_secret, .ref a0_key, .ref a0_hide, .ref a0_iv, .ref a0_begin, .ref a0_each, .ref a0_root, .ref a0_power, .ref a0_work, .ref a0_w, .ref a0_h, .ref a0_state, .ref a0_sum, .ref a0_pad, .ref a0_text, .int (nI v_a0_texts), .ref a0_info, .int (nI v_a0_infos), .ref a0_made, .ref a0_blockKey, .ref a0_nonce, .ref a0_x, .ref a0_first, .ref a0_block, .ref a0_a, .ref a0_r, .ref a0_product, .ref a0_tag, .ref a0_sealed])), (a0_work, aY C.D 2400 t7), (a0_w, aL C.D 64 t_a0_w), (a0_h, aM C.D 8 t_a0_h), (a0_state, aM C.D 8 t_a0_state), (a0_each, aM C.D 64 t_a0_each), (a0_begin, aM C.D 8 t_a0_begin), (a0_sum, aY C.D 32 t_a0_sum)] rfl (by omega) (by decide) dX8_digestOf_72 rfl ?_
              refine v_iincN g 1 [(3, .int (nI (i + 1))), (2, .int (nI ((((p1 + 8) / 64) * 64) + 64))), (0, .ref a0), (1, .int (nI p1))] dX8_digestOf_73 0 rfl (by decide +kernel) (by decide) rfl ?_
              refine v_goto g 45 dX8_digestOf_76 (by decide) ?_
              exact ih t7 (fun j hj => by rw [ht7]; unfold va_up; rw [if_neg (by omega)]; exact hv0 j (by omega)) (fun j g1 g2 => by
                rw [ht7]
                unfold va_up
                by_cases e : j = (p1 + 8) / 64 * 64 + 64 - 1 - i
                · rw [if_pos e, e]; exact pad_hi4 (by omega)
                · rw [if_neg e]; exact hv1 j (by omega) g2)
          · skip
            intro wb hv0 hv1
            refine v_iload_n g dX8_digestOf_45 3 rfl 0 rfl ?_
            refine v_iconst g dX8_digestOf_46 (v := nI 4) (by decide +kernel) ?_
            refine v_icmp_geN g 79 dX8_digestOf_47 (by decide) (by omega) (by omega) (fun h8 => ?_) (fun h8 => ?_)
            · skip
              have hP : ∀ j, j < (p1 + 8) / 64 * 64 + 64 → wb j = sh_pad t_a0_work p1 j := by
                intro j hj
                by_cases e : j < (p1 + 8) / 64 * 64 + 64 - 4
                · rw [hv0 j e]; exact pad_lo4 (by omega) (by omega)
                · exact hv1 j (by omega) hj
              refine v_iconst g dX8_digestOf_79 (v := nI 0) (by decide +kernel) ?_
              refine v_istore_n g [(3, .int (nI 0)), (2, .int (nI ((((p1 + 8) / 64) * 64) + 64))), (0, .ref a0), (1, .int (nI p1))] dX8_digestOf_80 3 rfl (by decide) rfl ?_
              have L81_8 : ∀ i : Nat, i ≤ 8 → ∀ (ha : Nat → Wd), (∀ j, j < i → ha j = shI j) → VJ C 0 0 81 [(3, .int (nI i)), (2, .int (nI ((((p1 + 8) / 64) * 64) + 64))), (0, .ref a0), (1, .int (nI p1))] [] [(a0, .inr (8, [.int (nI v_a0_thrown), .ref a0_tape, .int (nI v_a0_taped), .ref a0_out, .int (nI v_a0_outs), .ref a0_slots, .ref a0_kept, .ref a0_phase, .ref a0_secret, .ref a0_key, .ref a0_hide, .ref a0_iv, .ref a0_begin, .ref a0_each, .ref a0_root, .ref a0_power, .ref a0_work, .ref a0_w, .ref a0_h, .ref a0_state, .ref a0_sum, .ref a0_pad, .ref a0_text, .int (nI v_a0_texts), .ref a0_info, .int (nI v_a0_infos), .ref a0_made, .ref a0_blockKey, .ref a0_nonce, .ref a0_x, .ref a0_first, .ref a0_block, .ref a0_a, .ref a0_r, .ref a0_product, .ref a0_tag, .ref a0_sealed])), (a0_work, aY C.D 2400 wb), (a0_w, aL C.D 64 t_a0_w), (a0_h, aM C.D 8 ha), (a0_state, aM C.D 8 t_a0_state), (a0_each, aM C.D 64 t_a0_each), (a0_begin, aM C.D 8 t_a0_begin), (a0_sum, aY C.D 32 t_a0_sum)] := by
                refine v_for (8) ?_ ?_
                · skip
                  intro i hii ih ha hv0
                  refine v_iload_n g dX8_digestOf_81 3 rfl 0 rfl ?_
                  refine v_bipush g dX8_digestOf_82 (v := nI 8) (by decide +kernel) ?_
                  refine v_icmp_geN g 105 dX8_digestOf_84 (by decide) (by omega) (by omega) (fun h9 => ?_) (fun h9 => ?_)
                  · skip
                    exact absurd h9 (by omega)
                  · skip
                    refine v_aload_n g dX8_digestOf_87 0 rfl 2 rfl ?_
                    refine gf_X8_56 g dX8_digestOf_88 0 rfl rfl ?_
                    refine v_iload_n g dX8_digestOf_91 3 rfl 0 rfl ?_
                    refine v_aload_n g dX8_digestOf_92 0 rfl 2 rfl ?_
                    refine gf_X8_37 g dX8_digestOf_93 0 rfl rfl ?_
                    refine v_iload_n g dX8_digestOf_96 3 rfl 0 rfl ?_
                    refine v_laldM g 6 rfl (by omega) (by decide) dX8_digestOf_97 ?_
                    obtain ⟨t10, ht10⟩ : ∃ z : Nat → Wd, z = va_up ha i (t_a0_begin i) := ⟨_, rfl⟩
                    refine v_lastM g (t_a0_begin i) rfl t10 ht10 3 [(a0, .inr (8, [.int (nI v_a0_thrown), .ref a0_tape, .int (nI v_a0_taped), .ref a0_out, .int (nI v_a0_outs), .ref a0_slots, .ref a0_kept, .ref a0_phase, .ref a0_secret, .ref a0_key, .ref a0_hide, .ref a0_iv, .ref a0_begin, .ref a0_each, .ref a0_root, .ref a0_power, .ref a0_work, .ref a0_w, .ref a0_h, .ref a0_state, .ref a0_sum, .ref a0_pad, .ref a0_text, .int (nI v_a0_texts), .ref a0_info, .int (nI v_a0_infos), .ref a0_made, .ref a0_blockKey, .ref a0_nonce, .ref a0_x, .ref a0_first, .ref a0_block, .ref a0_a, .ref a0_r, .ref a0_product, .ref a0_tag, .ref a0_sealed])), (a0_work, aY C.D 2400 wb), (a0_w, aL C.D 64 t_a0_w), (a0_h, aM C.D 8 t10), (a0_state, aM C.D 8 t_a0_state), (a0_each, aM C.D 64 t_a0_each), (a0_begin, aM C.D 8 t_a0_begin), (a0_sum, aY C.D 32 t_a0_sum)] rfl (by omega) (by decide) dX8_digestOf_98 rfl ?_
                    refine v_iincN g 1 [(3, .int (nI (i + 1))), (2, .int (nI ((((p1 + 8) / 64) * 64) + 64))), (0, .ref a0), (1, .int (nI p1))] dX8_digestOf_99 0 rfl (by decide +kernel) (by decide) rfl ?_
                    refine v_goto g 81 dX8_digestOf_102 (by decide) ?_
                    exact ih t10 (up_lt (m := i) hv0 (hbg i (by omega)) ht10)
                · skip
                  intro ha hv0
                  refine v_iload_n g dX8_digestOf_81 3 rfl 0 rfl ?_
                  refine v_bipush g dX8_digestOf_82 (v := nI 8) (by decide +kernel) ?_
                  refine v_icmp_geN g 105 dX8_digestOf_84 (by decide) (by omega) (by omega) (fun h11 => ?_) (fun h11 => ?_)
                  · skip
                    have hh := hv0
                    refine v_iconst g dX8_digestOf_105 (v := nI 0) (by decide +kernel) ?_
                    refine v_istore_n g [(3, .int (nI 0)), (2, .int (nI ((((p1 + 8) / 64) * 64) + 64))), (0, .ref a0), (1, .int (nI p1))] dX8_digestOf_106 3 rfl (by decide) rfl ?_
                    have L107_11 : ∀ i : Nat, i ≤ ((p1 + 8) / 64 + 1) → ∀ (wv : Nat → Nat) (hb : Nat → Wd) (sv : Nat → Wd), (∀ j, j < 8 → hb j = sh_H (sh_pad t_a0_work p1) i j) → VJ C 0 0 107 [(3, .int (nI (64 * i))), (2, .int (nI ((((p1 + 8) / 64) * 64) + 64))), (0, .ref a0), (1, .int (nI p1))] [] [(a0, .inr (8, [.int (nI v_a0_thrown), .ref a0_tape, .int (nI v_a0_taped), .ref a0_out, .int (nI v_a0_outs), .ref a0_slots, .ref a0_kept, .ref a0_phase, .ref a0_secret, .ref a0_key, .ref a0_hide, .ref a0_iv, .ref a0_begin, .ref a0_each, .ref a0_root, .ref a0_power, .ref a0_work, .ref a0_w, .ref a0_h, .ref a0_state, .ref a0_sum, .ref a0_pad, .ref a0_text, .int (nI v_a0_texts), .ref a0_info, .int (nI v_a0_infos), .ref a0_made, .ref a0_blockKey, .ref a0_nonce, .ref a0_x, .ref a0_first, .ref a0_block, .ref a0_a, .ref a0_r, .ref a0_product, .ref a0_tag, .ref a0_sealed])), (a0_work, aY C.D 2400 wb), (a0_w, aL C.D 64 wv), (a0_h, aM C.D 8 hb), (a0_state, aM C.D 8 sv), (a0_each, aM C.D 64 t_a0_each), (a0_begin, aM C.D 8 t_a0_begin), (a0_sum, aY C.D 32 t_a0_sum)] := by
                      refine v_for (((p1 + 8) / 64 + 1)) ?_ ?_
                      · skip
                        intro i hii ih wv hb sv hv0
                        refine v_iload_n g dX8_digestOf_107 3 rfl 0 rfl ?_
                        refine v_iload_n g dX8_digestOf_108 2 rfl 1 rfl ?_
                        refine v_icmp_geN g 123 dX8_digestOf_109 (by decide) (by omega) (by omega) (fun h12 => ?_) (fun h12 => ?_)
                        · skip
                          exact absurd h12 (by omega)
                        · skip
                          refine v_aload_n g dX8_digestOf_112 0 rfl 2 rfl ?_
                          refine v_iload_n g dX8_digestOf_113 3 rfl 0 rfl ?_
                          refine v_callV (As := [.int (nI (64 * i))]) (rest := []) (wr := [(a0_begin, aM C.D 8 t_a0_begin), (a0_sum, aY C.D 32 t_a0_sum)]) cw_X8_130 (hy_X8_part) g (c_R_part C.l C.D a0 (64 * i) v_a0_thrown a0_tape v_a0_taped a0_out v_a0_outs a0_slots a0_kept a0_phase a0_secret a0_key a0_hide a0_iv a0_begin a0_each a0_root a0_power a0_work a0_w a0_h a0_state a0_sum a0_pad a0_text v_a0_texts a0_info v_a0_infos a0_made a0_blockKey a0_nonce a0_x a0_first a0_block a0_a a0_r a0_product a0_tag a0_sealed wb wv hb sv t_a0_each (by omega) he) dX8_digestOf_114 0 rfl rfl rfl (by decide) (by decide) (Nat.le_of_ble_eq_true rfl) [0, 1, 2, 3, 4, 5] [6, 7] rfl rfl (by decide) rfl (by decide) (by decide) _ rfl (fun r wo hp13 => ?_)
                          obtain ⟨w2, t2, s2, rfl, rfl, hq⟩ := hp13
                          refine v_perm [2, 3, 4, 5, 6, 7, 0, 1] [(a0, .inr (8, [.int (nI v_a0_thrown), .ref a0_tape, .int (nI v_a0_taped), .ref a0_out, .int (nI v_a0_outs), .ref a0_slots, .ref a0_kept, .ref a0_phase, .ref a0_secret, .ref a0_key, .ref a0_hide, .ref a0_iv, .ref a0_begin, .ref a0_each, .ref a0_root, .ref a0_power, .ref a0_work, .ref a0_w, .ref a0_h, .ref a0_state, .ref a0_sum, .ref a0_pad, .ref a0_text, .int (nI v_a0_texts), .ref a0_info, .int (nI v_a0_infos), .ref a0_made, .ref a0_blockKey, .ref a0_nonce, .ref a0_x, .ref a0_first, .ref a0_block, .ref a0_a, .ref a0_r, .ref a0_product, .ref a0_tag, .ref a0_sealed])), (a0_work, aY C.D 2400 wb), (a0_w, aL C.D 64 w2), (a0_h, aM C.D 8 t2), (a0_state, aM C.D 8 s2), (a0_each, aM C.D 64 t_a0_each), (a0_begin, aM C.D 8 t_a0_begin), (a0_sum, aY C.D 32 t_a0_sum)] (by decide) rfl rfl ?_
                          show VJ C 0 0 117 [(3, .int (nI (64 * i))), (2, .int (nI ((((p1 + 8) / 64) * 64) + 64))), (0, .ref a0), (1, .int (nI p1))] [] [(a0, .inr (8, [.int (nI v_a0_thrown), .ref a0_tape, .int (nI v_a0_taped), .ref a0_out, .int (nI v_a0_outs), .ref a0_slots, .ref a0_kept, .ref a0_phase, .ref a0_secret, .ref a0_key, .ref a0_hide, .ref a0_iv, .ref a0_begin, .ref a0_each, .ref a0_root, .ref a0_power, .ref a0_work, .ref a0_w, .ref a0_h, .ref a0_state, .ref a0_sum, .ref a0_pad, .ref a0_text, .int (nI v_a0_texts), .ref a0_info, .int (nI v_a0_infos), .ref a0_made, .ref a0_blockKey, .ref a0_nonce, .ref a0_x, .ref a0_first, .ref a0_block, .ref a0_a, .ref a0_r, .ref a0_product, .ref a0_tag, .ref a0_sealed])), (a0_work, aY C.D 2400 wb), (a0_w, aL C.D 64 w2), (a0_h, aM C.D 8 t2), (a0_state, aM C.D 8 s2), (a0_each, aM C.D 64 t_a0_each), (a0_begin, aM C.D 8 t_a0_begin), (a0_sum, aY C.D 32 t_a0_sum)]
                          refine v_iincN g 64 [(3, .int (nI (64 * i + 64))), (2, .int (nI ((((p1 + 8) / 64) * 64) + 64))), (0, .ref a0), (1, .int (nI p1))] dX8_digestOf_117 0 rfl (by decide +kernel) (by decide) rfl ?_
                          refine v_goto g 107 dX8_digestOf_120 (by decide) ?_
                          rw [show 64 * i + 64 = 64 * (i + 1) by omega]
                          exact ih w2 t2 s2 (fun j hj => (hq j hj).trans (sh_c_congr (b' := fun j => (sh_pad t_a0_work p1) (64 * i + j)) hv0 (fun q hq => hP _ (by omega)) j hj))
                      · skip
                        intro wv hb sv hv0
                        refine v_iload_n g dX8_digestOf_107 3 rfl 0 rfl ?_
                        refine v_iload_n g dX8_digestOf_108 2 rfl 1 rfl ?_
                        refine v_icmp_geN g 123 dX8_digestOf_109 (by decide) (by omega) (by omega) (fun h14 => ?_) (fun h14 => ?_)
                        · skip
                          have hd := hv0
                          refine v_iconst g dX8_digestOf_123 (v := nI 0) (by decide +kernel) ?_
                          refine v_istore_n g [(3, .int (nI 0)), (2, .int (nI ((((p1 + 8) / 64) * 64) + 64))), (0, .ref a0), (1, .int (nI p1))] dX8_digestOf_124 3 rfl (by decide) rfl ?_
                          have L125_14 : ∀ i : Nat, i ≤ 32 → ∀ (sm : Nat → By), (∀ j, j < i → sm j = digF t_a0_work p1 j) → VJ C 0 0 125 [(3, .int (nI i)), (2, .int (nI ((((p1 + 8) / 64) * 64) + 64))), (0, .ref a0), (1, .int (nI p1))] [] [(a0, .inr (8, [.int (nI v_a0_thrown), .ref a0_tape, .int (nI v_a0_taped), .ref a0_out, .int (nI v_a0_outs), .ref a0_slots, .ref a0_kept, .ref a0_phase, .ref a0_secret, .ref a0_key, .ref a0_hide, .ref a0_iv, .ref a0_begin, .ref a0_each, .ref a0_root, .ref a0_power, .ref a0_work, .ref a0_w, .ref a0_h, .ref a0_state, .ref a0_sum, .ref a0_pad, .ref a0_text, .int (nI v_a0_texts), .ref a0_info, .int (nI v_a0_infos), .ref a0_made, .ref a0_blockKey, .ref a0_nonce, .ref a0_x, .ref a0_first, .ref a0_block, .ref a0_a, .ref a0_r, .ref a0_product, .ref a0_tag, .ref a0_sealed])), (a0_work, aY C.D 2400 wb), (a0_w, aL C.D 64 wv), (a0_h, aM C.D 8 hb), (a0_state, aM C.D 8 sv), (a0_each, aM C.D 64 t_a0_each), (a0_begin, aM C.D 8 t_a0_begin), (a0_sum, aY C.D 32 sm)] := by
                            refine v_for (32) ?_ ?_
                            · skip
                              intro i hii ih sm hv0
                              refine v_iload_n g dX8_digestOf_125 3 rfl 0 rfl ?_
                              refine v_bipush g dX8_digestOf_126 (v := nI 32) (by decide +kernel) ?_
                              refine v_icmp_geN g 166 dX8_digestOf_128 (by decide) (by omega) (by omega) (fun h15 => ?_) (fun h15 => ?_)
                              · skip
                                exact absurd h15 (by omega)
                              · skip
                                refine v_aload_n g dX8_digestOf_131 0 rfl 2 rfl ?_
                                refine gf_X8_62 g dX8_digestOf_132 0 rfl rfl ?_
                                refine v_iload_n g dX8_digestOf_135 3 rfl 0 rfl ?_
                                refine v_aload_n g dX8_digestOf_136 0 rfl 2 rfl ?_
                                refine gf_X8_56 g dX8_digestOf_137 0 rfl rfl ?_
                                refine v_iload_n g dX8_digestOf_140 3 rfl 0 rfl ?_
                                refine v_iconst g dX8_digestOf_141 (v := nI 4) (by decide +kernel) ?_
                                refine v_idivN g dX8_digestOf_142 (by omega) (by omega) (by omega) ?_
                                refine v_laldM g 3 rfl (by omega) (by decide) dX8_digestOf_143 ?_
                                refine v_bipush g dX8_digestOf_144 (v := nI 24) (by decide +kernel) ?_
                                refine v_bipush g dX8_digestOf_146 (v := nI 8) (by decide +kernel) ?_
                                refine v_iload_n g dX8_digestOf_148 3 rfl 0 rfl ?_
                                refine v_iconst g dX8_digestOf_149 (v := nI 4) (by decide +kernel) ?_
                                refine v_iremN g dX8_digestOf_150 (by omega) (by omega) (by omega) ?_
                                refine v_imulN g dX8_digestOf_151 ?_
                                refine v_isubN g dX8_digestOf_152 (by omega) ?_
                                refine v_lshrQ g (by omega) dX8_digestOf_153 ?_
                                refine v_ldc2 g dX8_digestOf_154 kl_X8_134 ?_
                                refine v_landB g dX8_digestOf_157 ?_
                                refine v_l2iN g dX8_digestOf_158 ?_
                                obtain ⟨t16, ht16⟩ : ∃ z : Nat → By, z = va_up sm i (((hb (i / 4)) >>> (24 - (8 * (i % 4)))).setWidth 8) := ⟨_, rfl⟩
                                refine v_iastY g ((((hb (i / 4)) >>> (24 - (8 * (i % 4)))).setWidth 8)) rfl t16 ht16 7 [(a0, .inr (8, [.int (nI v_a0_thrown), .ref a0_tape, .int (nI v_a0_taped), .ref a0_out, .int (nI v_a0_outs), .ref a0_slots, .ref a0_kept, .ref a0_phase, .ref a0_secret, .ref a0_key, .ref a0_hide, .ref a0_iv, .ref a0_begin, .ref a0_each, .ref a0_root, .ref a0_power, .ref a0_work, .ref a0_w, .ref a0_h, .ref a0_state, .ref a0_sum, .ref a0_pad, .ref a0_text, .int (nI v_a0_texts), .ref a0_info, .int (nI v_a0_infos), .ref a0_made, .ref a0_blockKey, .ref a0_nonce, .ref a0_x, .ref a0_first, .ref a0_block, .ref a0_a, .ref a0_r, .ref a0_product, .ref a0_tag, .ref a0_sealed])), (a0_work, aY C.D 2400 wb), (a0_w, aL C.D 64 wv), (a0_h, aM C.D 8 hb), (a0_state, aM C.D 8 sv), (a0_each, aM C.D 64 t_a0_each), (a0_begin, aM C.D 8 t_a0_begin), (a0_sum, aY C.D 32 t16)] rfl (by omega) (by decide) dX8_digestOf_159 rfl ?_
                                refine v_iincN g 1 [(3, .int (nI (i + 1))), (2, .int (nI ((((p1 + 8) / 64) * 64) + 64))), (0, .ref a0), (1, .int (nI p1))] dX8_digestOf_160 0 rfl (by decide +kernel) (by decide) rfl ?_
                                refine v_goto g 125 dX8_digestOf_163 (by decide) ?_
                                exact ih t16 (up_lt (m := i) hv0 (by rw [hd _ (by omega)]; rfl) ht16)
                            · skip
                              intro sm hv0
                              refine v_iload_n g dX8_digestOf_125 3 rfl 0 rfl ?_
                              refine v_bipush g dX8_digestOf_126 (v := nI 32) (by decide +kernel) ?_
                              refine v_icmp_geN g 166 dX8_digestOf_128 (by decide) (by omega) (by omega) (fun h17 => ?_) (fun h17 => ?_)
                              · skip
                                exact v_ret g R dX8_digestOf_166 (by decide) (by decide) ⟨_, _, _, _, sm, rfl, rfl, hv0⟩
                              · skip
                                exact absurd h17 (by omega)
                          exact L125_14 0 (by omega) t_a0_sum (fun j hj => absurd hj (by omega))
                        · skip
                          exact absurd h14 (by omega)
                    exact L107_11 0 (by omega) t_a0_w ha t_a0_state hh
                  · skip
                    exact absurd h11 (by omega)
              exact L81_8 0 (by omega) t_a0_h (fun j hj => absurd hj (by omega))
            · skip
              exact absurd h8 (by omega)
        exact L45_5 0 (by omega) t5 (fun j hj => hz j (by omega)) (fun j g1 g2 => absurd g1 (by omega))
      · skip
        exact absurd h4 (by omega)
  exact L16_0 0 (by omega) t_a0_work (fun _ _ => rfl) (fun j g1 g2 => absurd g1 (by omega))
