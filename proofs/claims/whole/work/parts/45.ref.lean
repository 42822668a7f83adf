theorem dX8_stretchTo_0 : decode cX8_stretchTo 0 = .ok (.iconst 0, 1) := by decide +kernel
theorem dX8_stretchTo_1 : decode cX8_stretchTo 1 = .ok (.istore_n 2, 1) := by decide +kernel
theorem dX8_stretchTo_2 : decode cX8_stretchTo 2 = .ok (.iload_n 2, 1) := by decide +kernel
theorem dX8_stretchTo_3 : decode cX8_stretchTo 3 = .ok (.iload_n 1, 1) := by decide +kernel
theorem dX8_stretchTo_4 : decode cX8_stretchTo 4 = .ok (.if_icmp .ge 104, 3) := by decide +kernel
theorem dX8_stretchTo_7 : decode cX8_stretchTo 7 = .ok (.iload_n 2, 1) := by decide +kernel
theorem dX8_stretchTo_8 : decode cX8_stretchTo 8 = .ok (.bipush 32, 2) := by decide +kernel
theorem dX8_stretchTo_10 : decode cX8_stretchTo 10 = .ok (.irem, 1) := by decide +kernel
theorem dX8_stretchTo_11 : decode cX8_stretchTo 11 = .ok (.ifCond .ne 76, 3) := by decide +kernel
theorem dX8_stretchTo_14 : decode cX8_stretchTo 14 = .ok (.aload_n 0, 1) := by decide +kernel
theorem dX8_stretchTo_15 : decode cX8_stretchTo 15 = .ok (.iconst 0, 1) := by decide +kernel
theorem dX8_stretchTo_16 : decode cX8_stretchTo 16 = .ok (.putfield 145, 3) := by decide +kernel
theorem dX8_stretchTo_19 : decode cX8_stretchTo 19 = .ok (.iconst 0, 1) := by decide +kernel
theorem dX8_stretchTo_20 : decode cX8_stretchTo 20 = .ok (.istore_n 3, 1) := by decide +kernel
theorem dX8_stretchTo_21 : decode cX8_stretchTo 21 = .ok (.iload_n 2, 1) := by decide +kernel
theorem dX8_stretchTo_22 : decode cX8_stretchTo 22 = .ok (.ifCond .le 25, 3) := by decide +kernel
theorem dX8_stretchTo_25 : decode cX8_stretchTo 25 = .ok (.iload_n 3, 1) := by decide +kernel
theorem dX8_stretchTo_26 : decode cX8_stretchTo 26 = .ok (.bipush 32, 2) := by decide +kernel
theorem dX8_stretchTo_28 : decode cX8_stretchTo 28 = .ok (.if_icmp .ge 19, 3) := by decide +kernel
theorem dX8_stretchTo_31 : decode cX8_stretchTo 31 = .ok (.aload_n 0, 1) := by decide +kernel
theorem dX8_stretchTo_32 : decode cX8_stretchTo 32 = .ok (.aload_n 0, 1) := by decide +kernel
theorem dX8_stretchTo_33 : decode cX8_stretchTo 33 = .ok (.getfield 62, 3) := by decide +kernel
theorem dX8_stretchTo_36 : decode cX8_stretchTo 36 = .ok (.iload_n 3, 1) := by decide +kernel
theorem dX8_stretchTo_37 : decode cX8_stretchTo 37 = .ok (.iaload, 1) := by decide +kernel
theorem dX8_stretchTo_38 : decode cX8_stretchTo 38 = .ok (.invokevirtual 148, 3) := by decide +kernel
theorem dX8_stretchTo_41 : decode cX8_stretchTo 41 = .ok (.iinc 3 1, 3) := by decide +kernel
theorem dX8_stretchTo_44 : decode cX8_stretchTo 44 = .ok (.goto (-23), 3) := by decide +kernel
theorem dX8_stretchTo_47 : decode cX8_stretchTo 47 = .ok (.iconst 0, 1) := by decide +kernel
theorem dX8_stretchTo_48 : decode cX8_stretchTo 48 = .ok (.istore_n 3, 1) := by decide +kernel
theorem dX8_stretchTo_49 : decode cX8_stretchTo 49 = .ok (.iload_n 3, 1) := by decide +kernel
theorem dX8_stretchTo_50 : decode cX8_stretchTo 50 = .ok (.aload_n 0, 1) := by decide +kernel
theorem dX8_stretchTo_51 : decode cX8_stretchTo 51 = .ok (.getfield 151, 3) := by decide +kernel
theorem dX8_stretchTo_54 : decode cX8_stretchTo 54 = .ok (.if_icmp .ge 19, 3) := by decide +kernel
theorem dX8_stretchTo_57 : decode cX8_stretchTo 57 = .ok (.aload_n 0, 1) := by decide +kernel
theorem dX8_stretchTo_58 : decode cX8_stretchTo 58 = .ok (.aload_n 0, 1) := by decide +kernel
theorem dX8_stretchTo_59 : decode cX8_stretchTo 59 = .ok (.getfield 71, 3) := by decide +kernel
theorem dX8_stretchTo_62 : decode cX8_stretchTo 62 = .ok (.iload_n 3, 1) := by decide +kernel
theorem dX8_stretchTo_63 : decode cX8_stretchTo 63 = .ok (.iaload, 1) := by decide +kernel
theorem dX8_stretchTo_64 : decode cX8_stretchTo 64 = .ok (.invokevirtual 148, 3) := by decide +kernel
theorem dX8_stretchTo_67 : decode cX8_stretchTo 67 = .ok (.iinc 3 1, 3) := by decide +kernel
theorem dX8_stretchTo_70 : decode cX8_stretchTo 70 = .ok (.goto (-21), 3) := by decide +kernel
theorem dX8_stretchTo_73 : decode cX8_stretchTo 73 = .ok (.aload_n 0, 1) := by decide +kernel
theorem dX8_stretchTo_74 : decode cX8_stretchTo 74 = .ok (.iload_n 2, 1) := by decide +kernel
theorem dX8_stretchTo_75 : decode cX8_stretchTo 75 = .ok (.bipush 32, 2) := by decide +kernel
theorem dX8_stretchTo_77 : decode cX8_stretchTo 77 = .ok (.idiv, 1) := by decide +kernel
theorem dX8_stretchTo_78 : decode cX8_stretchTo 78 = .ok (.iconst 1, 1) := by decide +kernel
theorem dX8_stretchTo_79 : decode cX8_stretchTo 79 = .ok (.iadd, 1) := by decide +kernel
theorem dX8_stretchTo_80 : decode cX8_stretchTo 80 = .ok (.invokevirtual 148, 3) := by decide +kernel
theorem dX8_stretchTo_83 : decode cX8_stretchTo 83 = .ok (.aload_n 0, 1) := by decide +kernel
theorem dX8_stretchTo_84 : decode cX8_stretchTo 84 = .ok (.invokevirtual 154, 3) := by decide +kernel
theorem dX8_stretchTo_87 : decode cX8_stretchTo 87 = .ok (.aload_n 0, 1) := by decide +kernel
theorem dX8_stretchTo_88 : decode cX8_stretchTo 88 = .ok (.getfield 74, 3) := by decide +kernel
theorem dX8_stretchTo_91 : decode cX8_stretchTo 91 = .ok (.iload_n 2, 1) := by decide +kernel
theorem dX8_stretchTo_92 : decode cX8_stretchTo 92 = .ok (.aload_n 0, 1) := by decide +kernel
theorem dX8_stretchTo_93 : decode cX8_stretchTo 93 = .ok (.getfield 62, 3) := by decide +kernel
theorem dX8_stretchTo_96 : decode cX8_stretchTo 96 = .ok (.iload_n 2, 1) := by decide +kernel
theorem dX8_stretchTo_97 : decode cX8_stretchTo 97 = .ok (.bipush 32, 2) := by decide +kernel
theorem dX8_stretchTo_99 : decode cX8_stretchTo 99 = .ok (.irem, 1) := by decide +kernel
theorem dX8_stretchTo_100 : decode cX8_stretchTo 100 = .ok (.iaload, 1) := by decide +kernel
theorem dX8_stretchTo_101 : decode cX8_stretchTo 101 = .ok (.iastore, 1) := by decide +kernel
theorem dX8_stretchTo_102 : decode cX8_stretchTo 102 = .ok (.iinc 2 1, 3) := by decide +kernel
theorem dX8_stretchTo_105 : decode cX8_stretchTo 105 = .ok (.goto (-103), 3) := by decide +kernel
theorem dX8_stretchTo_108 : decode cX8_stretchTo 108 = .ok (.return_, 1) := by decide +kernel
theorem dX8_words_0 : decode cX8_words 0 = .ok (.iload_n 0, 1) := by decide +kernel
theorem dX8_words_1 : decode cX8_words 1 = .ok (.tableswitch 95 0 9 #[55, 59, 63, 67, 71, 75, 79, 83, 87, 91], 55) := by decide +kernel
theorem dX8_words_56 : decode cX8_words 56 = .ok (.ldc2_w 157, 3) := by decide +kernel
theorem dX8_words_59 : decode cX8_words 59 = .ok (.lreturn, 1) := by decide +kernel
theorem dX8_words_60 : decode cX8_words 60 = .ok (.ldc2_w 159, 3) := by decide +kernel
theorem dX8_words_63 : decode cX8_words 63 = .ok (.lreturn, 1) := by decide +kernel
theorem dX8_words_64 : decode cX8_words 64 = .ok (.ldc2_w 161, 3) := by decide +kernel
theorem dX8_words_67 : decode cX8_words 67 = .ok (.lreturn, 1) := by decide +kernel
theorem dX8_words_68 : decode cX8_words 68 = .ok (.ldc2_w 163, 3) := by decide +kernel
theorem dX8_words_71 : decode cX8_words 71 = .ok (.lreturn, 1) := by decide +kernel
theorem dX8_words_72 : decode cX8_words 72 = .ok (.ldc2_w 165, 3) := by decide +kernel
theorem dX8_words_75 : decode cX8_words 75 = .ok (.lreturn, 1) := by decide +kernel
theorem dX8_words_76 : decode cX8_words 76 = .ok (.ldc2_w 167, 3) := by decide +kernel
theorem dX8_words_79 : decode cX8_words 79 = .ok (.lreturn, 1) := by decide +kernel
theorem dX8_words_80 : decode cX8_words 80 = .ok (.ldc2_w 169, 3) := by decide +kernel
theorem dX8_words_83 : decode cX8_words 83 = .ok (.lreturn, 1) := by decide +kernel
theorem dX8_words_84 : decode cX8_words 84 = .ok (.ldc2_w 171, 3) := by decide +kernel
theorem dX8_words_87 : decode cX8_words 87 = .ok (.lreturn, 1) := by decide +kernel
theorem dX8_words_88 : decode cX8_words 88 = .ok (.ldc2_w 173, 3) := by decide +kernel
theorem dX8_words_91 : decode cX8_words 91 = .ok (.lreturn, 1) := by decide +kernel
theorem dX8_words_92 : decode cX8_words 92 = .ok (.ldc2_w 175, 3) := by decide +kernel
theorem dX8_words_95 : decode cX8_words 95 = .ok (.lreturn, 1) := by decide +kernel
theorem dX8_words_96 : decode cX8_words 96 = .ok (.ldc2_w 177, 3) := by decide +kernel
theorem dX8_words_99 : decode cX8_words 99 = .ok (.lreturn, 1) := by decide +kernel
theorem dX8_labelled_0 : decode cX8_labelled 0 = .ok (.iload_n 1, 1) := by decide +kernel
theorem dX8_labelled_1 : decode cX8_labelled 1 = .ok (.invokestatic 179, 3) := by decide +kernel
theorem dX8_labelled_4 : decode cX8_labelled 4 = .ok (.lstore 4, 2) := by decide +kernel
theorem dX8_labelled_6 : decode cX8_labelled 6 = .ok (.iconst 0, 1) := by decide +kernel
theorem dX8_labelled_7 : decode cX8_labelled 7 = .ok (.istore 6, 2) := by decide +kernel
theorem dX8_labelled_9 : decode cX8_labelled 9 = .ok (.iload 6, 2) := by decide +kernel
theorem dX8_labelled_11 : decode cX8_labelled 11 = .ok (.bipush 8, 2) := by decide +kernel
theorem dX8_labelled_13 : decode cX8_labelled 13 = .ok (.if_icmp .ge 22, 3) := by decide +kernel
theorem dX8_labelled_16 : decode cX8_labelled 16 = .ok (.lload 4, 2) := by decide +kernel
theorem dX8_labelled_18 : decode cX8_labelled 18 = .ok (.bipush 8, 2) := by decide +kernel
theorem dX8_labelled_20 : decode cX8_labelled 20 = .ok (.iload 6, 2) := by decide +kernel
theorem dX8_labelled_22 : decode cX8_labelled 22 = .ok (.imul, 1) := by decide +kernel
theorem dX8_labelled_23 : decode cX8_labelled 23 = .ok (.lshr, 1) := by decide +kernel
theorem dX8_labelled_24 : decode cX8_labelled 24 = .ok (.lconst 0, 1) := by decide +kernel
theorem dX8_labelled_25 : decode cX8_labelled 25 = .ok (.lcmp, 1) := by decide +kernel
theorem dX8_labelled_26 : decode cX8_labelled 26 = .ok (.ifCond .le 9, 3) := by decide +kernel
theorem dX8_labelled_29 : decode cX8_labelled 29 = .ok (.iinc 6 1, 3) := by decide +kernel
theorem dX8_labelled_32 : decode cX8_labelled 32 = .ok (.goto (-23), 3) := by decide +kernel
theorem dX8_labelled_35 : decode cX8_labelled 35 = .ok (.aload_n 0, 1) := by decide +kernel
theorem dX8_labelled_36 : decode cX8_labelled 36 = .ok (.iconst 0, 1) := by decide +kernel
theorem dX8_labelled_37 : decode cX8_labelled 37 = .ok (.putfield 151, 3) := by decide +kernel
theorem dX8_labelled_40 : decode cX8_labelled 40 = .ok (.aload_n 0, 1) := by decide +kernel
theorem dX8_labelled_41 : decode cX8_labelled 41 = .ok (.iload_n 3, 1) := by decide +kernel
theorem dX8_labelled_42 : decode cX8_labelled 42 = .ok (.bipush 8, 2) := by decide +kernel
theorem dX8_labelled_44 : decode cX8_labelled 44 = .ok (.ishr, 1) := by decide +kernel
theorem dX8_labelled_45 : decode cX8_labelled 45 = .ok (.invokevirtual 183, 3) := by decide +kernel
theorem dX8_labelled_48 : decode cX8_labelled 48 = .ok (.aload_n 0, 1) := by decide +kernel
theorem dX8_labelled_49 : decode cX8_labelled 49 = .ok (.iload_n 3, 1) := by decide +kernel
theorem dX8_labelled_50 : decode cX8_labelled 50 = .ok (.sipush 255, 3) := by decide +kernel
theorem dX8_labelled_53 : decode cX8_labelled 53 = .ok (.iand, 1) := by decide +kernel
theorem dX8_labelled_54 : decode cX8_labelled 54 = .ok (.invokevirtual 183, 3) := by decide +kernel
theorem dX8_labelled_57 : decode cX8_labelled 57 = .ok (.aload_n 0, 1) := by decide +kernel
theorem dX8_labelled_58 : decode cX8_labelled 58 = .ok (.iload 6, 2) := by decide +kernel
theorem dX8_labelled_60 : decode cX8_labelled 60 = .ok (.iconst 3, 1) := by decide +kernel
theorem dX8_labelled_61 : decode cX8_labelled 61 = .ok (.iadd, 1) := by decide +kernel
theorem dX8_labelled_62 : decode cX8_labelled 62 = .ok (.invokevirtual 183, 3) := by decide +kernel
theorem dX8_labelled_65 : decode cX8_labelled 65 = .ok (.aload_n 0, 1) := by decide +kernel
theorem dX8_labelled_66 : decode cX8_labelled 66 = .ok (.bipush 118, 2) := by decide +kernel
theorem dX8_labelled_68 : decode cX8_labelled 68 = .ok (.invokevirtual 183, 3) := by decide +kernel
theorem dX8_labelled_71 : decode cX8_labelled 71 = .ok (.aload_n 0, 1) := by decide +kernel
theorem dX8_labelled_72 : decode cX8_labelled 72 = .ok (.bipush 49, 2) := by decide +kernel
theorem dX8_labelled_74 : decode cX8_labelled 74 = .ok (.invokevirtual 183, 3) := by decide +kernel
theorem dX8_labelled_77 : decode cX8_labelled 77 = .ok (.aload_n 0, 1) := by decide +kernel
theorem dX8_labelled_78 : decode cX8_labelled 78 = .ok (.bipush 32, 2) := by decide +kernel
theorem dX8_labelled_80 : decode cX8_labelled 80 = .ok (.invokevirtual 183, 3) := by decide +kernel
theorem dX8_labelled_83 : decode cX8_labelled 83 = .ok (.iload 6, 2) := by decide +kernel
theorem dX8_labelled_85 : decode cX8_labelled 85 = .ok (.iconst 1, 1) := by decide +kernel
theorem dX8_labelled_86 : decode cX8_labelled 86 = .ok (.isub, 1) := by decide +kernel
theorem dX8_labelled_87 : decode cX8_labelled 87 = .ok (.istore 7, 2) := by decide +kernel
theorem dX8_labelled_89 : decode cX8_labelled 89 = .ok (.iload 7, 2) := by decide +kernel
theorem dX8_labelled_91 : decode cX8_labelled 91 = .ok (.ifCond .lt 26, 3) := by decide +kernel
theorem dX8_labelled_94 : decode cX8_labelled 94 = .ok (.aload_n 0, 1) := by decide +kernel
theorem dX8_labelled_95 : decode cX8_labelled 95 = .ok (.lload 4, 2) := by decide +kernel
theorem dX8_labelled_97 : decode cX8_labelled 97 = .ok (.bipush 8, 2) := by decide +kernel
theorem dX8_labelled_99 : decode cX8_labelled 99 = .ok (.iload 7, 2) := by decide +kernel
theorem dX8_labelled_101 : decode cX8_labelled 101 = .ok (.imul, 1) := by decide +kernel
theorem dX8_labelled_102 : decode cX8_labelled 102 = .ok (.lshr, 1) := by decide +kernel
theorem dX8_labelled_103 : decode cX8_labelled 103 = .ok (.ldc2_w 134, 3) := by decide +kernel
theorem dX8_labelled_106 : decode cX8_labelled 106 = .ok (.land, 1) := by decide +kernel
theorem dX8_labelled_107 : decode cX8_labelled 107 = .ok (.l2i, 1) := by decide +kernel
theorem dX8_labelled_108 : decode cX8_labelled 108 = .ok (.invokevirtual 183, 3) := by decide +kernel
theorem dX8_labelled_111 : decode cX8_labelled 111 = .ok (.iinc 7 (-1), 3) := by decide +kernel
theorem dX8_labelled_114 : decode cX8_labelled 114 = .ok (.goto (-25), 3) := by decide +kernel
theorem dX8_labelled_117 : decode cX8_labelled 117 = .ok (.aload_n 0, 1) := by decide +kernel
theorem dX8_labelled_118 : decode cX8_labelled 118 = .ok (.iload_n 2, 1) := by decide +kernel
theorem dX8_labelled_119 : decode cX8_labelled 119 = .ok (.invokevirtual 183, 3) := by decide +kernel
theorem dX8_labelled_122 : decode cX8_labelled 122 = .ok (.iconst 0, 1) := by decide +kernel
theorem dX8_labelled_123 : decode cX8_labelled 123 = .ok (.istore 7, 2) := by decide +kernel
theorem dX8_labelled_125 : decode cX8_labelled 125 = .ok (.iload 7, 2) := by decide +kernel
theorem dX8_labelled_127 : decode cX8_labelled 127 = .ok (.iload_n 2, 1) := by decide +kernel
theorem dX8_labelled_128 : decode cX8_labelled 128 = .ok (.if_icmp .ge 20, 3) := by decide +kernel
theorem dX8_labelled_131 : decode cX8_labelled 131 = .ok (.aload_n 0, 1) := by decide +kernel
theorem dX8_labelled_132 : decode cX8_labelled 132 = .ok (.aload_n 0, 1) := by decide +kernel
theorem dX8_labelled_133 : decode cX8_labelled 133 = .ok (.getfield 7, 3) := by decide +kernel
theorem dX8_labelled_136 : decode cX8_labelled 136 = .ok (.iload 7, 2) := by decide +kernel
theorem dX8_labelled_138 : decode cX8_labelled 138 = .ok (.iaload, 1) := by decide +kernel
theorem dX8_labelled_139 : decode cX8_labelled 139 = .ok (.invokevirtual 183, 3) := by decide +kernel
theorem dX8_labelled_142 : decode cX8_labelled 142 = .ok (.iinc 7 1, 3) := by decide +kernel
theorem dX8_labelled_145 : decode cX8_labelled 145 = .ok (.goto (-20), 3) := by decide +kernel
theorem dX8_labelled_148 : decode cX8_labelled 148 = .ok (.return_, 1) := by decide +kernel
set_option maxHeartbeats 4000000 in
set_option maxRecDepth 100000 in
theorem c_R_str (l : Launch) (D : va_G) (a0 : Nat) (p1 : Nat) (v_a0_thrown : Nat) (a0_tape : Nat) (v_a0_taped : Nat) (a0_out : Nat) (v_a0_outs : Nat) (a0_slots : Nat) (a0_kept : Nat) (a0_phase : Nat) (a0_secret : Nat) (a0_key : Nat) (a0_hide : Nat) (a0_iv : Nat) (a0_begin : Nat) (a0_each : Nat) (a0_root : Nat) (a0_power : Nat) (a0_work : Nat) (a0_w : Nat) (a0_h : Nat) (a0_state : Nat) (a0_sum : Nat) (a0_pad : Nat) (a0_text : Nat) (v_a0_texts : Nat) (a0_info : Nat) (v_a0_infos : Nat) (a0_made : Nat) (a0_blockKey : Nat) (a0_nonce : Nat) (a0_x : Nat) (a0_first : Nat) (a0_block : Nat) (a0_a : Nat) (a0_r : Nat) (a0_product : Nat) (a0_tag : Nat) (a0_sealed : Nat) (t_a0_work : Nat → By) (t_a0_w : Nat → Nat) (t_a0_h : Nat → Wd) (t_a0_state : Nat → Wd) (t_a0_each : Nat → Wd) (t_a0_begin : Nat → Wd) (t_a0_sum : Nat → By) (t_a0_pad : Nat → By) (t_a0_text : Nat → By) (t_a0_info : Nat → By) (t_a0_made : Nat → By)  (h1 : p1 ≤ 1024) (h2 : v_a0_infos ≤ 2100) (he : ∀ j, j < 64 → t_a0_each j = shK j) (hbg : ∀ j, j < 8 → t_a0_begin j = shI j) : vM l D yX8_stretchTo cX8_stretchTo 4 none { frames := 4, cells := 0, slots := 0, locals := 105 } [.ref a0, .int (nI p1)] [(a0, .inr (8, [.int (nI v_a0_thrown), .ref a0_tape, .int (nI v_a0_taped), .ref a0_out, .int (nI v_a0_outs), .ref a0_slots, .ref a0_kept, .ref a0_phase, .ref a0_secret, .ref a0_key, .ref a0_hide, .ref a0_iv, .ref a0_begin, .ref a0_each, .ref a0_root, .ref a0_power, .ref a0_work, .ref a0_w, .ref a0_h, .ref a0_state, .ref a0_sum, .ref a0_pad, .ref a0_text, .int (nI v_a0_texts), .ref a0_info, .int (nI v_a0_infos), .ref a0_made, .ref a0_blockKey, .ref a0_nonce, .ref a0_x, .ref a0_first, .ref a0_block, .ref a0_a, .ref a0_r, .ref a0_product, .ref a0_tag, .ref a0_sealed])), (a0_work, aY D 2400 t_a0_work), (a0_w, aL D 64 t_a0_w), (a0_h, aM D 8 t_a0_h), (a0_state, aM D 8 t_a0_state), (a0_each, aM D 64 t_a0_each), (a0_begin, aM D 8 t_a0_begin), (a0_sum, aY D 32 t_a0_sum), (a0_pad, aY D 64 t_a0_pad), (a0_text, aY D 2400 t_a0_text), (a0_info, aY D 2400 t_a0_info), (a0_made, aY D 1024 t_a0_made)] (fun r wo => ∃ (wk : Nat → By) (w1 : Nat → Nat) (th : Nat → Wd) (s1 : Nat → Wd) (su : Nat → By) (tx : Nat → By) (tn : Nat) (md : Nat → By), r = none ∧ wo = [(a0, .inr (8, [.int (nI v_a0_thrown), .ref a0_tape, .int (nI v_a0_taped), .ref a0_out, .int (nI v_a0_outs), .ref a0_slots, .ref a0_kept, .ref a0_phase, .ref a0_secret, .ref a0_key, .ref a0_hide, .ref a0_iv, .ref a0_begin, .ref a0_each, .ref a0_root, .ref a0_power, .ref a0_work, .ref a0_w, .ref a0_h, .ref a0_state, .ref a0_sum, .ref a0_pad, .ref a0_text, .int (nI tn), .ref a0_info, .int (nI v_a0_infos), .ref a0_made, .ref a0_blockKey, .ref a0_nonce, .ref a0_x, .ref a0_first, .ref a0_block, .ref a0_a, .ref a0_r, .ref a0_product, .ref a0_tag, .ref a0_sealed])), (a0_work, aY D 2400 wk), (a0_w, aL D 64 w1), (a0_h, aM D 8 th), (a0_state, aM D 8 s1), (a0_each, aM D 64 t_a0_each), (a0_begin, aM D 8 t_a0_begin), (a0_sum, aY D 32 su), (a0_pad, aY D 64 t_a0_pad), (a0_text, aY D 2400 tx), (a0_info, aY D 2400 t_a0_info), (a0_made, aY D 1024 md)] ∧ (∀ j, j < p1 → md j = stT t_a0_pad t_a0_info v_a0_infos (j / 32 + 1) (j % 32))) := by
  refine vM.of (by decide) (Nat.le_of_ble_eq_true rfl) (fun C hCl hCD g R => ?_)
  subst hCl; subst hCD
  show VJ C 0 0 0 [(0, .ref a0), (1, .int (nI p1))] [] [(a0, .inr (8, [.int (nI v_a0_thrown), .ref a0_tape, .int (nI v_a0_taped), .ref a0_out, .int (nI v_a0_outs), .ref a0_slots, .ref a0_kept, .ref a0_phase, .ref a0_secret, .ref a0_key, .ref a0_hide, .ref a0_iv, .ref a0_begin, .ref a0_each, .ref a0_root, .ref a0_power, .ref a0_work, .ref a0_w, .ref a0_h, .ref a0_state, .ref a0_sum, .ref a0_pad, .ref a0_text, .int (nI v_a0_texts), .ref a0_info, .int (nI v_a0_infos), .ref a0_made, .ref a0_blockKey, .ref a0_nonce, .ref a0_x, .ref a0_first, .ref a0_block, .ref a0_a, .ref a0_r, .ref a0_product, .ref a0_tag, .ref a0_sealed])), (a0_work, aY C.D 2400 t_a0_work), (a0_w, aL C.D 64 t_a0_w), (a0_h, aM C.D 8 t_a0_h), (a0_state, aM C.D 8 t_a0_state), (a0_each, aM C.D 64 t_a0_each), (a0_begin, aM C.D 8 t_a0_begin), (a0_sum, aY C.D 32 t_a0_sum), (a0_pad, aY C.D 64 t_a0_pad), (a0_text, aY C.D 2400 t_a0_text), (a0_info, aY C.D 2400 t_a0_info), (a0_made, aY C.D 1024 t_a0_made)]
  refine v_iconst g dX8_stretchTo_0 (v := nI 0) (by decide +kernel) ?_
  refine v_istore_n g [(2, .int (nI 0)), (0, .ref a0), (1, .int (nI p1))] dX8_stretchTo_1 2 rfl (by decide) rfl ?_
  have L2_0 : ∀ k : Nat, k ≤ p1 → ∀ (wk : Nat → By) (w1 : Nat → Nat) (th : Nat → Wd) (s1 : Nat → Wd) (su : Nat → By) (tx : Nat → By) (tn : Nat) (md : Nat → By), (∀ j, j < k → md j = stT t_a0_pad t_a0_info v_a0_infos (j / 32 + 1) (j % 32)) → (0 < k → ∀ j, j < 32 → su j = stT t_a0_pad t_a0_info v_a0_infos ((k - 1) / 32 + 1) j) → VJ C 0 0 2 [(2, .int (nI k)), (0, .ref a0), (1, .int (nI p1))] [] [(a0, .inr (8, [.int (nI v_a0_thrown), .ref a0_tape, .int (nI v_a0_taped), .ref a0_out, .int (nI v_a0_outs), .ref a0_slots, .ref a0_kept, .ref a0_phase, .ref a0_secret, .ref a0_key, .ref a0_hide, .ref a0_iv, .ref a0_begin, .ref a0_each, .ref a0_root, .ref a0_power, .ref a0_work, .ref a0_w, .ref a0_h, .ref a0_state, .ref a0_sum, .ref a0_pad, .ref a0_text, .int (nI tn), .ref a0_info, .int (nI v_a0_infos), .ref a0_made, .ref a0_blockKey, .ref a0_nonce, .ref a0_x, .ref a0_first, .ref a0_block, .ref a0_a, .ref a0_r, .ref a0_product, .ref a0_tag, .ref a0_sealed])), (a0_work, aY C.D 2400 wk), (a0_w, aL C.D 64 w1), (a0_h, aM C.D 8 th), (a0_state, aM C.D 8 s1), (a0_each, aM C.D 64 t_a0_each), (a0_begin, aM C.D 8 t_a0_begin), (a0_sum, aY C.D 32 su), (a0_pad, aY C.D 64 t_a0_pad), (a0_text, aY C.D 2400 tx), (a0_info, aY C.D 2400 t_a0_info), (a0_made, aY C.D 1024 md)] := by
    refine v_for (p1) ?_ ?_
    · skip
      intro k hik ih wk w1 th s1 su tx tn md hv0 hv1
      refine v_iload_n g dX8_stretchTo_2 2 rfl 0 rfl ?_
      refine v_iload_n g dX8_stretchTo_3 1 rfl 2 rfl ?_
      refine v_icmp_geN g 108 dX8_stretchTo_4 (by decide) (by omega) (by omega) (fun h3 => ?_) (fun h3 => ?_)
      · skip
        exact absurd h3 (by omega)
      · skip
        have J87 : ∀ (wkb : Nat → By) (w1b : Nat → Nat) (thb : Nat → Wd) (s1b : Nat → Wd) (sub : Nat → By) (txb : Nat → By) (tnb : Nat), (∀ j, j < 32 → sub j = stT t_a0_pad t_a0_info v_a0_infos (k / 32 + 1) j) → VJ C 0 0 87 [(2, .int (nI k)), (0, .ref a0), (1, .int (nI p1))] [] [(a0, .inr (8, [.int (nI v_a0_thrown), .ref a0_tape, .int (nI v_a0_taped), .ref a0_out, .int (nI v_a0_outs), .ref a0_slots, .ref a0_kept, .ref a0_phase, .ref a0_secret, .ref a0_key, .ref a0_hide, .ref a0_iv, .ref a0_begin, .ref a0_each, .ref a0_root, .ref a0_power, .ref a0_work, .ref a0_w, .ref a0_h, .ref a0_state, .ref a0_sum, .ref a0_pad, .ref a0_text, .int (nI tnb), .ref a0_info, .int (nI v_a0_infos), .ref a0_made, .ref a0_blockKey, .ref a0_nonce, .ref a0_x, .ref a0_first, .ref a0_block, .ref a0_a, .ref a0_r, .ref a0_product, .ref a0_tag, .ref a0_sealed])), (a0_work, aY C.D 2400 wkb), (a0_w, aL C.D 64 w1b), (a0_h, aM C.D 8 thb), (a0_state, aM C.D 8 s1b), (a0_each, aM C.D 64 t_a0_each), (a0_begin, aM C.D 8 t_a0_begin), (a0_sum, aY C.D 32 sub), (a0_pad, aY C.D 64 t_a0_pad), (a0_text, aY C.D 2400 txb), (a0_info, aY C.D 2400 t_a0_info), (a0_made, aY C.D 1024 md)] := by
          intro wkb w1b thb s1b sub txb tnb hj0
          refine v_aload_n g dX8_stretchTo_87 0 rfl 1 rfl ?_
          refine gf_X8_74 g dX8_stretchTo_88 0 rfl rfl ?_
          refine v_iload_n g dX8_stretchTo_91 2 rfl 0 rfl ?_
          refine v_aload_n g dX8_stretchTo_92 0 rfl 1 rfl ?_
          refine gf_X8_62 g dX8_stretchTo_93 0 rfl rfl ?_
          refine v_iload_n g dX8_stretchTo_96 2 rfl 0 rfl ?_
          refine v_bipush g dX8_stretchTo_97 (v := nI 32) (by decide +kernel) ?_
          refine v_iremN g dX8_stretchTo_99 (by omega) (by omega) (by omega) ?_
          refine v_ialdY g 7 rfl (by omega) (by decide) dX8_stretchTo_100 ?_
          obtain ⟨t4, ht4⟩ : ∃ z : Nat → By, z = va_up md k (sub (k % 32)) := ⟨_, rfl⟩
          refine v_iastY g ((sub (k % 32))) rfl t4 ht4 11 [(a0, .inr (8, [.int (nI v_a0_thrown), .ref a0_tape, .int (nI v_a0_taped), .ref a0_out, .int (nI v_a0_outs), .ref a0_slots, .ref a0_kept, .ref a0_phase, .ref a0_secret, .ref a0_key, .ref a0_hide, .ref a0_iv, .ref a0_begin, .ref a0_each, .ref a0_root, .ref a0_power, .ref a0_work, .ref a0_w, .ref a0_h, .ref a0_state, .ref a0_sum, .ref a0_pad, .ref a0_text, .int (nI tnb), .ref a0_info, .int (nI v_a0_infos), .ref a0_made, .ref a0_blockKey, .ref a0_nonce, .ref a0_x, .ref a0_first, .ref a0_block, .ref a0_a, .ref a0_r, .ref a0_product, .ref a0_tag, .ref a0_sealed])), (a0_work, aY C.D 2400 wkb), (a0_w, aL C.D 64 w1b), (a0_h, aM C.D 8 thb), (a0_state, aM C.D 8 s1b), (a0_each, aM C.D 64 t_a0_each), (a0_begin, aM C.D 8 t_a0_begin), (a0_sum, aY C.D 32 sub), (a0_pad, aY C.D 64 t_a0_pad), (a0_text, aY C.D 2400 txb), (a0_info, aY C.D 2400 t_a0_info), (a0_made, aY C.D 1024 t4)] rfl (by omega) (by decide) dX8_stretchTo_101 rfl ?_
          refine v_iincN g 1 [(2, .int (nI (k + 1))), (0, .ref a0), (1, .int (nI p1))] dX8_stretchTo_102 0 rfl (by decide +kernel) (by decide) rfl ?_
          refine v_goto g 2 dX8_stretchTo_105 (by decide) ?_
          exact ih wkb w1b thb s1b sub txb tnb t4 (up_lt (m := k) hv0 (hj0 _ (by omega)) ht4) (fun _ => by rw [show (k + 1 - 1) / 32 = k / 32 by omega]; exact hj0)
        refine v_iload_n g dX8_stretchTo_7 2 rfl 0 rfl ?_
        refine v_bipush g dX8_stretchTo_8 (v := nI 32) (by decide +kernel) ?_
        refine v_iremN g dX8_stretchTo_10 (by omega) (by omega) (by omega) ?_
        refine v_if_neN g 87 dX8_stretchTo_11 (by decide) (by omega) (fun h5 => ?_) (fun h5 => ?_)
        · skip
          exact J87 wk w1 th s1 su tx tn (fun j hj => by rw [show k / 32 = (k - 1) / 32 by omega]; exact hv1 (by omega) j hj)
        · skip
          refine v_aload_n g dX8_stretchTo_14 0 rfl 1 rfl ?_
          refine v_iconst g dX8_stretchTo_15 (v := nI 0) (by decide +kernel) ?_
          refine pf_X8_145 g dX8_stretchTo_16 0 [(a0, .inr (8, [.int (nI v_a0_thrown), .ref a0_tape, .int (nI v_a0_taped), .ref a0_out, .int (nI v_a0_outs), .ref a0_slots, .ref a0_kept, .ref a0_phase, .ref a0_secret, .ref a0_key, .ref a0_hide, .ref a0_iv, .ref a0_begin, .ref a0_each, .ref a0_root, .ref a0_power, .ref a0_work, .ref a0_w, .ref a0_h, .ref a0_state, .ref a0_sum, .ref a0_pad, .ref a0_text, .int (nI 0), .ref a0_info, .int (nI v_a0_infos), .ref a0_made, .ref a0_blockKey, .ref a0_nonce, .ref a0_x, .ref a0_first, .ref a0_block, .ref a0_a, .ref a0_r, .ref a0_product, .ref a0_tag, .ref a0_sealed])), (a0_work, aY C.D 2400 wk), (a0_w, aL C.D 64 w1), (a0_h, aM C.D 8 th), (a0_state, aM C.D 8 s1), (a0_each, aM C.D 64 t_a0_each), (a0_begin, aM C.D 8 t_a0_begin), (a0_sum, aY C.D 32 su), (a0_pad, aY C.D 64 t_a0_pad), (a0_text, aY C.D 2400 tx), (a0_info, aY C.D 2400 t_a0_info), (a0_made, aY C.D 1024 md)] rfl (Nat.le_of_ble_eq_true rfl) rfl ?_
          refine v_iconst g dX8_stretchTo_19 (v := nI 0) (by decide +kernel) ?_
          refine v_istore_n g [(3, .int (nI 0)), (2, .int (nI k)), (0, .ref a0), (1, .int (nI p1))] dX8_stretchTo_20 3 rfl (by decide) rfl ?_
          have J47 : ∀ (tc : Nat → By) (nc : Nat), (nc = st_l (k / 32)) → (∀ j, j < nc → tc j = stT t_a0_pad t_a0_info v_a0_infos (k / 32) j) → VJ C 0 0 47 [(2, .int (nI k)), (0, .ref a0), (1, .int (nI p1))] [] [(a0, .inr (8, [.int (nI v_a0_thrown), .ref a0_tape, .int (nI v_a0_taped), .ref a0_out, .int (nI v_a0_outs), .ref a0_slots, .ref a0_kept, .ref a0_phase, .ref a0_secret, .ref a0_key, .ref a0_hide, .ref a0_iv, .ref a0_begin, .ref a0_each, .ref a0_root, .ref a0_power, .ref a0_work, .ref a0_w, .ref a0_h, .ref a0_state, .ref a0_sum, .ref a0_pad, .ref a0_text, .int (nI nc), .ref a0_info, .int (nI v_a0_infos), .ref a0_made, .ref a0_blockKey, .ref a0_nonce, .ref a0_x, .ref a0_first, .ref a0_block, .ref a0_a, .ref a0_r, .ref a0_product, .ref a0_tag, .ref a0_sealed])), (a0_work, aY C.D 2400 wk), (a0_w, aL C.D 64 w1), (a0_h, aM C.D 8 th), (a0_state, aM C.D 8 s1), (a0_each, aM C.D 64 t_a0_each), (a0_begin, aM C.D 8 t_a0_begin), (a0_sum, aY C.D 32 su), (a0_pad, aY C.D 64 t_a0_pad), (a0_text, aY C.D 2400 tc), (a0_info, aY C.D 2400 t_a0_info), (a0_made, aY C.D 1024 md)] := by
            intro tc nc hj0 hj1
            refine v_iconst g dX8_stretchTo_47 (v := nI 0) (by decide +kernel) ?_
            refine v_istore_n g [(3, .int (nI 0)), (2, .int (nI k)), (0, .ref a0), (1, .int (nI p1))] dX8_stretchTo_48 3 rfl (by decide) rfl ?_
            have hle := st_le (k / 32)
            have L49_5 : ∀ i : Nat, i ≤ v_a0_infos → ∀ (td : Nat → By) (nd : Nat), (nd = st_l (k / 32) + i) → (∀ j, j < st_l (k / 32) + i → td j = cat (stT t_a0_pad t_a0_info v_a0_infos (k / 32)) (st_l (k / 32)) t_a0_info j) → VJ C 0 0 49 [(3, .int (nI i)), (2, .int (nI k)), (0, .ref a0), (1, .int (nI p1))] [] [(a0, .inr (8, [.int (nI v_a0_thrown), .ref a0_tape, .int (nI v_a0_taped), .ref a0_out, .int (nI v_a0_outs), .ref a0_slots, .ref a0_kept, .ref a0_phase, .ref a0_secret, .ref a0_key, .ref a0_hide, .ref a0_iv, .ref a0_begin, .ref a0_each, .ref a0_root, .ref a0_power, .ref a0_work, .ref a0_w, .ref a0_h, .ref a0_state, .ref a0_sum, .ref a0_pad, .ref a0_text, .int (nI nd), .ref a0_info, .int (nI v_a0_infos), .ref a0_made, .ref a0_blockKey, .ref a0_nonce, .ref a0_x, .ref a0_first, .ref a0_block, .ref a0_a, .ref a0_r, .ref a0_product, .ref a0_tag, .ref a0_sealed])), (a0_work, aY C.D 2400 wk), (a0_w, aL C.D 64 w1), (a0_h, aM C.D 8 th), (a0_state, aM C.D 8 s1), (a0_each, aM C.D 64 t_a0_each), (a0_begin, aM C.D 8 t_a0_begin), (a0_sum, aY C.D 32 su), (a0_pad, aY C.D 64 t_a0_pad), (a0_text, aY C.D 2400 td), (a0_info, aY C.D 2400 t_a0_info), (a0_made, aY C.D 1024 md)] := by
              refine v_for (v_a0_infos) ?_ ?_
              · skip
                intro i hii ix td nd hx0 hx1
                refine v_iload_n g dX8_stretchTo_49 3 rfl 0 rfl ?_
                refine v_aload_n g dX8_stretchTo_50 0 rfl 2 rfl ?_
                refine gf_X8_151 g dX8_stretchTo_51 0 rfl rfl ?_
                refine v_icmp_geN g 73 dX8_stretchTo_54 (by decide) (by omega) (by omega) (fun h6 => ?_) (fun h6 => ?_)
                · skip
                  exact absurd h6 (by omega)
                · skip
                  subst hx0
                  show VJ C 0 0 57 [(3, .int (nI i)), (2, .int (nI k)), (0, .ref a0), (1, .int (nI p1))] [] [(a0, .inr (8, [.int (nI v_a0_thrown), .ref a0_tape, .int (nI v_a0_taped), .ref a0_out, .int (nI v_a0_outs), .ref a0_slots, .ref a0_kept, .ref a0_phase, .ref a0_secret, .ref a0_key, .ref a0_hide, .ref a0_iv, .ref a0_begin, .ref a0_each, .ref a0_root, .ref a0_power, .ref a0_work, .ref a0_w, .ref a0_h, .ref a0_state, .ref a0_sum, .ref a0_pad, .ref a0_text, .int (nI (st_l (k / 32) + i)), .ref a0_info, .int (nI v_a0_infos), .ref a0_made, .ref a0_blockKey, .ref a0_nonce, .ref a0_x, .ref a0_first, .ref a0_block, .ref a0_a, .ref a0_r, .ref a0_product, .ref a0_tag, .ref a0_sealed])), (a0_work, aY C.D 2400 wk), (a0_w, aL C.D 64 w1), (a0_h, aM C.D 8 th), (a0_state, aM C.D 8 s1), (a0_each, aM C.D 64 t_a0_each), (a0_begin, aM C.D 8 t_a0_begin), (a0_sum, aY C.D 32 su), (a0_pad, aY C.D 64 t_a0_pad), (a0_text, aY C.D 2400 td), (a0_info, aY C.D 2400 t_a0_info), (a0_made, aY C.D 1024 md)]
                  refine v_aload_n g dX8_stretchTo_57 0 rfl 2 rfl ?_
                  refine v_aload_n g dX8_stretchTo_58 0 rfl 2 rfl ?_
                  refine gf_X8_71 g dX8_stretchTo_59 0 rfl rfl ?_
                  refine v_iload_n g dX8_stretchTo_62 3 rfl 0 rfl ?_
                  refine v_ialdY g 10 rfl (by omega) (by decide) dX8_stretchTo_63 ?_
                  refine v_callV (As := [.int (nI ((t_a0_info i).toNat))]) (rest := []) (wr := [(a0_work, aY C.D 2400 wk), (a0_w, aL C.D 64 w1), (a0_h, aM C.D 8 th), (a0_state, aM C.D 8 s1), (a0_each, aM C.D 64 t_a0_each), (a0_begin, aM C.D 8 t_a0_begin), (a0_sum, aY C.D 32 su), (a0_pad, aY C.D 64 t_a0_pad), (a0_info, aY C.D 2400 t_a0_info), (a0_made, aY C.D 1024 md)]) cw_X8_148 (hy_X8_put) g (c_R_put C.l C.D a0 ((t_a0_info i).toNat) v_a0_thrown a0_tape v_a0_taped a0_out v_a0_outs a0_slots a0_kept a0_phase a0_secret a0_key a0_hide a0_iv a0_begin a0_each a0_root a0_power a0_work a0_w a0_h a0_state a0_sum a0_pad a0_text (st_l (k / 32) + i) a0_info v_a0_infos a0_made a0_blockKey a0_nonce a0_x a0_first a0_block a0_a a0_r a0_product a0_tag a0_sealed td (t_a0_info i) (by omega) rfl) dX8_stretchTo_64 0 rfl rfl rfl (by decide) (by decide) (Nat.le_of_ble_eq_true rfl) [0, 9] [1, 2, 3, 4, 5, 6, 7, 8, 10, 11] rfl rfl (by decide) rfl (by decide) (by decide) _ rfl (fun r wo hp7 => ?_)
                  obtain ⟨rfl, rfl⟩ := hp7
                  refine v_perm [10, 0, 1, 2, 3, 4, 5, 6, 7, 11, 8, 9] [(a0, .inr (8, [.int (nI v_a0_thrown), .ref a0_tape, .int (nI v_a0_taped), .ref a0_out, .int (nI v_a0_outs), .ref a0_slots, .ref a0_kept, .ref a0_phase, .ref a0_secret, .ref a0_key, .ref a0_hide, .ref a0_iv, .ref a0_begin, .ref a0_each, .ref a0_root, .ref a0_power, .ref a0_work, .ref a0_w, .ref a0_h, .ref a0_state, .ref a0_sum, .ref a0_pad, .ref a0_text, .int (nI ((st_l (k / 32) + i) + 1)), .ref a0_info, .int (nI v_a0_infos), .ref a0_made, .ref a0_blockKey, .ref a0_nonce, .ref a0_x, .ref a0_first, .ref a0_block, .ref a0_a, .ref a0_r, .ref a0_product, .ref a0_tag, .ref a0_sealed])), (a0_work, aY C.D 2400 wk), (a0_w, aL C.D 64 w1), (a0_h, aM C.D 8 th), (a0_state, aM C.D 8 s1), (a0_each, aM C.D 64 t_a0_each), (a0_begin, aM C.D 8 t_a0_begin), (a0_sum, aY C.D 32 su), (a0_pad, aY C.D 64 t_a0_pad), (a0_text, aY C.D 2400 (va_up td (st_l (k / 32) + i) (t_a0_info i))), (a0_info, aY C.D 2400 t_a0_info), (a0_made, aY C.D 1024 md)] (by decide) rfl rfl ?_
                  show VJ C 0 0 67 [(3, .int (nI i)), (2, .int (nI k)), (0, .ref a0), (1, .int (nI p1))] [] [(a0, .inr (8, [.int (nI v_a0_thrown), .ref a0_tape, .int (nI v_a0_taped), .ref a0_out, .int (nI v_a0_outs), .ref a0_slots, .ref a0_kept, .ref a0_phase, .ref a0_secret, .ref a0_key, .ref a0_hide, .ref a0_iv, .ref a0_begin, .ref a0_each, .ref a0_root, .ref a0_power, .ref a0_work, .ref a0_w, .ref a0_h, .ref a0_state, .ref a0_sum, .ref a0_pad, .ref a0_text, .int (nI ((st_l (k / 32) + i) + 1)), .ref a0_info, .int (nI v_a0_infos), .ref a0_made, .ref a0_blockKey, .ref a0_nonce, .ref a0_x, .ref a0_first, .ref a0_block, .ref a0_a, .ref a0_r, .ref a0_product, .ref a0_tag, .ref a0_sealed])), (a0_work, aY C.D 2400 wk), (a0_w, aL C.D 64 w1), (a0_h, aM C.D 8 th), (a0_state, aM C.D 8 s1), (a0_each, aM C.D 64 t_a0_each), (a0_begin, aM C.D 8 t_a0_begin), (a0_sum, aY C.D 32 su), (a0_pad, aY C.D 64 t_a0_pad), (a0_text, aY C.D 2400 (va_up td (st_l (k / 32) + i) (t_a0_info i))), (a0_info, aY C.D 2400 t_a0_info), (a0_made, aY C.D 1024 md)]
                  obtain ⟨t8, ht8⟩ : ∃ z : Nat → By, z = va_up td (st_l (k / 32) + i) (t_a0_info i) := ⟨_, rfl⟩
                  rw [← ht8]
                  refine v_iincN g 1 [(3, .int (nI (i + 1))), (2, .int (nI k)), (0, .ref a0), (1, .int (nI p1))] dX8_stretchTo_67 0 rfl (by decide +kernel) (by decide) rfl ?_
                  refine v_goto g 49 dX8_stretchTo_70 (by decide) ?_
                  exact ix t8 ((st_l (k / 32) + i) + 1) (by omega) (up_lt (m := st_l (k / 32) + i) hx1 (cat_at _ _ _ _) ht8)
              · skip
                intro td nd hx0 hx1
                refine v_iload_n g dX8_stretchTo_49 3 rfl 0 rfl ?_
                refine v_aload_n g dX8_stretchTo_50 0 rfl 2 rfl ?_
                refine gf_X8_151 g dX8_stretchTo_51 0 rfl rfl ?_
                refine v_icmp_geN g 73 dX8_stretchTo_54 (by decide) (by omega) (by omega) (fun h9 => ?_) (fun h9 => ?_)
                · skip
                  subst hx0
                  show VJ C 0 0 73 [(3, .int (nI v_a0_infos)), (2, .int (nI k)), (0, .ref a0), (1, .int (nI p1))] [] [(a0, .inr (8, [.int (nI v_a0_thrown), .ref a0_tape, .int (nI v_a0_taped), .ref a0_out, .int (nI v_a0_outs), .ref a0_slots, .ref a0_kept, .ref a0_phase, .ref a0_secret, .ref a0_key, .ref a0_hide, .ref a0_iv, .ref a0_begin, .ref a0_each, .ref a0_root, .ref a0_power, .ref a0_work, .ref a0_w, .ref a0_h, .ref a0_state, .ref a0_sum, .ref a0_pad, .ref a0_text, .int (nI (st_l (k / 32) + v_a0_infos)), .ref a0_info, .int (nI v_a0_infos), .ref a0_made, .ref a0_blockKey, .ref a0_nonce, .ref a0_x, .ref a0_first, .ref a0_block, .ref a0_a, .ref a0_r, .ref a0_product, .ref a0_tag, .ref a0_sealed])), (a0_work, aY C.D 2400 wk), (a0_w, aL C.D 64 w1), (a0_h, aM C.D 8 th), (a0_state, aM C.D 8 s1), (a0_each, aM C.D 64 t_a0_each), (a0_begin, aM C.D 8 t_a0_begin), (a0_sum, aY C.D 32 su), (a0_pad, aY C.D 64 t_a0_pad), (a0_text, aY C.D 2400 td), (a0_info, aY C.D 2400 t_a0_info), (a0_made, aY C.D 1024 md)]
                  refine v_aload_n g dX8_stretchTo_73 0 rfl 2 rfl ?_
                  refine v_iload_n g dX8_stretchTo_74 2 rfl 1 rfl ?_
                  refine v_bipush g dX8_stretchTo_75 (v := nI 32) (by decide +kernel) ?_
                  refine v_idivN g dX8_stretchTo_77 (by omega) (by omega) (by omega) ?_
                  refine v_iconst g dX8_stretchTo_78 (v := nI 1) (by decide +kernel) ?_
                  refine v_iaddN g dX8_stretchTo_79 ?_
                  refine v_callV (As := [.int (nI ((k / 32) + 1))]) (rest := []) (wr := [(a0_work, aY C.D 2400 wk), (a0_w, aL C.D 64 w1), (a0_h, aM C.D 8 th), (a0_state, aM C.D 8 s1), (a0_each, aM C.D 64 t_a0_each), (a0_begin, aM C.D 8 t_a0_begin), (a0_sum, aY C.D 32 su), (a0_pad, aY C.D 64 t_a0_pad), (a0_info, aY C.D 2400 t_a0_info), (a0_made, aY C.D 1024 md)]) cw_X8_148 (hy_X8_put) g (c_R_put C.l C.D a0 ((k / 32) + 1) v_a0_thrown a0_tape v_a0_taped a0_out v_a0_outs a0_slots a0_kept a0_phase a0_secret a0_key a0_hide a0_iv a0_begin a0_each a0_root a0_power a0_work a0_w a0_h a0_state a0_sum a0_pad a0_text (st_l (k / 32) + v_a0_infos) a0_info v_a0_infos a0_made a0_blockKey a0_nonce a0_x a0_first a0_block a0_a a0_r a0_product a0_tag a0_sealed td (BitVec.ofNat 8 (k / 32 + 1)) (by omega) (by rw [BitVec.toNat_ofNat]; omega)) dX8_stretchTo_80 0 rfl rfl rfl (by decide) (by decide) (Nat.le_of_ble_eq_true rfl) [0, 9] [1, 2, 3, 4, 5, 6, 7, 8, 10, 11] rfl rfl (by decide) rfl (by decide) (by decide) _ rfl (fun r wo hp10 => ?_)
                  obtain ⟨rfl, rfl⟩ := hp10
                  refine v_perm [10, 0, 1, 2, 3, 4, 5, 6, 7, 11, 8, 9] [(a0, .inr (8, [.int (nI v_a0_thrown), .ref a0_tape, .int (nI v_a0_taped), .ref a0_out, .int (nI v_a0_outs), .ref a0_slots, .ref a0_kept, .ref a0_phase, .ref a0_secret, .ref a0_key, .ref a0_hide, .ref a0_iv, .ref a0_begin, .ref a0_each, .ref a0_root, .ref a0_power, .ref a0_work, .ref a0_w, .ref a0_h, .ref a0_state, .ref a0_sum, .ref a0_pad, .ref a0_text, .int (nI ((st_l (k / 32) + v_a0_infos) + 1)), .ref a0_info, .int (nI v_a0_infos), .ref a0_made, .ref a0_blockKey, .ref a0_nonce, .ref a0_x, .ref a0_first, .ref a0_block, .ref a0_a, .ref a0_r, .ref a0_product, .ref a0_tag, .ref a0_sealed])), (a0_work, aY C.D 2400 wk), (a0_w, aL C.D 64 w1), (a0_h, aM C.D 8 th), (a0_state, aM C.D 8 s1), (a0_each, aM C.D 64 t_a0_each), (a0_begin, aM C.D 8 t_a0_begin), (a0_sum, aY C.D 32 su), (a0_pad, aY C.D 64 t_a0_pad), (a0_text, aY C.D 2400 (va_up td (st_l (k / 32) + v_a0_infos) (BitVec.ofNat 8 (k / 32 + 1)))), (a0_info, aY C.D 2400 t_a0_info), (a0_made, aY C.D 1024 md)] (by decide) rfl rfl ?_
                  show VJ C 0 0 83 [(3, .int (nI v_a0_infos)), (2, .int (nI k)), (0, .ref a0), (1, .int (nI p1))] [] [(a0, .inr (8, [.int (nI v_a0_thrown), .ref a0_tape, .int (nI v_a0_taped), .ref a0_out, .int (nI v_a0_outs), .ref a0_slots, .ref a0_kept, .ref a0_phase, .ref a0_secret, .ref a0_key, .ref a0_hide, .ref a0_iv, .ref a0_begin, .ref a0_each, .ref a0_root, .ref a0_power, .ref a0_work, .ref a0_w, .ref a0_h, .ref a0_state, .ref a0_sum, .ref a0_pad, .ref a0_text, .int (nI ((st_l (k / 32) + v_a0_infos) + 1)), .ref a0_info, .int (nI v_a0_infos), .ref a0_made, .ref a0_blockKey, .ref a0_nonce, .ref a0_x, .ref a0_first, .ref a0_block, .ref a0_a, .ref a0_r, .ref a0_product, .ref a0_tag, .ref a0_sealed])), (a0_work, aY C.D 2400 wk), (a0_w, aL C.D 64 w1), (a0_h, aM C.D 8 th), (a0_state, aM C.D 8 s1), (a0_each, aM C.D 64 t_a0_each), (a0_begin, aM C.D 8 t_a0_begin), (a0_sum, aY C.D 32 su), (a0_pad, aY C.D 64 t_a0_pad), (a0_text, aY C.D 2400 (va_up td (st_l (k / 32) + v_a0_infos) (BitVec.ofNat 8 (k / 32 + 1)))), (a0_info, aY C.D 2400 t_a0_info), (a0_made, aY C.D 1024 md)]
                  obtain ⟨t11, ht11⟩ : ∃ z : Nat → By, z = va_up td (st_l (k / 32) + v_a0_infos) (BitVec.ofNat 8 (k / 32 + 1)) := ⟨_, rfl⟩
                  rw [← ht11]
                  have hT : ∀ j, j < st_l (k / 32) + v_a0_infos + 1 → t11 j = cat (cat (stT t_a0_pad t_a0_info v_a0_infos (k / 32)) (st_l (k / 32)) t_a0_info) (st_l (k / 32) + v_a0_infos) (fun _ => BitVec.ofNat 8 (k / 32 + 1)) j := up_lt (m := st_l (k / 32) + v_a0_infos) (fun j hj => (hx1 j hj).trans (cat_lo _ _ _ hj).symm) (cat_at _ _ _ 0) ht11
                  refine v_aload_n g dX8_stretchTo_83 0 rfl 2 rfl ?_
                  refine v_callV (As := []) (rest := []) (wr := [(a0_info, aY C.D 2400 t_a0_info), (a0_made, aY C.D 1024 md)]) cw_X8_154 (hy_X8_macOf) g (c_R_mac C.l C.D a0 v_a0_thrown a0_tape v_a0_taped a0_out v_a0_outs a0_slots a0_kept a0_phase a0_secret a0_key a0_hide a0_iv a0_begin a0_each a0_root a0_power a0_work a0_w a0_h a0_state a0_sum a0_pad a0_text ((st_l (k / 32) + v_a0_infos) + 1) a0_info v_a0_infos a0_made a0_blockKey a0_nonce a0_x a0_first a0_block a0_a a0_r a0_product a0_tag a0_sealed wk w1 th s1 t_a0_each t_a0_begin su t_a0_pad t11 (by omega) he hbg) dX8_stretchTo_84 0 rfl rfl rfl (by decide) (by decide) (Nat.le_of_ble_eq_true rfl) [0, 1, 2, 3, 4, 5, 6, 7, 8, 9] [10, 11] rfl rfl (by decide) rfl (by decide) (by decide) _ rfl (fun r wo hp12 => ?_)
                  obtain ⟨wz, w1z, thz, s1z, suz, rfl, rfl, hsu⟩ := hp12
                  refine v_perm [2, 3, 4, 5, 6, 7, 8, 9, 10, 11, 0, 1] [(a0, .inr (8, [.int (nI v_a0_thrown), .ref a0_tape, .int (nI v_a0_taped), .ref a0_out, .int (nI v_a0_outs), .ref a0_slots, .ref a0_kept, .ref a0_phase, .ref a0_secret, .ref a0_key, .ref a0_hide, .ref a0_iv, .ref a0_begin, .ref a0_each, .ref a0_root, .ref a0_power, .ref a0_work, .ref a0_w, .ref a0_h, .ref a0_state, .ref a0_sum, .ref a0_pad, .ref a0_text, .int (nI ((st_l (k / 32) + v_a0_infos) + 1)), .ref a0_info, .int (nI v_a0_infos), .ref a0_made, .ref a0_blockKey, .ref a0_nonce, .ref a0_x, .ref a0_first, .ref a0_block, .ref a0_a, .ref a0_r, .ref a0_product, .ref a0_tag, .ref a0_sealed])), (a0_work, aY C.D 2400 wz), (a0_w, aL C.D 64 w1z), (a0_h, aM C.D 8 thz), (a0_state, aM C.D 8 s1z), (a0_each, aM C.D 64 t_a0_each), (a0_begin, aM C.D 8 t_a0_begin), (a0_sum, aY C.D 32 suz), (a0_pad, aY C.D 64 t_a0_pad), (a0_text, aY C.D 2400 t11), (a0_info, aY C.D 2400 t_a0_info), (a0_made, aY C.D 1024 md)] (by decide) rfl rfl ?_
                  show VJ C 0 0 87 [(3, .int (nI v_a0_infos)), (2, .int (nI k)), (0, .ref a0), (1, .int (nI p1))] [] [(a0, .inr (8, [.int (nI v_a0_thrown), .ref a0_tape, .int (nI v_a0_taped), .ref a0_out, .int (nI v_a0_outs), .ref a0_slots, .ref a0_kept, .ref a0_phase, .ref a0_secret, .ref a0_key, .ref a0_hide, .ref a0_iv, .ref a0_begin, .ref a0_each, .ref a0_root, .ref a0_power, .ref a0_work, .ref a0_w, .ref a0_h, .ref a0_state, .ref a0_sum, .ref a0_pad, .ref a0_text, .int (nI ((st_l (k / 32) + v_a0_infos) + 1)), .ref a0_info, .int (nI v_a0_infos), .ref a0_made, .ref a0_blockKey, .ref a0_nonce, .ref a0_x, .ref a0_first, .ref a0_block, .ref a0_a, .ref a0_r, .ref a0_product, .ref a0_tag, .ref a0_sealed])), (a0_work, aY C.D 2400 wz), (a0_w, aL C.D 64 w1z), (a0_h, aM C.D 8 thz), (a0_state, aM C.D 8 s1z), (a0_each, aM C.D 64 t_a0_each), (a0_begin, aM C.D 8 t_a0_begin), (a0_sum, aY C.D 32 suz), (a0_pad, aY C.D 64 t_a0_pad), (a0_text, aY C.D 2400 t11), (a0_info, aY C.D 2400 t_a0_info), (a0_made, aY C.D 1024 md)]
                  refine v_lpick [1, 2, 3] [(2, .int (nI k)), (0, .ref a0), (1, .int (nI p1))] rfl ?_
                  exact J87 wz w1z thz s1z suz t11 ((st_l (k / 32) + v_a0_infos) + 1) (fun j hj => (hsu j hj).trans (congrFun (macP_congr (fun _ _ => rfl) hT) j))
                · skip
                  exact absurd h9 (by omega)
            exact L49_5 0 (by omega) tc nc hj0 (fun j hj => by rw [hj1 j (by omega)]; exact (cat_lo _ _ _ (by omega)).symm)
          rcases Nat.eq_zero_or_pos k with hk | hk
          · skip
            refine v_iload_n g dX8_stretchTo_21 2 rfl 1 rfl ?_
            refine v_if_leN g 47 dX8_stretchTo_22 (by decide) (by omega) (fun _ => ?_) (fun h => absurd h (by omega))
            refine v_lpick [1, 2, 3] [(2, .int (nI k)), (0, .ref a0), (1, .int (nI p1))] rfl ?_
            exact J47 tx 0 (st_l0 hk).symm (fun j hj => absurd hj (by omega))
          · skip
            have L21_32 : ∀ i : Nat, i ≤ 32 → ∀ (te : Nat → By) (ne : Nat), (ne = i) → (∀ j, j < i → te j = su j) → VJ C 0 0 21 [(3, .int (nI i)), (2, .int (nI k)), (0, .ref a0), (1, .int (nI p1))] [] [(a0, .inr (8, [.int (nI v_a0_thrown), .ref a0_tape, .int (nI v_a0_taped), .ref a0_out, .int (nI v_a0_outs), .ref a0_slots, .ref a0_kept, .ref a0_phase, .ref a0_secret, .ref a0_key, .ref a0_hide, .ref a0_iv, .ref a0_begin, .ref a0_each, .ref a0_root, .ref a0_power, .ref a0_work, .ref a0_w, .ref a0_h, .ref a0_state, .ref a0_sum, .ref a0_pad, .ref a0_text, .int (nI ne), .ref a0_info, .int (nI v_a0_infos), .ref a0_made, .ref a0_blockKey, .ref a0_nonce, .ref a0_x, .ref a0_first, .ref a0_block, .ref a0_a, .ref a0_r, .ref a0_product, .ref a0_tag, .ref a0_sealed])), (a0_work, aY C.D 2400 wk), (a0_w, aL C.D 64 w1), (a0_h, aM C.D 8 th), (a0_state, aM C.D 8 s1), (a0_each, aM C.D 64 t_a0_each), (a0_begin, aM C.D 8 t_a0_begin), (a0_sum, aY C.D 32 su), (a0_pad, aY C.D 64 t_a0_pad), (a0_text, aY C.D 2400 te), (a0_info, aY C.D 2400 t_a0_info), (a0_made, aY C.D 1024 md)] := by
              refine v_for (32) ?_ ?_
              · skip
                intro i hii ik te ne hw0 hw1
                refine v_iload_n g dX8_stretchTo_21 2 rfl 1 rfl ?_
                refine v_if_leN g 47 dX8_stretchTo_22 (by decide) (by omega) (fun h => absurd h (by omega)) (fun _ => ?_)
                refine v_iload_n g dX8_stretchTo_25 3 rfl 0 rfl ?_
                refine v_bipush g dX8_stretchTo_26 (v := nI 32) (by decide +kernel) ?_
                refine v_icmp_geN g 47 dX8_stretchTo_28 (by decide) (by omega) (by omega) (fun h33 => ?_) (fun h33 => ?_)
                · skip
                  exact absurd h33 (by omega)
                · skip
                  rw [hw0]
                  show VJ C 0 0 31 [(3, .int (nI i)), (2, .int (nI k)), (0, .ref a0), (1, .int (nI p1))] [] [(a0, .inr (8, [.int (nI v_a0_thrown), .ref a0_tape, .int (nI v_a0_taped), .ref a0_out, .int (nI v_a0_outs), .ref a0_slots, .ref a0_kept, .ref a0_phase, .ref a0_secret, .ref a0_key, .ref a0_hide, .ref a0_iv, .ref a0_begin, .ref a0_each, .ref a0_root, .ref a0_power, .ref a0_work, .ref a0_w, .ref a0_h, .ref a0_state, .ref a0_sum, .ref a0_pad, .ref a0_text, .int (nI i), .ref a0_info, .int (nI v_a0_infos), .ref a0_made, .ref a0_blockKey, .ref a0_nonce, .ref a0_x, .ref a0_first, .ref a0_block, .ref a0_a, .ref a0_r, .ref a0_product, .ref a0_tag, .ref a0_sealed])), (a0_work, aY C.D 2400 wk), (a0_w, aL C.D 64 w1), (a0_h, aM C.D 8 th), (a0_state, aM C.D 8 s1), (a0_each, aM C.D 64 t_a0_each), (a0_begin, aM C.D 8 t_a0_begin), (a0_sum, aY C.D 32 su), (a0_pad, aY C.D 64 t_a0_pad), (a0_text, aY C.D 2400 te), (a0_info, aY C.D 2400 t_a0_info), (a0_made, aY C.D 1024 md)]
                  refine v_aload_n g dX8_stretchTo_31 0 rfl 2 rfl ?_
                  refine v_aload_n g dX8_stretchTo_32 0 rfl 2 rfl ?_
                  refine gf_X8_62 g dX8_stretchTo_33 0 rfl rfl ?_
                  refine v_iload_n g dX8_stretchTo_36 3 rfl 0 rfl ?_
                  refine v_ialdY g 7 rfl (by omega) (by decide) dX8_stretchTo_37 ?_
                  refine v_callV (As := [.int (nI ((su i).toNat))]) (rest := []) (wr := [(a0_work, aY C.D 2400 wk), (a0_w, aL C.D 64 w1), (a0_h, aM C.D 8 th), (a0_state, aM C.D 8 s1), (a0_each, aM C.D 64 t_a0_each), (a0_begin, aM C.D 8 t_a0_begin), (a0_sum, aY C.D 32 su), (a0_pad, aY C.D 64 t_a0_pad), (a0_info, aY C.D 2400 t_a0_info), (a0_made, aY C.D 1024 md)]) cw_X8_148 (hy_X8_put) g (c_R_put C.l C.D a0 ((su i).toNat) v_a0_thrown a0_tape v_a0_taped a0_out v_a0_outs a0_slots a0_kept a0_phase a0_secret a0_key a0_hide a0_iv a0_begin a0_each a0_root a0_power a0_work a0_w a0_h a0_state a0_sum a0_pad a0_text i a0_info v_a0_infos a0_made a0_blockKey a0_nonce a0_x a0_first a0_block a0_a a0_r a0_product a0_tag a0_sealed te (su i) (by omega) rfl) dX8_stretchTo_38 0 rfl rfl rfl (by decide) (by decide) (Nat.le_of_ble_eq_true rfl) [0, 9] [1, 2, 3, 4, 5, 6, 7, 8, 10, 11] rfl rfl (by decide) rfl (by decide) (by decide) _ rfl (fun r wo hp34 => ?_)
                  obtain ⟨rfl, rfl⟩ := hp34
                  refine v_perm [10, 0, 1, 2, 3, 4, 5, 6, 7, 11, 8, 9] [(a0, .inr (8, [.int (nI v_a0_thrown), .ref a0_tape, .int (nI v_a0_taped), .ref a0_out, .int (nI v_a0_outs), .ref a0_slots, .ref a0_kept, .ref a0_phase, .ref a0_secret, .ref a0_key, .ref a0_hide, .ref a0_iv, .ref a0_begin, .ref a0_each, .ref a0_root, .ref a0_power, .ref a0_work, .ref a0_w, .ref a0_h, .ref a0_state, .ref a0_sum, .ref a0_pad, .ref a0_text, .int (nI (i + 1)), .ref a0_info, .int (nI v_a0_infos), .ref a0_made, .ref a0_blockKey, .ref a0_nonce, .ref a0_x, .ref a0_first, .ref a0_block, .ref a0_a, .ref a0_r, .ref a0_product, .ref a0_tag, .ref a0_sealed])), (a0_work, aY C.D 2400 wk), (a0_w, aL C.D 64 w1), (a0_h, aM C.D 8 th), (a0_state, aM C.D 8 s1), (a0_each, aM C.D 64 t_a0_each), (a0_begin, aM C.D 8 t_a0_begin), (a0_sum, aY C.D 32 su), (a0_pad, aY C.D 64 t_a0_pad), (a0_text, aY C.D 2400 (va_up te i (su i))), (a0_info, aY C.D 2400 t_a0_info), (a0_made, aY C.D 1024 md)] (by decide) rfl rfl ?_
                  show VJ C 0 0 41 [(3, .int (nI i)), (2, .int (nI k)), (0, .ref a0), (1, .int (nI p1))] [] [(a0, .inr (8, [.int (nI v_a0_thrown), .ref a0_tape, .int (nI v_a0_taped), .ref a0_out, .int (nI v_a0_outs), .ref a0_slots, .ref a0_kept, .ref a0_phase, .ref a0_secret, .ref a0_key, .ref a0_hide, .ref a0_iv, .ref a0_begin, .ref a0_each, .ref a0_root, .ref a0_power, .ref a0_work, .ref a0_w, .ref a0_h, .ref a0_state, .ref a0_sum, .ref a0_pad, .ref a0_text, .int (nI (i + 1)), .ref a0_info, .int (nI v_a0_infos), .ref a0_made, .ref a0_blockKey, .ref a0_nonce, .ref a0_x, .ref a0_first, .ref a0_block, .ref a0_a, .ref a0_r, .ref a0_product, .ref a0_tag, .ref a0_sealed])), (a0_work, aY C.D 2400 wk), (a0_w, aL C.D 64 w1), (a0_h, aM C.D 8 th), (a0_state, aM C.D 8 s1), (a0_each, aM C.D 64 t_a0_each), (a0_begin, aM C.D 8 t_a0_begin), (a0_sum, aY C.D 32 su), (a0_pad, aY C.D 64 t_a0_pad), (a0_text, aY C.D 2400 (va_up te i (su i))), (a0_info, aY C.D 2400 t_a0_info), (a0_made, aY C.D 1024 md)]
                  obtain ⟨t35, ht35⟩ : ∃ z : Nat → By, z = va_up te i (su i) := ⟨_, rfl⟩
                  rw [← ht35]
                  refine v_iincN g 1 [(3, .int (nI (i + 1))), (2, .int (nI k)), (0, .ref a0), (1, .int (nI p1))] dX8_stretchTo_41 0 rfl (by decide +kernel) (by decide) rfl ?_
                  refine v_goto g 21 dX8_stretchTo_44 (by decide) ?_
                  exact ik t35 (i + 1) rfl (up_lt (m := i) hw1 rfl ht35)
              · skip
                intro te ne hw0 hw1
                refine v_iload_n g dX8_stretchTo_21 2 rfl 1 rfl ?_
                refine v_if_leN g 47 dX8_stretchTo_22 (by decide) (by omega) (fun h => absurd h (by omega)) (fun _ => ?_)
                refine v_iload_n g dX8_stretchTo_25 3 rfl 0 rfl ?_
                refine v_bipush g dX8_stretchTo_26 (v := nI 32) (by decide +kernel) ?_
                refine v_icmp_geN g 47 dX8_stretchTo_28 (by decide) (by omega) (by omega) (fun h36 => ?_) (fun h36 => ?_)
                · skip
                  refine v_lpick [1, 2, 3] [(2, .int (nI k)), (0, .ref a0), (1, .int (nI p1))] rfl ?_
                  exact J47 te ne (hw0.trans (st_l1 hk (by omega)).symm) (fun j hj => by rw [hw1 j (by omega), hv1 hk j (by omega), show (k - 1) / 32 + 1 = k / 32 by omega])
                · skip
                  exact absurd h36 (by omega)
            exact L21_32 0 (by omega) tx 0 rfl (fun j hj => absurd hj (by omega))
    · skip
      intro wk w1 th s1 su tx tn md hv0 hv1
      refine v_iload_n g dX8_stretchTo_2 2 rfl 0 rfl ?_
      refine v_iload_n g dX8_stretchTo_3 1 rfl 2 rfl ?_
      refine v_icmp_geN g 108 dX8_stretchTo_4 (by decide) (by omega) (by omega) (fun h13 => ?_) (fun h13 => ?_)
      · skip
        exact v_ret g R dX8_stretchTo_108 (by decide) (by decide) ⟨wk, w1, th, s1, su, tx, tn, md, rfl, rfl, hv0⟩
      · skip
        exact absurd h13 (by omega)
  exact L2_0 0 (by omega) t_a0_work t_a0_w t_a0_h t_a0_state t_a0_sum t_a0_text v_a0_texts t_a0_made (fun j hj => absurd hj (by omega)) (fun h => absurd h (by omega))
set_option maxHeartbeats 4000000 in
set_option maxRecDepth 100000 in
theorem c_R_words (l : Launch) (D : va_G) (p0 : Nat)  (h0 : p0 < 11) : vM l D yX8_words cX8_words 1 (some .long) { frames := 0, cells := 0, slots := 0, locals := 0 } [.int (nI p0)] [] (fun r wo => r = some (.long (lN (lwN p0))) ∧ wo = []) := by
  refine vM.of (by decide) (Nat.le_of_ble_eq_true rfl) (fun C hCl hCD g R => ?_)
  subst hCl; subst hCD
  show VJ C 0 0 0 [(0, .int (nI p0))] [] []
  refine v_iload_n g dX8_words_0 0 rfl 0 rfl ?_
  have hc : p0 = 0 ∨ p0 = 1 ∨ p0 = 2 ∨ p0 = 3 ∨ p0 = 4 ∨ p0 = 5 ∨ p0 = 6 ∨ p0 = 7 ∨ p0 = 8 ∨ p0 = 9 ∨ p0 = 10 := by omega
  rcases hc with rfl | rfl | rfl | rfl | rfl | rfl | rfl | rfl | rfl | rfl | rfl
  · skip
    refine v_tabIn g 56 dX8_words_1 (by decide) (by decide) (off := 55) (by decide) (by decide) ?_
    refine v_ldc2 g dX8_words_56 kl_X8_157 ?_
    exact v_lret g R dX8_words_59 (by decide) (by decide) ⟨rfl, rfl⟩
  · skip
    refine v_tabIn g 60 dX8_words_1 (by decide) (by decide) (off := 59) (by decide) (by decide) ?_
    refine v_ldc2 g dX8_words_60 kl_X8_159 ?_
    exact v_lret g R dX8_words_63 (by decide) (by decide) ⟨rfl, rfl⟩
  · skip
    refine v_tabIn g 64 dX8_words_1 (by decide) (by decide) (off := 63) (by decide) (by decide) ?_
    refine v_ldc2 g dX8_words_64 kl_X8_161 ?_
    exact v_lret g R dX8_words_67 (by decide) (by decide) ⟨rfl, rfl⟩
  · skip
    refine v_tabIn g 68 dX8_words_1 (by decide) (by decide) (off := 67) (by decide) (by decide) ?_
    refine v_ldc2 g dX8_words_68 kl_X8_163 ?_
    exact v_lret g R dX8_words_71 (by decide) (by decide) ⟨rfl, rfl⟩
  · skip
    refine v_tabIn g 72 dX8_words_1 (by decide) (by decide) (off := 71) (by decide) (by decide) ?_
    refine v_ldc2 g dX8_words_72 kl_X8_165 ?_
    exact v_lret g R dX8_words_75 (by decide) (by decide) ⟨rfl, rfl⟩
  · skip
    refine v_tabIn g 76 dX8_words_1 (by decide) (by decide) (off := 75) (by decide) (by decide) ?_
    refine v_ldc2 g dX8_words_76 kl_X8_167 ?_
    exact v_lret g R dX8_words_79 (by decide) (by decide) ⟨rfl, rfl⟩
  · skip
    refine v_tabIn g 80 dX8_words_1 (by decide) (by decide) (off := 79) (by decide) (by decide) ?_
    refine v_ldc2 g dX8_words_80 kl_X8_169 ?_
    exact v_lret g R dX8_words_83 (by decide) (by decide) ⟨rfl, rfl⟩
  · skip
    refine v_tabIn g 84 dX8_words_1 (by decide) (by decide) (off := 83) (by decide) (by decide) ?_
    refine v_ldc2 g dX8_words_84 kl_X8_171 ?_
    exact v_lret g R dX8_words_87 (by decide) (by decide) ⟨rfl, rfl⟩
  · skip
    refine v_tabIn g 88 dX8_words_1 (by decide) (by decide) (off := 87) (by decide) (by decide) ?_
    refine v_ldc2 g dX8_words_88 kl_X8_173 ?_
    exact v_lret g R dX8_words_91 (by decide) (by decide) ⟨rfl, rfl⟩
  · skip
    refine v_tabIn g 92 dX8_words_1 (by decide) (by decide) (off := 91) (by decide) (by decide) ?_
    refine v_ldc2 g dX8_words_92 kl_X8_175 ?_
    exact v_lret g R dX8_words_95 (by decide) (by decide) ⟨rfl, rfl⟩
  · skip
    refine v_tabOut g 96 dX8_words_1 (by decide) (by decide) ?_
    refine v_ldc2 g dX8_words_96 kl_X8_177 ?_
    exact v_lret g R dX8_words_99 (by decide) (by decide) ⟨rfl, rfl⟩
set_option maxHeartbeats 4000000 in
set_option maxRecDepth 100000 in
theorem c_R_lab (l : Launch) (D : va_G) (a0 : Nat) (p1 : Nat) (p2 : Nat) (p3 : Nat) (v_a0_thrown : Nat) (a0_tape : Nat) (v_a0_taped : Nat) (a0_out : Nat) (v_a0_outs : Nat) (a0_slots : Nat) (a0_kept : Nat) (a0_phase : Nat) (a0_secret : Nat) (a0_key : Nat) (a0_hide : Nat) (a0_iv : Nat) (a0_begin : Nat) (a0_each : Nat) (a0_root : Nat) (a0_power : Nat) (a0_work : Nat) (a0_w : Nat) (a0_h : Nat) (a0_state : Nat) (a0_sum : Nat) (a0_pad : Nat) (a0_text : Nat) (v_a0_texts : Nat) (a0_info : Nat) (v_a0_infos : Nat) (a0_made : Nat) (a0_blockKey : Nat) (a0_nonce : Nat) (a0_x : Nat) (a0_first : Nat) (a0_block : Nat) (a0_a : Nat) (a0_r : Nat) (a0_product : Nat) (a0_tag : Nat) (a0_sealed : Nat) (t_a0_info : Nat → By) (t_a0_tape : Nat → By)  (h1 : p1 < 11) (h2 : p2 ≤ 255) (h3 : p3 ≤ 1024) : vM l D yX8_labelled cX8_labelled 8 none { frames := 1, cells := 0, slots := 0, locals := 21 } [.ref a0, .int (nI p1), .int (nI p2), .int (nI p3)] [(a0, .inr (8, [.int (nI v_a0_thrown), .ref a0_tape, .int (nI v_a0_taped), .ref a0_out, .int (nI v_a0_outs), .ref a0_slots, .ref a0_kept, .ref a0_phase, .ref a0_secret, .ref a0_key, .ref a0_hide, .ref a0_iv, .ref a0_begin, .ref a0_each, .ref a0_root, .ref a0_power, .ref a0_work, .ref a0_w, .ref a0_h, .ref a0_state, .ref a0_sum, .ref a0_pad, .ref a0_text, .int (nI v_a0_texts), .ref a0_info, .int (nI v_a0_infos), .ref a0_made, .ref a0_blockKey, .ref a0_nonce, .ref a0_x, .ref a0_first, .ref a0_block, .ref a0_a, .ref a0_r, .ref a0_product, .ref a0_tag, .ref a0_sealed])), (a0_info, aY D 2400 t_a0_info), (a0_tape, aY D 2048 t_a0_tape)] (fun r wo => ∃ (nf : Nat → By), r = none ∧ wo = [(a0, .inr (8, [.int (nI v_a0_thrown), .ref a0_tape, .int (nI v_a0_taped), .ref a0_out, .int (nI v_a0_outs), .ref a0_slots, .ref a0_kept, .ref a0_phase, .ref a0_secret, .ref a0_key, .ref a0_hide, .ref a0_iv, .ref a0_begin, .ref a0_each, .ref a0_root, .ref a0_power, .ref a0_work, .ref a0_w, .ref a0_h, .ref a0_state, .ref a0_sum, .ref a0_pad, .ref a0_text, .int (nI v_a0_texts), .ref a0_info, .int (nI (4 + lbN p1 + p2)), .ref a0_made, .ref a0_blockKey, .ref a0_nonce, .ref a0_x, .ref a0_first, .ref a0_block, .ref a0_a, .ref a0_r, .ref a0_product, .ref a0_tag, .ref a0_sealed])), (a0_info, aY D 2400 nf), (a0_tape, aY D 2048 t_a0_tape)] ∧ (∀ j, j < 4 + lbN p1 + p2 → nf j = infF p1 t_a0_tape p2 p3 j)) := by
  refine vM.of (by decide) (Nat.le_of_ble_eq_true rfl) (fun C hCl hCD g R => ?_)
  subst hCl; subst hCD
  show VJ C 0 0 0 [(0, .ref a0), (1, .int (nI p1)), (2, .int (nI p2)), (3, .int (nI p3))] [] [(a0, .inr (8, [.int (nI v_a0_thrown), .ref a0_tape, .int (nI v_a0_taped), .ref a0_out, .int (nI v_a0_outs), .ref a0_slots, .ref a0_kept, .ref a0_phase, .ref a0_secret, .ref a0_key, .ref a0_hide, .ref a0_iv, .ref a0_begin, .ref a0_each, .ref a0_root, .ref a0_power, .ref a0_work, .ref a0_w, .ref a0_h, .ref a0_state, .ref a0_sum, .ref a0_pad, .ref a0_text, .int (nI v_a0_texts), .ref a0_info, .int (nI v_a0_infos), .ref a0_made, .ref a0_blockKey, .ref a0_nonce, .ref a0_x, .ref a0_first, .ref a0_block, .ref a0_a, .ref a0_r, .ref a0_product, .ref a0_tag, .ref a0_sealed])), (a0_info, aY C.D 2400 t_a0_info), (a0_tape, aY C.D 2048 t_a0_tape)]
  have hl := lw_n p1 h1
  have hlw := lw_lt p1 h1
  refine v_iload_n g dX8_labelled_0 1 rfl 1 rfl ?_
  refine v_callS (As := [.int (nI p1)]) (rest := []) (wr := [(a0, .inr (8, [.int (nI v_a0_thrown), .ref a0_tape, .int (nI v_a0_taped), .ref a0_out, .int (nI v_a0_outs), .ref a0_slots, .ref a0_kept, .ref a0_phase, .ref a0_secret, .ref a0_key, .ref a0_hide, .ref a0_iv, .ref a0_begin, .ref a0_each, .ref a0_root, .ref a0_power, .ref a0_work, .ref a0_w, .ref a0_h, .ref a0_state, .ref a0_sum, .ref a0_pad, .ref a0_text, .int (nI v_a0_texts), .ref a0_info, .int (nI v_a0_infos), .ref a0_made, .ref a0_blockKey, .ref a0_nonce, .ref a0_x, .ref a0_first, .ref a0_block, .ref a0_a, .ref a0_r, .ref a0_product, .ref a0_tag, .ref a0_sealed])), (a0_info, aY C.D 2400 t_a0_info), (a0_tape, aY C.D 2048 t_a0_tape)]) cw_X8_179 (hy_X8_words) g (c_R_words C.l C.D p1 (by omega)) dX8_labelled_1 rfl (by decide) (by decide) (Nat.le_of_ble_eq_true rfl) [] [0, 1, 2] rfl rfl (by decide) rfl (by decide) (by decide) _ rfl (fun r wo hp1 => ?_)
  obtain ⟨rfl, rfl⟩ := hp1
  show VJ C 0 0 4 [(0, .ref a0), (1, .int (nI p1)), (2, .int (nI p2)), (3, .int (nI p3))] [.long (lN (lwN p1))] [(a0, .inr (8, [.int (nI v_a0_thrown), .ref a0_tape, .int (nI v_a0_taped), .ref a0_out, .int (nI v_a0_outs), .ref a0_slots, .ref a0_kept, .ref a0_phase, .ref a0_secret, .ref a0_key, .ref a0_hide, .ref a0_iv, .ref a0_begin, .ref a0_each, .ref a0_root, .ref a0_power, .ref a0_work, .ref a0_w, .ref a0_h, .ref a0_state, .ref a0_sum, .ref a0_pad, .ref a0_text, .int (nI v_a0_texts), .ref a0_info, .int (nI v_a0_infos), .ref a0_made, .ref a0_blockKey, .ref a0_nonce, .ref a0_x, .ref a0_first, .ref a0_block, .ref a0_a, .ref a0_r, .ref a0_product, .ref a0_tag, .ref a0_sealed])), (a0_info, aY C.D 2400 t_a0_info), (a0_tape, aY C.D 2048 t_a0_tape)]
  refine v_lstore g [(4, .long (lN (lwN p1))), (0, .ref a0), (1, .int (nI p1)), (2, .int (nI p2)), (3, .int (nI p3))] dX8_labelled_4 (by decide) rfl ?_
  refine v_iconst g dX8_labelled_6 (v := nI 0) (by decide +kernel) ?_
  refine v_istore g [(6, .int (nI 0)), (4, .long (lN (lwN p1))), (0, .ref a0), (1, .int (nI p1)), (2, .int (nI p2)), (3, .int (nI p3))] dX8_labelled_7 (by decide) rfl ?_
  have L9_1 : ∀ i : Nat, i ≤ (lbN p1 - 3) → VJ C 0 0 9 [(6, .int (nI i)), (4, .long (lN (lwN p1))), (0, .ref a0), (1, .int (nI p1)), (2, .int (nI p2)), (3, .int (nI p3))] [] [(a0, .inr (8, [.int (nI v_a0_thrown), .ref a0_tape, .int (nI v_a0_taped), .ref a0_out, .int (nI v_a0_outs), .ref a0_slots, .ref a0_kept, .ref a0_phase, .ref a0_secret, .ref a0_key, .ref a0_hide, .ref a0_iv, .ref a0_begin, .ref a0_each, .ref a0_root, .ref a0_power, .ref a0_work, .ref a0_w, .ref a0_h, .ref a0_state, .ref a0_sum, .ref a0_pad, .ref a0_text, .int (nI v_a0_texts), .ref a0_info, .int (nI v_a0_infos), .ref a0_made, .ref a0_blockKey, .ref a0_nonce, .ref a0_x, .ref a0_first, .ref a0_block, .ref a0_a, .ref a0_r, .ref a0_product, .ref a0_tag, .ref a0_sealed])), (a0_info, aY C.D 2400 t_a0_info), (a0_tape, aY C.D 2048 t_a0_tape)] := by
    refine v_for ((lbN p1 - 3)) ?_ ?_
    · skip
      intro i hii ih
      refine v_iload g dX8_labelled_9 0 rfl ?_
      refine v_bipush g dX8_labelled_11 (v := nI 8) (by decide +kernel) ?_
      refine v_icmp_geN g 35 dX8_labelled_13 (by decide) (by omega) (by omega) (fun h => absurd h (by omega)) (fun _ => ?_)
      refine v_lload g dX8_labelled_16 1 rfl ?_
      refine v_bipush g dX8_labelled_18 (v := nI 8) (by decide +kernel) ?_
      refine v_iload g dX8_labelled_20 0 rfl ?_
      refine v_imulN g dX8_labelled_22 ?_
      refine v_lshrN g (by omega) (by omega) dX8_labelled_23 ?_
      refine v_nmL (fun y2 hy2 => ?_)
      have hyy : (i < (lbN p1 - 3) → 0 < y2) := fun q => by rw [hy2]; exact lw_pos p1 h1 i q
      have hyl : y2 < 2 ^ 63 := by rw [hy2]; exact Nat.lt_of_le_of_lt (Nat.div_le_self _ _) hlw
      refine v_lconst g dX8_labelled_24 (v := lN 0) (by decide +kernel) ?_
      refine v_lif_leN g 35 dX8_labelled_25 dX8_labelled_26 (by decide) (by omega) (by omega) (fun h4 => ?_) (fun h4 => ?_)
      · skip
        exact absurd h4 (by omega)
      · skip
        refine v_iincN g 1 [(6, .int (nI (i + 1))), (4, .long (lN (lwN p1))), (0, .ref a0), (1, .int (nI p1)), (2, .int (nI p2)), (3, .int (nI p3))] dX8_labelled_29 0 rfl (by decide +kernel) (by decide) rfl ?_
        refine v_goto g 9 dX8_labelled_32 (by decide) ?_
        exact ih
    · skip
      refine v_iload g dX8_labelled_9 0 rfl ?_
      refine v_bipush g dX8_labelled_11 (v := nI 8) (by decide +kernel) ?_
      refine v_icmp_geN g 35 dX8_labelled_13 (by decide) (by omega) (by omega) (fun h => absurd h (by omega)) (fun _ => ?_)
      refine v_lload g dX8_labelled_16 1 rfl ?_
      refine v_bipush g dX8_labelled_18 (v := nI 8) (by decide +kernel) ?_
      refine v_iload g dX8_labelled_20 0 rfl ?_
      refine v_imulN g dX8_labelled_22 ?_
      refine v_lshrN g (by omega) (by omega) dX8_labelled_23 ?_
      refine v_nmL (fun y5 hy5 => ?_)
      have hyy : y5 = 0 := by rw [hy5]; exact lw_end p1 h1
      have hyl : y5 < 2 ^ 63 := by rw [hy5]; exact Nat.lt_of_le_of_lt (Nat.div_le_self _ _) hlw
      refine v_lconst g dX8_labelled_24 (v := lN 0) (by decide +kernel) ?_
      refine v_lif_leN g 35 dX8_labelled_25 dX8_labelled_26 (by decide) (by omega) (by omega) (fun h6 => ?_) (fun h6 => ?_)
      · skip
        refine v_aload_n g dX8_labelled_35 0 rfl 2 rfl ?_
        refine v_iconst g dX8_labelled_36 (v := nI 0) (by decide +kernel) ?_
        refine pf_X8_151 g dX8_labelled_37 0 [(a0, .inr (8, [.int (nI v_a0_thrown), .ref a0_tape, .int (nI v_a0_taped), .ref a0_out, .int (nI v_a0_outs), .ref a0_slots, .ref a0_kept, .ref a0_phase, .ref a0_secret, .ref a0_key, .ref a0_hide, .ref a0_iv, .ref a0_begin, .ref a0_each, .ref a0_root, .ref a0_power, .ref a0_work, .ref a0_w, .ref a0_h, .ref a0_state, .ref a0_sum, .ref a0_pad, .ref a0_text, .int (nI v_a0_texts), .ref a0_info, .int (nI 0), .ref a0_made, .ref a0_blockKey, .ref a0_nonce, .ref a0_x, .ref a0_first, .ref a0_block, .ref a0_a, .ref a0_r, .ref a0_product, .ref a0_tag, .ref a0_sealed])), (a0_info, aY C.D 2400 t_a0_info), (a0_tape, aY C.D 2048 t_a0_tape)] rfl (Nat.le_of_ble_eq_true rfl) rfl ?_
        refine v_aload_n g dX8_labelled_40 0 rfl 2 rfl ?_
        refine v_iload_n g dX8_labelled_41 3 rfl 5 rfl ?_
        refine v_bipush g dX8_labelled_42 (v := nI 8) (by decide +kernel) ?_
        refine v_ishrN g (by omega) (by omega) dX8_labelled_44 ?_
        have g0 : ∀ j, j < 0 → t_a0_info j = infF p1 t_a0_tape p2 p3 j := fun j hj => absurd hj (by omega)
        refine v_callV (As := [.int (nI (p3 / 2 ^ 8))]) (rest := []) (wr := [(a0_tape, aY C.D 2048 t_a0_tape)]) cw_X8_183 (hy_X8_tell) g (c_R_tell C.l C.D a0 (p3 / 2 ^ 8) v_a0_thrown a0_tape v_a0_taped a0_out v_a0_outs a0_slots a0_kept a0_phase a0_secret a0_key a0_hide a0_iv a0_begin a0_each a0_root a0_power a0_work a0_w a0_h a0_state a0_sum a0_pad a0_text v_a0_texts a0_info 0 a0_made a0_blockKey a0_nonce a0_x a0_first a0_block a0_a a0_r a0_product a0_tag a0_sealed t_a0_info (BitVec.ofNat 8 (p3 / 256)) (by omega) (by rw [BitVec.toNat_ofNat]; omega)) dX8_labelled_45 0 rfl rfl rfl (by decide) (by decide) (Nat.le_of_ble_eq_true rfl) [0, 1] [2] rfl rfl (by decide) rfl (by decide) (by decide) _ rfl (fun r wo hp7 => ?_)
        obtain ⟨rfl, rfl⟩ := hp7
        refine v_perm [1, 2, 0] [(a0, .inr (8, [.int (nI v_a0_thrown), .ref a0_tape, .int (nI v_a0_taped), .ref a0_out, .int (nI v_a0_outs), .ref a0_slots, .ref a0_kept, .ref a0_phase, .ref a0_secret, .ref a0_key, .ref a0_hide, .ref a0_iv, .ref a0_begin, .ref a0_each, .ref a0_root, .ref a0_power, .ref a0_work, .ref a0_w, .ref a0_h, .ref a0_state, .ref a0_sum, .ref a0_pad, .ref a0_text, .int (nI v_a0_texts), .ref a0_info, .int (nI (0 + 1)), .ref a0_made, .ref a0_blockKey, .ref a0_nonce, .ref a0_x, .ref a0_first, .ref a0_block, .ref a0_a, .ref a0_r, .ref a0_product, .ref a0_tag, .ref a0_sealed])), (a0_info, aY C.D 2400 (va_up t_a0_info 0 (BitVec.ofNat 8 (p3 / 256)))), (a0_tape, aY C.D 2048 t_a0_tape)] (by decide) rfl rfl ?_
        show VJ C 0 0 48 [(6, .int (nI (lbN p1 - 3))), (4, .long (lN (lwN p1))), (0, .ref a0), (1, .int (nI p1)), (2, .int (nI p2)), (3, .int (nI p3))] [] [(a0, .inr (8, [.int (nI v_a0_thrown), .ref a0_tape, .int (nI v_a0_taped), .ref a0_out, .int (nI v_a0_outs), .ref a0_slots, .ref a0_kept, .ref a0_phase, .ref a0_secret, .ref a0_key, .ref a0_hide, .ref a0_iv, .ref a0_begin, .ref a0_each, .ref a0_root, .ref a0_power, .ref a0_work, .ref a0_w, .ref a0_h, .ref a0_state, .ref a0_sum, .ref a0_pad, .ref a0_text, .int (nI v_a0_texts), .ref a0_info, .int (nI (0 + 1)), .ref a0_made, .ref a0_blockKey, .ref a0_nonce, .ref a0_x, .ref a0_first, .ref a0_block, .ref a0_a, .ref a0_r, .ref a0_product, .ref a0_tag, .ref a0_sealed])), (a0_info, aY C.D 2400 (va_up t_a0_info 0 (BitVec.ofNat 8 (p3 / 256)))), (a0_tape, aY C.D 2048 t_a0_tape)]
        obtain ⟨t8, ht8⟩ : ∃ z : Nat → By, z = va_up t_a0_info 0 (BitVec.ofNat 8 (p3 / 256)) := ⟨_, rfl⟩
        rw [← ht8]
        have g1 : ∀ j, j < 0 + 1 → t8 j = infF p1 t_a0_tape p2 p3 j := up_lt (m := 0) g0 ((rinf_0 _ _ _ _).symm) ht8
        show VJ C 0 0 48 [(6, .int (nI (lbN p1 - 3))), (4, .long (lN (lwN p1))), (0, .ref a0), (1, .int (nI p1)), (2, .int (nI p2)), (3, .int (nI p3))] [] [(a0, .inr (8, [.int (nI v_a0_thrown), .ref a0_tape, .int (nI v_a0_taped), .ref a0_out, .int (nI v_a0_outs), .ref a0_slots, .ref a0_kept, .ref a0_phase, .ref a0_secret, .ref a0_key, .ref a0_hide, .ref a0_iv, .ref a0_begin, .ref a0_each, .ref a0_root, .ref a0_power, .ref a0_work, .ref a0_w, .ref a0_h, .ref a0_state, .ref a0_sum, .ref a0_pad, .ref a0_text, .int (nI v_a0_texts), .ref a0_info, .int (nI 1), .ref a0_made, .ref a0_blockKey, .ref a0_nonce, .ref a0_x, .ref a0_first, .ref a0_block, .ref a0_a, .ref a0_r, .ref a0_product, .ref a0_tag, .ref a0_sealed])), (a0_info, aY C.D 2400 t8), (a0_tape, aY C.D 2048 t_a0_tape)]
        refine v_aload_n g dX8_labelled_48 0 rfl 2 rfl ?_
        refine v_iload_n g dX8_labelled_49 3 rfl 5 rfl ?_
        refine v_sipush g dX8_labelled_50 (v := nI 255) (by decide +kernel) ?_
        refine v_iandM g 8 (by decide) dX8_labelled_53 ?_
        refine v_callV (As := [.int (nI (p3 % 2 ^ 8))]) (rest := []) (wr := [(a0_tape, aY C.D 2048 t_a0_tape)]) cw_X8_183 (hy_X8_tell) g (c_R_tell C.l C.D a0 (p3 % 2 ^ 8) v_a0_thrown a0_tape v_a0_taped a0_out v_a0_outs a0_slots a0_kept a0_phase a0_secret a0_key a0_hide a0_iv a0_begin a0_each a0_root a0_power a0_work a0_w a0_h a0_state a0_sum a0_pad a0_text v_a0_texts a0_info 1 a0_made a0_blockKey a0_nonce a0_x a0_first a0_block a0_a a0_r a0_product a0_tag a0_sealed t8 (BitVec.ofNat 8 p3) (by omega) (by rw [BitVec.toNat_ofNat])) dX8_labelled_54 0 rfl rfl rfl (by decide) (by decide) (Nat.le_of_ble_eq_true rfl) [0, 1] [2] rfl rfl (by decide) rfl (by decide) (by decide) _ rfl (fun r wo hp9 => ?_)
        obtain ⟨rfl, rfl⟩ := hp9
        refine v_perm [1, 2, 0] [(a0, .inr (8, [.int (nI v_a0_thrown), .ref a0_tape, .int (nI v_a0_taped), .ref a0_out, .int (nI v_a0_outs), .ref a0_slots, .ref a0_kept, .ref a0_phase, .ref a0_secret, .ref a0_key, .ref a0_hide, .ref a0_iv, .ref a0_begin, .ref a0_each, .ref a0_root, .ref a0_power, .ref a0_work, .ref a0_w, .ref a0_h, .ref a0_state, .ref a0_sum, .ref a0_pad, .ref a0_text, .int (nI v_a0_texts), .ref a0_info, .int (nI (1 + 1)), .ref a0_made, .ref a0_blockKey, .ref a0_nonce, .ref a0_x, .ref a0_first, .ref a0_block, .ref a0_a, .ref a0_r, .ref a0_product, .ref a0_tag, .ref a0_sealed])), (a0_info, aY C.D 2400 (va_up t8 1 (BitVec.ofNat 8 p3))), (a0_tape, aY C.D 2048 t_a0_tape)] (by decide) rfl rfl ?_
        show VJ C 0 0 57 [(6, .int (nI (lbN p1 - 3))), (4, .long (lN (lwN p1))), (0, .ref a0), (1, .int (nI p1)), (2, .int (nI p2)), (3, .int (nI p3))] [] [(a0, .inr (8, [.int (nI v_a0_thrown), .ref a0_tape, .int (nI v_a0_taped), .ref a0_out, .int (nI v_a0_outs), .ref a0_slots, .ref a0_kept, .ref a0_phase, .ref a0_secret, .ref a0_key, .ref a0_hide, .ref a0_iv, .ref a0_begin, .ref a0_each, .ref a0_root, .ref a0_power, .ref a0_work, .ref a0_w, .ref a0_h, .ref a0_state, .ref a0_sum, .ref a0_pad, .ref a0_text, .int (nI v_a0_texts), .ref a0_info, .int (nI (1 + 1)), .ref a0_made, .ref a0_blockKey, .ref a0_nonce, .ref a0_x, .ref a0_first, .ref a0_block, .ref a0_a, .ref a0_r, .ref a0_product, .ref a0_tag, .ref a0_sealed])), (a0_info, aY C.D 2400 (va_up t8 1 (BitVec.ofNat 8 p3))), (a0_tape, aY C.D 2048 t_a0_tape)]
        obtain ⟨t10, ht10⟩ : ∃ z : Nat → By, z = va_up t8 1 (BitVec.ofNat 8 p3) := ⟨_, rfl⟩
        rw [← ht10]
        have g2 : ∀ j, j < 1 + 1 → t10 j = infF p1 t_a0_tape p2 p3 j := up_lt (m := 1) g1 ((rinf_1 _ _ _ _).symm) ht10
        show VJ C 0 0 57 [(6, .int (nI (lbN p1 - 3))), (4, .long (lN (lwN p1))), (0, .ref a0), (1, .int (nI p1)), (2, .int (nI p2)), (3, .int (nI p3))] [] [(a0, .inr (8, [.int (nI v_a0_thrown), .ref a0_tape, .int (nI v_a0_taped), .ref a0_out, .int (nI v_a0_outs), .ref a0_slots, .ref a0_kept, .ref a0_phase, .ref a0_secret, .ref a0_key, .ref a0_hide, .ref a0_iv, .ref a0_begin, .ref a0_each, .ref a0_root, .ref a0_power, .ref a0_work, .ref a0_w, .ref a0_h, .ref a0_state, .ref a0_sum, .ref a0_pad, .ref a0_text, .int (nI v_a0_texts), .ref a0_info, .int (nI 2), .ref a0_made, .ref a0_blockKey, .ref a0_nonce, .ref a0_x, .ref a0_first, .ref a0_block, .ref a0_a, .ref a0_r, .ref a0_product, .ref a0_tag, .ref a0_sealed])), (a0_info, aY C.D 2400 t10), (a0_tape, aY C.D 2048 t_a0_tape)]
        refine v_aload_n g dX8_labelled_57 0 rfl 2 rfl ?_
        refine v_iload g dX8_labelled_58 0 rfl ?_
        refine v_iconst g dX8_labelled_60 (v := nI 3) (by decide +kernel) ?_
        refine v_iaddN g dX8_labelled_61 ?_
        refine v_callV (As := [.int (nI ((lbN p1 - 3) + 3))]) (rest := []) (wr := [(a0_tape, aY C.D 2048 t_a0_tape)]) cw_X8_183 (hy_X8_tell) g (c_R_tell C.l C.D a0 ((lbN p1 - 3) + 3) v_a0_thrown a0_tape v_a0_taped a0_out v_a0_outs a0_slots a0_kept a0_phase a0_secret a0_key a0_hide a0_iv a0_begin a0_each a0_root a0_power a0_work a0_w a0_h a0_state a0_sum a0_pad a0_text v_a0_texts a0_info 2 a0_made a0_blockKey a0_nonce a0_x a0_first a0_block a0_a a0_r a0_product a0_tag a0_sealed t10 (BitVec.ofNat 8 (lbN p1)) (by omega) (by rw [BitVec.toNat_ofNat]; omega)) dX8_labelled_62 0 rfl rfl rfl (by decide) (by decide) (Nat.le_of_ble_eq_true rfl) [0, 1] [2] rfl rfl (by decide) rfl (by decide) (by decide) _ rfl (fun r wo hp11 => ?_)
        obtain ⟨rfl, rfl⟩ := hp11
        refine v_perm [1, 2, 0] [(a0, .inr (8, [.int (nI v_a0_thrown), .ref a0_tape, .int (nI v_a0_taped), .ref a0_out, .int (nI v_a0_outs), .ref a0_slots, .ref a0_kept, .ref a0_phase, .ref a0_secret, .ref a0_key, .ref a0_hide, .ref a0_iv, .ref a0_begin, .ref a0_each, .ref a0_root, .ref a0_power, .ref a0_work, .ref a0_w, .ref a0_h, .ref a0_state, .ref a0_sum, .ref a0_pad, .ref a0_text, .int (nI v_a0_texts), .ref a0_info, .int (nI (2 + 1)), .ref a0_made, .ref a0_blockKey, .ref a0_nonce, .ref a0_x, .ref a0_first, .ref a0_block, .ref a0_a, .ref a0_r, .ref a0_product, .ref a0_tag, .ref a0_sealed])), (a0_info, aY C.D 2400 (va_up t10 2 (BitVec.ofNat 8 (lbN p1)))), (a0_tape, aY C.D 2048 t_a0_tape)] (by decide) rfl rfl ?_
        show VJ C 0 0 65 [(6, .int (nI (lbN p1 - 3))), (4, .long (lN (lwN p1))), (0, .ref a0), (1, .int (nI p1)), (2, .int (nI p2)), (3, .int (nI p3))] [] [(a0, .inr (8, [.int (nI v_a0_thrown), .ref a0_tape, .int (nI v_a0_taped), .ref a0_out, .int (nI v_a0_outs), .ref a0_slots, .ref a0_kept, .ref a0_phase, .ref a0_secret, .ref a0_key, .ref a0_hide, .ref a0_iv, .ref a0_begin, .ref a0_each, .ref a0_root, .ref a0_power, .ref a0_work, .ref a0_w, .ref a0_h, .ref a0_state, .ref a0_sum, .ref a0_pad, .ref a0_text, .int (nI v_a0_texts), .ref a0_info, .int (nI (2 + 1)), .ref a0_made, .ref a0_blockKey, .ref a0_nonce, .ref a0_x, .ref a0_first, .ref a0_block, .ref a0_a, .ref a0_r, .ref a0_product, .ref a0_tag, .ref a0_sealed])), (a0_info, aY C.D 2400 (va_up t10 2 (BitVec.ofNat 8 (lbN p1)))), (a0_tape, aY C.D 2048 t_a0_tape)]
        obtain ⟨t12, ht12⟩ : ∃ z : Nat → By, z = va_up t10 2 (BitVec.ofNat 8 (lbN p1)) := ⟨_, rfl⟩
        rw [← ht12]
        have g3 : ∀ j, j < 2 + 1 → t12 j = infF p1 t_a0_tape p2 p3 j := up_lt (m := 2) g2 ((rinf_2 _ _ _ _).symm) ht12
        show VJ C 0 0 65 [(6, .int (nI (lbN p1 - 3))), (4, .long (lN (lwN p1))), (0, .ref a0), (1, .int (nI p1)), (2, .int (nI p2)), (3, .int (nI p3))] [] [(a0, .inr (8, [.int (nI v_a0_thrown), .ref a0_tape, .int (nI v_a0_taped), .ref a0_out, .int (nI v_a0_outs), .ref a0_slots, .ref a0_kept, .ref a0_phase, .ref a0_secret, .ref a0_key, .ref a0_hide, .ref a0_iv, .ref a0_begin, .ref a0_each, .ref a0_root, .ref a0_power, .ref a0_work, .ref a0_w, .ref a0_h, .ref a0_state, .ref a0_sum, .ref a0_pad, .ref a0_text, .int (nI v_a0_texts), .ref a0_info, .int (nI 3), .ref a0_made, .ref a0_blockKey, .ref a0_nonce, .ref a0_x, .ref a0_first, .ref a0_block, .ref a0_a, .ref a0_r, .ref a0_product, .ref a0_tag, .ref a0_sealed])), (a0_info, aY C.D 2400 t12), (a0_tape, aY C.D 2048 t_a0_tape)]
        refine v_aload_n g dX8_labelled_65 0 rfl 2 rfl ?_
        refine v_bipush g dX8_labelled_66 (v := nI 118) (by decide +kernel) ?_
        refine v_callV (As := [.int (nI 118)]) (rest := []) (wr := [(a0_tape, aY C.D 2048 t_a0_tape)]) cw_X8_183 (hy_X8_tell) g (c_R_tell C.l C.D a0 118 v_a0_thrown a0_tape v_a0_taped a0_out v_a0_outs a0_slots a0_kept a0_phase a0_secret a0_key a0_hide a0_iv a0_begin a0_each a0_root a0_power a0_work a0_w a0_h a0_state a0_sum a0_pad a0_text v_a0_texts a0_info 3 a0_made a0_blockKey a0_nonce a0_x a0_first a0_block a0_a a0_r a0_product a0_tag a0_sealed t12 118#8 (by omega) rfl) dX8_labelled_68 0 rfl rfl rfl (by decide) (by decide) (Nat.le_of_ble_eq_true rfl) [0, 1] [2] rfl rfl (by decide) rfl (by decide) (by decide) _ rfl (fun r wo hp13 => ?_)
        obtain ⟨rfl, rfl⟩ := hp13
        refine v_perm [1, 2, 0] [(a0, .inr (8, [.int (nI v_a0_thrown), .ref a0_tape, .int (nI v_a0_taped), .ref a0_out, .int (nI v_a0_outs), .ref a0_slots, .ref a0_kept, .ref a0_phase, .ref a0_secret, .ref a0_key, .ref a0_hide, .ref a0_iv, .ref a0_begin, .ref a0_each, .ref a0_root, .ref a0_power, .ref a0_work, .ref a0_w, .ref a0_h, .ref a0_state, .ref a0_sum, .ref a0_pad, .ref a0_text, .int (nI v_a0_texts), .ref a0_info, .int (nI (3 + 1)), .ref a0_made, .ref a0_blockKey, .ref a0_nonce, .ref a0_x, .ref a0_first, .ref a0_block, .ref a0_a, .ref a0_r, .ref a0_product, .ref a0_tag, .ref a0_sealed])), (a0_info, aY C.D 2400 (va_up t12 3 118#8)), (a0_tape, aY C.D 2048 t_a0_tape)] (by decide) rfl rfl ?_
        show VJ C 0 0 71 [(6, .int (nI (lbN p1 - 3))), (4, .long (lN (lwN p1))), (0, .ref a0), (1, .int (nI p1)), (2, .int (nI p2)), (3, .int (nI p3))] [] [(a0, .inr (8, [.int (nI v_a0_thrown), .ref a0_tape, .int (nI v_a0_taped), .ref a0_out, .int (nI v_a0_outs), .ref a0_slots, .ref a0_kept, .ref a0_phase, .ref a0_secret, .ref a0_key, .ref a0_hide, .ref a0_iv, .ref a0_begin, .ref a0_each, .ref a0_root, .ref a0_power, .ref a0_work, .ref a0_w, .ref a0_h, .ref a0_state, .ref a0_sum, .ref a0_pad, .ref a0_text, .int (nI v_a0_texts), .ref a0_info, .int (nI (3 + 1)), .ref a0_made, .ref a0_blockKey, .ref a0_nonce, .ref a0_x, .ref a0_first, .ref a0_block, .ref a0_a, .ref a0_r, .ref a0_product, .ref a0_tag, .ref a0_sealed])), (a0_info, aY C.D 2400 (va_up t12 3 118#8)), (a0_tape, aY C.D 2048 t_a0_tape)]
        obtain ⟨t14, ht14⟩ : ∃ z : Nat → By, z = va_up t12 3 118#8 := ⟨_, rfl⟩
        rw [← ht14]
        have g4 : ∀ j, j < 3 + 1 → t14 j = infF p1 t_a0_tape p2 p3 j := up_lt (m := 3) g3 (hl.2.2.1.symm.trans (rinf_t _ _ _ (i := 0) (by omega)).symm) ht14
        show VJ C 0 0 71 [(6, .int (nI (lbN p1 - 3))), (4, .long (lN (lwN p1))), (0, .ref a0), (1, .int (nI p1)), (2, .int (nI p2)), (3, .int (nI p3))] [] [(a0, .inr (8, [.int (nI v_a0_thrown), .ref a0_tape, .int (nI v_a0_taped), .ref a0_out, .int (nI v_a0_outs), .ref a0_slots, .ref a0_kept, .ref a0_phase, .ref a0_secret, .ref a0_key, .ref a0_hide, .ref a0_iv, .ref a0_begin, .ref a0_each, .ref a0_root, .ref a0_power, .ref a0_work, .ref a0_w, .ref a0_h, .ref a0_state, .ref a0_sum, .ref a0_pad, .ref a0_text, .int (nI v_a0_texts), .ref a0_info, .int (nI 4), .ref a0_made, .ref a0_blockKey, .ref a0_nonce, .ref a0_x, .ref a0_first, .ref a0_block, .ref a0_a, .ref a0_r, .ref a0_product, .ref a0_tag, .ref a0_sealed])), (a0_info, aY C.D 2400 t14), (a0_tape, aY C.D 2048 t_a0_tape)]
        refine v_aload_n g dX8_labelled_71 0 rfl 2 rfl ?_
        refine v_bipush g dX8_labelled_72 (v := nI 49) (by decide +kernel) ?_
        refine v_callV (As := [.int (nI 49)]) (rest := []) (wr := [(a0_tape, aY C.D 2048 t_a0_tape)]) cw_X8_183 (hy_X8_tell) g (c_R_tell C.l C.D a0 49 v_a0_thrown a0_tape v_a0_taped a0_out v_a0_outs a0_slots a0_kept a0_phase a0_secret a0_key a0_hide a0_iv a0_begin a0_each a0_root a0_power a0_work a0_w a0_h a0_state a0_sum a0_pad a0_text v_a0_texts a0_info 4 a0_made a0_blockKey a0_nonce a0_x a0_first a0_block a0_a a0_r a0_product a0_tag a0_sealed t14 49#8 (by omega) rfl) dX8_labelled_74 0 rfl rfl rfl (by decide) (by decide) (Nat.le_of_ble_eq_true rfl) [0, 1] [2] rfl rfl (by decide) rfl (by decide) (by decide) _ rfl (fun r wo hp15 => ?_)
        obtain ⟨rfl, rfl⟩ := hp15
        refine v_perm [1, 2, 0] [(a0, .inr (8, [.int (nI v_a0_thrown), .ref a0_tape, .int (nI v_a0_taped), .ref a0_out, .int (nI v_a0_outs), .ref a0_slots, .ref a0_kept, .ref a0_phase, .ref a0_secret, .ref a0_key, .ref a0_hide, .ref a0_iv, .ref a0_begin, .ref a0_each, .ref a0_root, .ref a0_power, .ref a0_work, .ref a0_w, .ref a0_h, .ref a0_state, .ref a0_sum, .ref a0_pad, .ref a0_text, .int (nI v_a0_texts), .ref a0_info, .int (nI (4 + 1)), .ref a0_made, .ref a0_blockKey, .ref a0_nonce, .ref a0_x, .ref a0_first, .ref a0_block, .ref a0_a, .ref a0_r, .ref a0_product, .ref a0_tag, .ref a0_sealed])), (a0_info, aY C.D 2400 (va_up t14 4 49#8)), (a0_tape, aY C.D 2048 t_a0_tape)] (by decide) rfl rfl ?_
        show VJ C 0 0 77 [(6, .int (nI (lbN p1 - 3))), (4, .long (lN (lwN p1))), (0, .ref a0), (1, .int (nI p1)), (2, .int (nI p2)), (3, .int (nI p3))] [] [(a0, .inr (8, [.int (nI v_a0_thrown), .ref a0_tape, .int (nI v_a0_taped), .ref a0_out, .int (nI v_a0_outs), .ref a0_slots, .ref a0_kept, .ref a0_phase, .ref a0_secret, .ref a0_key, .ref a0_hide, .ref a0_iv, .ref a0_begin, .ref a0_each, .ref a0_root, .ref a0_power, .ref a0_work, .ref a0_w, .ref a0_h, .ref a0_state, .ref a0_sum, .ref a0_pad, .ref a0_text, .int (nI v_a0_texts), .ref a0_info, .int (nI (4 + 1)), .ref a0_made, .ref a0_blockKey, .ref a0_nonce, .ref a0_x, .ref a0_first, .ref a0_block, .ref a0_a, .ref a0_r, .ref a0_product, .ref a0_tag, .ref a0_sealed])), (a0_info, aY C.D 2400 (va_up t14 4 49#8)), (a0_tape, aY C.D 2048 t_a0_tape)]
        obtain ⟨t16, ht16⟩ : ∃ z : Nat → By, z = va_up t14 4 49#8 := ⟨_, rfl⟩
        rw [← ht16]
        have g5 : ∀ j, j < 4 + 1 → t16 j = infF p1 t_a0_tape p2 p3 j := up_lt (m := 4) g4 (hl.2.2.2.1.symm.trans (rinf_t _ _ _ (i := 1) (by omega)).symm) ht16
        show VJ C 0 0 77 [(6, .int (nI (lbN p1 - 3))), (4, .long (lN (lwN p1))), (0, .ref a0), (1, .int (nI p1)), (2, .int (nI p2)), (3, .int (nI p3))] [] [(a0, .inr (8, [.int (nI v_a0_thrown), .ref a0_tape, .int (nI v_a0_taped), .ref a0_out, .int (nI v_a0_outs), .ref a0_slots, .ref a0_kept, .ref a0_phase, .ref a0_secret, .ref a0_key, .ref a0_hide, .ref a0_iv, .ref a0_begin, .ref a0_each, .ref a0_root, .ref a0_power, .ref a0_work, .ref a0_w, .ref a0_h, .ref a0_state, .ref a0_sum, .ref a0_pad, .ref a0_text, .int (nI v_a0_texts), .ref a0_info, .int (nI 5), .ref a0_made, .ref a0_blockKey, .ref a0_nonce, .ref a0_x, .ref a0_first, .ref a0_block, .ref a0_a, .ref a0_r, .ref a0_product, .ref a0_tag, .ref a0_sealed])), (a0_info, aY C.D 2400 t16), (a0_tape, aY C.D 2048 t_a0_tape)]
        refine v_aload_n g dX8_labelled_77 0 rfl 2 rfl ?_
        refine v_bipush g dX8_labelled_78 (v := nI 32) (by decide +kernel) ?_
        refine v_callV (As := [.int (nI 32)]) (rest := []) (wr := [(a0_tape, aY C.D 2048 t_a0_tape)]) cw_X8_183 (hy_X8_tell) g (c_R_tell C.l C.D a0 32 v_a0_thrown a0_tape v_a0_taped a0_out v_a0_outs a0_slots a0_kept a0_phase a0_secret a0_key a0_hide a0_iv a0_begin a0_each a0_root a0_power a0_work a0_w a0_h a0_state a0_sum a0_pad a0_text v_a0_texts a0_info 5 a0_made a0_blockKey a0_nonce a0_x a0_first a0_block a0_a a0_r a0_product a0_tag a0_sealed t16 32#8 (by omega) rfl) dX8_labelled_80 0 rfl rfl rfl (by decide) (by decide) (Nat.le_of_ble_eq_true rfl) [0, 1] [2] rfl rfl (by decide) rfl (by decide) (by decide) _ rfl (fun r wo hp17 => ?_)
        obtain ⟨rfl, rfl⟩ := hp17
        refine v_perm [1, 2, 0] [(a0, .inr (8, [.int (nI v_a0_thrown), .ref a0_tape, .int (nI v_a0_taped), .ref a0_out, .int (nI v_a0_outs), .ref a0_slots, .ref a0_kept, .ref a0_phase, .ref a0_secret, .ref a0_key, .ref a0_hide, .ref a0_iv, .ref a0_begin, .ref a0_each, .ref a0_root, .ref a0_power, .ref a0_work, .ref a0_w, .ref a0_h, .ref a0_state, .ref a0_sum, .ref a0_pad, .ref a0_text, .int (nI v_a0_texts), .ref a0_info, .int (nI (5 + 1)), .ref a0_made, .ref a0_blockKey, .ref a0_nonce, .ref a0_x, .ref a0_first, .ref a0_block, .ref a0_a, .ref a0_r, .ref a0_product, .ref a0_tag, .ref a0_sealed])), (a0_info, aY C.D 2400 (va_up t16 5 32#8)), (a0_tape, aY C.D 2048 t_a0_tape)] (by decide) rfl rfl ?_
        show VJ C 0 0 83 [(6, .int (nI (lbN p1 - 3))), (4, .long (lN (lwN p1))), (0, .ref a0), (1, .int (nI p1)), (2, .int (nI p2)), (3, .int (nI p3))] [] [(a0, .inr (8, [.int (nI v_a0_thrown), .ref a0_tape, .int (nI v_a0_taped), .ref a0_out, .int (nI v_a0_outs), .ref a0_slots, .ref a0_kept, .ref a0_phase, .ref a0_secret, .ref a0_key, .ref a0_hide, .ref a0_iv, .ref a0_begin, .ref a0_each, .ref a0_root, .ref a0_power, .ref a0_work, .ref a0_w, .ref a0_h, .ref a0_state, .ref a0_sum, .ref a0_pad, .ref a0_text, .int (nI v_a0_texts), .ref a0_info, .int (nI (5 + 1)), .ref a0_made, .ref a0_blockKey, .ref a0_nonce, .ref a0_x, .ref a0_first, .ref a0_block, .ref a0_a, .ref a0_r, .ref a0_product, .ref a0_tag, .ref a0_sealed])), (a0_info, aY C.D 2400 (va_up t16 5 32#8)), (a0_tape, aY C.D 2048 t_a0_tape)]
        obtain ⟨t18, ht18⟩ : ∃ z : Nat → By, z = va_up t16 5 32#8 := ⟨_, rfl⟩
        rw [← ht18]
        have g6 : ∀ j, j < 5 + 1 → t18 j = infF p1 t_a0_tape p2 p3 j := up_lt (m := 5) g5 (hl.2.2.2.2.symm.trans (rinf_t _ _ _ (i := 2) (by omega)).symm) ht18
        show VJ C 0 0 83 [(6, .int (nI (lbN p1 - 3))), (4, .long (lN (lwN p1))), (0, .ref a0), (1, .int (nI p1)), (2, .int (nI p2)), (3, .int (nI p3))] [] [(a0, .inr (8, [.int (nI v_a0_thrown), .ref a0_tape, .int (nI v_a0_taped), .ref a0_out, .int (nI v_a0_outs), .ref a0_slots, .ref a0_kept, .ref a0_phase, .ref a0_secret, .ref a0_key, .ref a0_hide, .ref a0_iv, .ref a0_begin, .ref a0_each, .ref a0_root, .ref a0_power, .ref a0_work, .ref a0_w, .ref a0_h, .ref a0_state, .ref a0_sum, .ref a0_pad, .ref a0_text, .int (nI v_a0_texts), .ref a0_info, .int (nI 6), .ref a0_made, .ref a0_blockKey, .ref a0_nonce, .ref a0_x, .ref a0_first, .ref a0_block, .ref a0_a, .ref a0_r, .ref a0_product, .ref a0_tag, .ref a0_sealed])), (a0_info, aY C.D 2400 t18), (a0_tape, aY C.D 2048 t_a0_tape)]
        refine v_iload g dX8_labelled_83 0 rfl ?_
        refine v_iconst g dX8_labelled_85 (v := nI 1) (by decide +kernel) ?_
        refine v_isubN g dX8_labelled_86 (by omega) ?_
        refine v_toi (nI ((lbN p1 - 3) - 0) - 1) ((dn_eq (by omega)).symm) ?_
        refine v_istore g [(7, .int (nI ((lbN p1 - 3) - 0) - 1)), (6, .int (nI (lbN p1 - 3))), (4, .long (lN (lwN p1))), (0, .ref a0), (1, .int (nI p1)), (2, .int (nI p2)), (3, .int (nI p3))] dX8_labelled_87 (by decide) rfl ?_
        have L89_18 : ∀ i : Nat, i ≤ (lbN p1 - 3) → ∀ (ia : Nat → By) (na : Nat), (na = 6 + i) → (∀ j, j < 6 + i → ia j = infF p1 t_a0_tape p2 p3 j) → VJ C 0 0 89 [(7, .int (nI ((lbN p1 - 3) - i) - 1)), (6, .int (nI (lbN p1 - 3))), (4, .long (lN (lwN p1))), (0, .ref a0), (1, .int (nI p1)), (2, .int (nI p2)), (3, .int (nI p3))] [] [(a0, .inr (8, [.int (nI v_a0_thrown), .ref a0_tape, .int (nI v_a0_taped), .ref a0_out, .int (nI v_a0_outs), .ref a0_slots, .ref a0_kept, .ref a0_phase, .ref a0_secret, .ref a0_key, .ref a0_hide, .ref a0_iv, .ref a0_begin, .ref a0_each, .ref a0_root, .ref a0_power, .ref a0_work, .ref a0_w, .ref a0_h, .ref a0_state, .ref a0_sum, .ref a0_pad, .ref a0_text, .int (nI v_a0_texts), .ref a0_info, .int (nI na), .ref a0_made, .ref a0_blockKey, .ref a0_nonce, .ref a0_x, .ref a0_first, .ref a0_block, .ref a0_a, .ref a0_r, .ref a0_product, .ref a0_tag, .ref a0_sealed])), (a0_info, aY C.D 2400 ia), (a0_tape, aY C.D 2048 t_a0_tape)] := by
          refine v_for ((lbN p1 - 3)) ?_ ?_
          · skip
            intro i hii ih ia na hv0 hv1
            refine v_iload g dX8_labelled_89 0 rfl ?_
            refine v_if_ltD g 117 dX8_labelled_91 (by decide) (by omega) (fun h19 => ?_) (fun h19 => ?_)
            · skip
              exact absurd h19 (by omega)
            · skip
              subst hv0
              show VJ C 0 0 94 [(7, .int (nI ((lbN p1 - 3) - i) - 1)), (6, .int (nI (lbN p1 - 3))), (4, .long (lN (lwN p1))), (0, .ref a0), (1, .int (nI p1)), (2, .int (nI p2)), (3, .int (nI p3))] [] [(a0, .inr (8, [.int (nI v_a0_thrown), .ref a0_tape, .int (nI v_a0_taped), .ref a0_out, .int (nI v_a0_outs), .ref a0_slots, .ref a0_kept, .ref a0_phase, .ref a0_secret, .ref a0_key, .ref a0_hide, .ref a0_iv, .ref a0_begin, .ref a0_each, .ref a0_root, .ref a0_power, .ref a0_work, .ref a0_w, .ref a0_h, .ref a0_state, .ref a0_sum, .ref a0_pad, .ref a0_text, .int (nI v_a0_texts), .ref a0_info, .int (nI (6 + i)), .ref a0_made, .ref a0_blockKey, .ref a0_nonce, .ref a0_x, .ref a0_first, .ref a0_block, .ref a0_a, .ref a0_r, .ref a0_product, .ref a0_tag, .ref a0_sealed])), (a0_info, aY C.D 2400 ia), (a0_tape, aY C.D 2048 t_a0_tape)]
              rw [dn_eq (e := (lbN p1 - 3) - i) (by omega)]
              refine v_aload_n g dX8_labelled_94 0 rfl 3 rfl ?_
              refine v_lload g dX8_labelled_95 2 rfl ?_
              refine v_bipush g dX8_labelled_97 (v := nI 8) (by decide +kernel) ?_
              refine v_iload g dX8_labelled_99 0 rfl ?_
              refine v_imulN g dX8_labelled_101 ?_
              refine v_lshrN g (by omega) (by omega) dX8_labelled_102 ?_
              refine v_ldc2 g dX8_labelled_103 kl_X8_134 ?_
              refine v_landM g 8 (by decide) dX8_labelled_106 ?_
              refine v_l2iN g dX8_labelled_107 ?_
              refine v_callV (As := [.int (nI (((lwN p1) / 2 ^ (8 * ((lbN p1 - 3) - i - 1))) % 2 ^ 8))]) (rest := []) (wr := [(a0_tape, aY C.D 2048 t_a0_tape)]) cw_X8_183 (hy_X8_tell) g (c_R_tell C.l C.D a0 (((lwN p1) / 2 ^ (8 * ((lbN p1 - 3) - i - 1))) % 2 ^ 8) v_a0_thrown a0_tape v_a0_taped a0_out v_a0_outs a0_slots a0_kept a0_phase a0_secret a0_key a0_hide a0_iv a0_begin a0_each a0_root a0_power a0_work a0_w a0_h a0_state a0_sum a0_pad a0_text v_a0_texts a0_info (6 + i) a0_made a0_blockKey a0_nonce a0_x a0_first a0_block a0_a a0_r a0_product a0_tag a0_sealed ia (lbF p1 (3 + i)) (by omega) (by rw [← lw_b p1 h1 i (by omega), BitVec.toNat_ofNat])) dX8_labelled_108 0 rfl rfl rfl (by decide) (by decide) (Nat.le_of_ble_eq_true rfl) [0, 1] [2] rfl rfl (by decide) rfl (by decide) (by decide) _ rfl (fun r wo hp20 => ?_)
              obtain ⟨rfl, rfl⟩ := hp20
              refine v_perm [1, 2, 0] [(a0, .inr (8, [.int (nI v_a0_thrown), .ref a0_tape, .int (nI v_a0_taped), .ref a0_out, .int (nI v_a0_outs), .ref a0_slots, .ref a0_kept, .ref a0_phase, .ref a0_secret, .ref a0_key, .ref a0_hide, .ref a0_iv, .ref a0_begin, .ref a0_each, .ref a0_root, .ref a0_power, .ref a0_work, .ref a0_w, .ref a0_h, .ref a0_state, .ref a0_sum, .ref a0_pad, .ref a0_text, .int (nI v_a0_texts), .ref a0_info, .int (nI ((6 + i) + 1)), .ref a0_made, .ref a0_blockKey, .ref a0_nonce, .ref a0_x, .ref a0_first, .ref a0_block, .ref a0_a, .ref a0_r, .ref a0_product, .ref a0_tag, .ref a0_sealed])), (a0_info, aY C.D 2400 (va_up ia (6 + i) (lbF p1 (3 + i)))), (a0_tape, aY C.D 2048 t_a0_tape)] (by decide) rfl rfl ?_
              show VJ C 0 0 111 [(7, .int (nI ((lbN p1 - 3) - i - 1))), (6, .int (nI (lbN p1 - 3))), (4, .long (lN (lwN p1))), (0, .ref a0), (1, .int (nI p1)), (2, .int (nI p2)), (3, .int (nI p3))] [] [(a0, .inr (8, [.int (nI v_a0_thrown), .ref a0_tape, .int (nI v_a0_taped), .ref a0_out, .int (nI v_a0_outs), .ref a0_slots, .ref a0_kept, .ref a0_phase, .ref a0_secret, .ref a0_key, .ref a0_hide, .ref a0_iv, .ref a0_begin, .ref a0_each, .ref a0_root, .ref a0_power, .ref a0_work, .ref a0_w, .ref a0_h, .ref a0_state, .ref a0_sum, .ref a0_pad, .ref a0_text, .int (nI v_a0_texts), .ref a0_info, .int (nI ((6 + i) + 1)), .ref a0_made, .ref a0_blockKey, .ref a0_nonce, .ref a0_x, .ref a0_first, .ref a0_block, .ref a0_a, .ref a0_r, .ref a0_product, .ref a0_tag, .ref a0_sealed])), (a0_info, aY C.D 2400 (va_up ia (6 + i) (lbF p1 (3 + i)))), (a0_tape, aY C.D 2048 t_a0_tape)]
              obtain ⟨t21, ht21⟩ : ∃ z : Nat → By, z = va_up ia (6 + i) (lbF p1 (3 + i)) := ⟨_, rfl⟩
              rw [← ht21]
              refine v_iinc g (v := nI ((lbN p1 - 3) - i - 1) - 1) [(7, .int (nI ((lbN p1 - 3) - i - 1) - 1)), (6, .int (nI (lbN p1 - 3))), (4, .long (lN (lwN p1))), (0, .ref a0), (1, .int (nI p1)), (2, .int (nI p2)), (3, .int (nI p3))] dX8_labelled_111 0 rfl (dn_i _) (by decide) rfl ?_
              refine v_goto g 89 dX8_labelled_114 (by decide) ?_
              rw [show (lbN p1 - 3) - i - 1 = (lbN p1 - 3) - (i + 1) by omega]
              exact ih t21 ((6 + i) + 1) (by omega) (up_lt (m := 6 + i) hv1 ((rinf_t _ _ _ (i := 3 + i) (by omega)).symm.trans (congrArg (infF p1 t_a0_tape p2 p3) (by omega))) ht21)
          · skip
            intro ia na hv0 hv1
            refine v_iload g dX8_labelled_89 0 rfl ?_
            refine v_if_ltD g 117 dX8_labelled_91 (by decide) (by omega) (fun h22 => ?_) (fun h22 => ?_)
            · skip
              subst hv0
              show VJ C 0 0 117 [(7, .int (nI ((lbN p1 - 3) - (lbN p1 - 3)) - 1)), (6, .int (nI (lbN p1 - 3))), (4, .long (lN (lwN p1))), (0, .ref a0), (1, .int (nI p1)), (2, .int (nI p2)), (3, .int (nI p3))] [] [(a0, .inr (8, [.int (nI v_a0_thrown), .ref a0_tape, .int (nI v_a0_taped), .ref a0_out, .int (nI v_a0_outs), .ref a0_slots, .ref a0_kept, .ref a0_phase, .ref a0_secret, .ref a0_key, .ref a0_hide, .ref a0_iv, .ref a0_begin, .ref a0_each, .ref a0_root, .ref a0_power, .ref a0_work, .ref a0_w, .ref a0_h, .ref a0_state, .ref a0_sum, .ref a0_pad, .ref a0_text, .int (nI v_a0_texts), .ref a0_info, .int (nI (6 + (lbN p1 - 3))), .ref a0_made, .ref a0_blockKey, .ref a0_nonce, .ref a0_x, .ref a0_first, .ref a0_block, .ref a0_a, .ref a0_r, .ref a0_product, .ref a0_tag, .ref a0_sealed])), (a0_info, aY C.D 2400 ia), (a0_tape, aY C.D 2048 t_a0_tape)]
              refine v_aload_n g dX8_labelled_117 0 rfl 3 rfl ?_
              refine v_iload_n g dX8_labelled_118 2 rfl 5 rfl ?_
              refine v_callV (As := [.int (nI p2)]) (rest := []) (wr := [(a0_tape, aY C.D 2048 t_a0_tape)]) cw_X8_183 (hy_X8_tell) g (c_R_tell C.l C.D a0 p2 v_a0_thrown a0_tape v_a0_taped a0_out v_a0_outs a0_slots a0_kept a0_phase a0_secret a0_key a0_hide a0_iv a0_begin a0_each a0_root a0_power a0_work a0_w a0_h a0_state a0_sum a0_pad a0_text v_a0_texts a0_info (6 + (lbN p1 - 3)) a0_made a0_blockKey a0_nonce a0_x a0_first a0_block a0_a a0_r a0_product a0_tag a0_sealed ia (BitVec.ofNat 8 p2) (by omega) (by rw [BitVec.toNat_ofNat]; omega)) dX8_labelled_119 0 rfl rfl rfl (by decide) (by decide) (Nat.le_of_ble_eq_true rfl) [0, 1] [2] rfl rfl (by decide) rfl (by decide) (by decide) _ rfl (fun r wo hp23 => ?_)
              obtain ⟨rfl, rfl⟩ := hp23
              refine v_perm [1, 2, 0] [(a0, .inr (8, [.int (nI v_a0_thrown), .ref a0_tape, .int (nI v_a0_taped), .ref a0_out, .int (nI v_a0_outs), .ref a0_slots, .ref a0_kept, .ref a0_phase, .ref a0_secret, .ref a0_key, .ref a0_hide, .ref a0_iv, .ref a0_begin, .ref a0_each, .ref a0_root, .ref a0_power, .ref a0_work, .ref a0_w, .ref a0_h, .ref a0_state, .ref a0_sum, .ref a0_pad, .ref a0_text, .int (nI v_a0_texts), .ref a0_info, .int (nI ((6 + (lbN p1 - 3)) + 1)), .ref a0_made, .ref a0_blockKey, .ref a0_nonce, .ref a0_x, .ref a0_first, .ref a0_block, .ref a0_a, .ref a0_r, .ref a0_product, .ref a0_tag, .ref a0_sealed])), (a0_info, aY C.D 2400 (va_up ia (6 + (lbN p1 - 3)) (BitVec.ofNat 8 p2))), (a0_tape, aY C.D 2048 t_a0_tape)] (by decide) rfl rfl ?_
              show VJ C 0 0 122 [(7, .int (nI ((lbN p1 - 3) - (lbN p1 - 3)) - 1)), (6, .int (nI (lbN p1 - 3))), (4, .long (lN (lwN p1))), (0, .ref a0), (1, .int (nI p1)), (2, .int (nI p2)), (3, .int (nI p3))] [] [(a0, .inr (8, [.int (nI v_a0_thrown), .ref a0_tape, .int (nI v_a0_taped), .ref a0_out, .int (nI v_a0_outs), .ref a0_slots, .ref a0_kept, .ref a0_phase, .ref a0_secret, .ref a0_key, .ref a0_hide, .ref a0_iv, .ref a0_begin, .ref a0_each, .ref a0_root, .ref a0_power, .ref a0_work, .ref a0_w, .ref a0_h, .ref a0_state, .ref a0_sum, .ref a0_pad, .ref a0_text, .int (nI v_a0_texts), .ref a0_info, .int (nI ((6 + (lbN p1 - 3)) + 1)), .ref a0_made, .ref a0_blockKey, .ref a0_nonce, .ref a0_x, .ref a0_first, .ref a0_block, .ref a0_a, .ref a0_r, .ref a0_product, .ref a0_tag, .ref a0_sealed])), (a0_info, aY C.D 2400 (va_up ia (6 + (lbN p1 - 3)) (BitVec.ofNat 8 p2))), (a0_tape, aY C.D 2048 t_a0_tape)]
              obtain ⟨t24, ht24⟩ : ∃ z : Nat → By, z = va_up ia (6 + (lbN p1 - 3)) (BitVec.ofNat 8 p2) := ⟨_, rfl⟩
              rw [← ht24]
              have g8 : ∀ j, j < 6 + (lbN p1 - 3) + 1 → t24 j = infF p1 t_a0_tape p2 p3 j := up_lt (m := 6 + (lbN p1 - 3)) hv1 ((rinf_c _ _ _ _).symm.trans (congrArg (infF p1 t_a0_tape p2 p3) (by omega))) ht24
              refine v_iconst g dX8_labelled_122 (v := nI 0) (by decide +kernel) ?_
              refine v_istore g [(7, .int (nI 0)), (6, .int (nI (lbN p1 - 3))), (4, .long (lN (lwN p1))), (0, .ref a0), (1, .int (nI p1)), (2, .int (nI p2)), (3, .int (nI p3))] dX8_labelled_123 (by decide) rfl ?_
              have L125_24 : ∀ i : Nat, i ≤ p2 → ∀ (ib : Nat → By) (nb : Nat), (nb = 4 + lbN p1 + i) → (∀ j, j < 4 + lbN p1 + i → ib j = infF p1 t_a0_tape p2 p3 j) → VJ C 0 0 125 [(7, .int (nI i)), (6, .int (nI (lbN p1 - 3))), (4, .long (lN (lwN p1))), (0, .ref a0), (1, .int (nI p1)), (2, .int (nI p2)), (3, .int (nI p3))] [] [(a0, .inr (8, [.int (nI v_a0_thrown), .ref a0_tape, .int (nI v_a0_taped), .ref a0_out, .int (nI v_a0_outs), .ref a0_slots, .ref a0_kept, .ref a0_phase, .ref a0_secret, .ref a0_key, .ref a0_hide, .ref a0_iv, .ref a0_begin, .ref a0_each, .ref a0_root, .ref a0_power, .ref a0_work, .ref a0_w, .ref a0_h, .ref a0_state, .ref a0_sum, .ref a0_pad, .ref a0_text, .int (nI v_a0_texts), .ref a0_info, .int (nI nb), .ref a0_made, .ref a0_blockKey, .ref a0_nonce, .ref a0_x, .ref a0_first, .ref a0_block, .ref a0_a, .ref a0_r, .ref a0_product, .ref a0_tag, .ref a0_sealed])), (a0_info, aY C.D 2400 ib), (a0_tape, aY C.D 2048 t_a0_tape)] := by
                refine v_for (p2) ?_ ?_
                · skip
                  intro i hii ik ib nb hw0 hw1
                  refine v_iload g dX8_labelled_125 0 rfl ?_
                  refine v_iload_n g dX8_labelled_127 2 rfl 5 rfl ?_
                  refine v_icmp_geN g 148 dX8_labelled_128 (by decide) (by omega) (by omega) (fun h25 => ?_) (fun h25 => ?_)
                  · skip
                    exact absurd h25 (by omega)
                  · skip
                    subst hw0
                    show VJ C 0 0 131 [(7, .int (nI i)), (6, .int (nI (lbN p1 - 3))), (4, .long (lN (lwN p1))), (0, .ref a0), (1, .int (nI p1)), (2, .int (nI p2)), (3, .int (nI p3))] [] [(a0, .inr (8, [.int (nI v_a0_thrown), .ref a0_tape, .int (nI v_a0_taped), .ref a0_out, .int (nI v_a0_outs), .ref a0_slots, .ref a0_kept, .ref a0_phase, .ref a0_secret, .ref a0_key, .ref a0_hide, .ref a0_iv, .ref a0_begin, .ref a0_each, .ref a0_root, .ref a0_power, .ref a0_work, .ref a0_w, .ref a0_h, .ref a0_state, .ref a0_sum, .ref a0_pad, .ref a0_text, .int (nI v_a0_texts), .ref a0_info, .int (nI (4 + lbN p1 + i)), .ref a0_made, .ref a0_blockKey, .ref a0_nonce, .ref a0_x, .ref a0_first, .ref a0_block, .ref a0_a, .ref a0_r, .ref a0_product, .ref a0_tag, .ref a0_sealed])), (a0_info, aY C.D 2400 ib), (a0_tape, aY C.D 2048 t_a0_tape)]
                    refine v_aload_n g dX8_labelled_131 0 rfl 3 rfl ?_
                    refine v_aload_n g dX8_labelled_132 0 rfl 3 rfl ?_
                    refine gf_X8_7 g dX8_labelled_133 0 rfl rfl ?_
                    refine v_iload g dX8_labelled_136 0 rfl ?_
                    refine v_ialdY g 2 rfl (by omega) (by decide) dX8_labelled_138 ?_
                    refine v_callV (As := [.int (nI ((t_a0_tape i).toNat))]) (rest := []) (wr := [(a0_tape, aY C.D 2048 t_a0_tape)]) cw_X8_183 (hy_X8_tell) g (c_R_tell C.l C.D a0 ((t_a0_tape i).toNat) v_a0_thrown a0_tape v_a0_taped a0_out v_a0_outs a0_slots a0_kept a0_phase a0_secret a0_key a0_hide a0_iv a0_begin a0_each a0_root a0_power a0_work a0_w a0_h a0_state a0_sum a0_pad a0_text v_a0_texts a0_info (4 + lbN p1 + i) a0_made a0_blockKey a0_nonce a0_x a0_first a0_block a0_a a0_r a0_product a0_tag a0_sealed ib (t_a0_tape i) (by omega) rfl) dX8_labelled_139 0 rfl rfl rfl (by decide) (by decide) (Nat.le_of_ble_eq_true rfl) [0, 1] [2] rfl rfl (by decide) rfl (by decide) (by decide) _ rfl (fun r wo hp26 => ?_)
                    obtain ⟨rfl, rfl⟩ := hp26
                    refine v_perm [1, 2, 0] [(a0, .inr (8, [.int (nI v_a0_thrown), .ref a0_tape, .int (nI v_a0_taped), .ref a0_out, .int (nI v_a0_outs), .ref a0_slots, .ref a0_kept, .ref a0_phase, .ref a0_secret, .ref a0_key, .ref a0_hide, .ref a0_iv, .ref a0_begin, .ref a0_each, .ref a0_root, .ref a0_power, .ref a0_work, .ref a0_w, .ref a0_h, .ref a0_state, .ref a0_sum, .ref a0_pad, .ref a0_text, .int (nI v_a0_texts), .ref a0_info, .int (nI ((4 + lbN p1 + i) + 1)), .ref a0_made, .ref a0_blockKey, .ref a0_nonce, .ref a0_x, .ref a0_first, .ref a0_block, .ref a0_a, .ref a0_r, .ref a0_product, .ref a0_tag, .ref a0_sealed])), (a0_info, aY C.D 2400 (va_up ib (4 + lbN p1 + i) (t_a0_tape i))), (a0_tape, aY C.D 2048 t_a0_tape)] (by decide) rfl rfl ?_
                    show VJ C 0 0 142 [(7, .int (nI i)), (6, .int (nI (lbN p1 - 3))), (4, .long (lN (lwN p1))), (0, .ref a0), (1, .int (nI p1)), (2, .int (nI p2)), (3, .int (nI p3))] [] [(a0, .inr (8, [.int (nI v_a0_thrown), .ref a0_tape, .int (nI v_a0_taped), .ref a0_out, .int (nI v_a0_outs), .ref a0_slots, .ref a0_kept, .ref a0_phase, .ref a0_secret, .ref a0_key, .ref a0_hide, .ref a0_iv, .ref a0_begin, .ref a0_each, .ref a0_root, .ref a0_power, .ref a0_work, .ref a0_w, .ref a0_h, .ref a0_state, .ref a0_sum, .ref a0_pad, .ref a0_text, .int (nI v_a0_texts), .ref a0_info, .int (nI ((4 + lbN p1 + i) + 1)), .ref a0_made, .ref a0_blockKey, .ref a0_nonce, .ref a0_x, .ref a0_first, .ref a0_block, .ref a0_a, .ref a0_r, .ref a0_product, .ref a0_tag, .ref a0_sealed])), (a0_info, aY C.D 2400 (va_up ib (4 + lbN p1 + i) (t_a0_tape i))), (a0_tape, aY C.D 2048 t_a0_tape)]
                    obtain ⟨t27, ht27⟩ : ∃ z : Nat → By, z = va_up ib (4 + lbN p1 + i) (t_a0_tape i) := ⟨_, rfl⟩
                    rw [← ht27]
                    refine v_iincN g 1 [(7, .int (nI (i + 1))), (6, .int (nI (lbN p1 - 3))), (4, .long (lN (lwN p1))), (0, .ref a0), (1, .int (nI p1)), (2, .int (nI p2)), (3, .int (nI p3))] dX8_labelled_142 0 rfl (by decide +kernel) (by decide) rfl ?_
                    refine v_goto g 125 dX8_labelled_145 (by decide) ?_
                    exact ik t27 ((4 + lbN p1 + i) + 1) (by omega) (up_lt (m := 4 + lbN p1 + i) hw1 (rinf_x _ _ _ _ _).symm ht27)
                · skip
                  intro ib nb hw0 hw1
                  refine v_iload g dX8_labelled_125 0 rfl ?_
                  refine v_iload_n g dX8_labelled_127 2 rfl 5 rfl ?_
                  refine v_icmp_geN g 148 dX8_labelled_128 (by decide) (by omega) (by omega) (fun h28 => ?_) (fun h28 => ?_)
                  · skip
                    subst hw0
                    exact v_ret g R dX8_labelled_148 (by decide) (by decide) ⟨ib, rfl, rfl, hw1⟩
                  · skip
                    exact absurd h28 (by omega)
              exact L125_24 0 (by omega) t24 ((6 + (lbN p1 - 3)) + 1) (by omega) (fun j hj => g8 j (by omega))
            · skip
              exact absurd h22 (by omega)
        exact L89_18 0 (by omega) t18 6 rfl g6
      · skip
        exact absurd h6 (by omega)
  exact L9_1 0 (by omega)  
