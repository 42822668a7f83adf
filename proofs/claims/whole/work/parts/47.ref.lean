theorem dX8_multiply_0 : decode cX8_multiply 0 = .ok (.iconst 0, 1) := by decide +kernel
theorem dX8_multiply_1 : decode cX8_multiply 1 = .ok (.istore_n 1, 1) := by decide +kernel
theorem dX8_multiply_2 : decode cX8_multiply 2 = .ok (.iconst 0, 1) := by decide +kernel
theorem dX8_multiply_3 : decode cX8_multiply 3 = .ok (.istore_n 2, 1) := by decide +kernel
theorem dX8_multiply_4 : decode cX8_multiply 4 = .ok (.iload_n 2, 1) := by decide +kernel
theorem dX8_multiply_5 : decode cX8_multiply 5 = .ok (.bipush 36, 2) := by decide +kernel
theorem dX8_multiply_7 : decode cX8_multiply 7 = .ok (.if_icmp .ge 74, 3) := by decide +kernel
theorem dX8_multiply_10 : decode cX8_multiply 10 = .ok (.iconst 0, 1) := by decide +kernel
theorem dX8_multiply_11 : decode cX8_multiply 11 = .ok (.istore_n 3, 1) := by decide +kernel
theorem dX8_multiply_12 : decode cX8_multiply 12 = .ok (.iload_n 3, 1) := by decide +kernel
theorem dX8_multiply_13 : decode cX8_multiply 13 = .ok (.bipush 16, 2) := by decide +kernel
theorem dX8_multiply_15 : decode cX8_multiply 15 = .ok (.if_icmp .ge 44, 3) := by decide +kernel
theorem dX8_multiply_18 : decode cX8_multiply 18 = .ok (.iload_n 3, 1) := by decide +kernel
theorem dX8_multiply_19 : decode cX8_multiply 19 = .ok (.iload_n 2, 1) := by decide +kernel
theorem dX8_multiply_20 : decode cX8_multiply 20 = .ok (.if_icmp .gt 39, 3) := by decide +kernel
theorem dX8_multiply_23 : decode cX8_multiply 23 = .ok (.iload_n 1, 1) := by decide +kernel
theorem dX8_multiply_24 : decode cX8_multiply 24 = .ok (.iload_n 2, 1) := by decide +kernel
theorem dX8_multiply_25 : decode cX8_multiply 25 = .ok (.iload_n 3, 1) := by decide +kernel
theorem dX8_multiply_26 : decode cX8_multiply 26 = .ok (.isub, 1) := by decide +kernel
theorem dX8_multiply_27 : decode cX8_multiply 27 = .ok (.bipush 18, 2) := by decide +kernel
theorem dX8_multiply_29 : decode cX8_multiply 29 = .ok (.if_icmp .ge 21, 3) := by decide +kernel
theorem dX8_multiply_32 : decode cX8_multiply 32 = .ok (.aload_n 0, 1) := by decide +kernel
theorem dX8_multiply_33 : decode cX8_multiply 33 = .ok (.getfield 95, 3) := by decide +kernel
theorem dX8_multiply_36 : decode cX8_multiply 36 = .ok (.iload_n 3, 1) := by decide +kernel
theorem dX8_multiply_37 : decode cX8_multiply 37 = .ok (.iaload, 1) := by decide +kernel
theorem dX8_multiply_38 : decode cX8_multiply 38 = .ok (.aload_n 0, 1) := by decide +kernel
theorem dX8_multiply_39 : decode cX8_multiply 39 = .ok (.getfield 92, 3) := by decide +kernel
theorem dX8_multiply_42 : decode cX8_multiply 42 = .ok (.iload_n 2, 1) := by decide +kernel
theorem dX8_multiply_43 : decode cX8_multiply 43 = .ok (.iload_n 3, 1) := by decide +kernel
theorem dX8_multiply_44 : decode cX8_multiply 44 = .ok (.isub, 1) := by decide +kernel
theorem dX8_multiply_45 : decode cX8_multiply 45 = .ok (.iaload, 1) := by decide +kernel
theorem dX8_multiply_46 : decode cX8_multiply 46 = .ok (.imul, 1) := by decide +kernel
theorem dX8_multiply_47 : decode cX8_multiply 47 = .ok (.goto 4, 3) := by decide +kernel
theorem dX8_multiply_50 : decode cX8_multiply 50 = .ok (.iconst 0, 1) := by decide +kernel
theorem dX8_multiply_51 : decode cX8_multiply 51 = .ok (.iadd, 1) := by decide +kernel
theorem dX8_multiply_52 : decode cX8_multiply 52 = .ok (.istore_n 1, 1) := by decide +kernel
theorem dX8_multiply_53 : decode cX8_multiply 53 = .ok (.iinc 3 1, 3) := by decide +kernel
theorem dX8_multiply_56 : decode cX8_multiply 56 = .ok (.goto (-44), 3) := by decide +kernel
theorem dX8_multiply_59 : decode cX8_multiply 59 = .ok (.aload_n 0, 1) := by decide +kernel
theorem dX8_multiply_60 : decode cX8_multiply 60 = .ok (.getfield 98, 3) := by decide +kernel
theorem dX8_multiply_63 : decode cX8_multiply 63 = .ok (.iload_n 2, 1) := by decide +kernel
theorem dX8_multiply_64 : decode cX8_multiply 64 = .ok (.iload_n 1, 1) := by decide +kernel
theorem dX8_multiply_65 : decode cX8_multiply 65 = .ok (.sipush 255, 3) := by decide +kernel
theorem dX8_multiply_68 : decode cX8_multiply 68 = .ok (.iand, 1) := by decide +kernel
theorem dX8_multiply_69 : decode cX8_multiply 69 = .ok (.iastore, 1) := by decide +kernel
theorem dX8_multiply_70 : decode cX8_multiply 70 = .ok (.iload_n 1, 1) := by decide +kernel
theorem dX8_multiply_71 : decode cX8_multiply 71 = .ok (.bipush 8, 2) := by decide +kernel
theorem dX8_multiply_73 : decode cX8_multiply 73 = .ok (.ishr, 1) := by decide +kernel
theorem dX8_multiply_74 : decode cX8_multiply 74 = .ok (.istore_n 1, 1) := by decide +kernel
theorem dX8_multiply_75 : decode cX8_multiply 75 = .ok (.iinc 2 1, 3) := by decide +kernel
theorem dX8_multiply_78 : decode cX8_multiply 78 = .ok (.goto (-74), 3) := by decide +kernel
theorem dX8_multiply_81 : decode cX8_multiply 81 = .ok (.iconst 0, 1) := by decide +kernel
theorem dX8_multiply_82 : decode cX8_multiply 82 = .ok (.istore_n 2, 1) := by decide +kernel
theorem dX8_multiply_83 : decode cX8_multiply 83 = .ok (.iload_n 2, 1) := by decide +kernel
theorem dX8_multiply_84 : decode cX8_multiply 84 = .ok (.iconst 2, 1) := by decide +kernel
theorem dX8_multiply_85 : decode cX8_multiply 85 = .ok (.if_icmp .ge 163, 3) := by decide +kernel
theorem dX8_multiply_88 : decode cX8_multiply 88 = .ok (.iconst 0, 1) := by decide +kernel
theorem dX8_multiply_89 : decode cX8_multiply 89 = .ok (.istore_n 1, 1) := by decide +kernel
theorem dX8_multiply_90 : decode cX8_multiply 90 = .ok (.iconst 0, 1) := by decide +kernel
theorem dX8_multiply_91 : decode cX8_multiply 91 = .ok (.istore_n 3, 1) := by decide +kernel
theorem dX8_multiply_92 : decode cX8_multiply 92 = .ok (.iload_n 3, 1) := by decide +kernel
theorem dX8_multiply_93 : decode cX8_multiply 93 = .ok (.bipush 36, 2) := by decide +kernel
theorem dX8_multiply_95 : decode cX8_multiply 95 = .ok (.if_icmp .ge 121, 3) := by decide +kernel
theorem dX8_multiply_98 : decode cX8_multiply 98 = .ok (.iload_n 3, 1) := by decide +kernel
theorem dX8_multiply_99 : decode cX8_multiply 99 = .ok (.bipush 18, 2) := by decide +kernel
theorem dX8_multiply_101 : decode cX8_multiply 101 = .ok (.if_icmp .ge 45, 3) := by decide +kernel
theorem dX8_multiply_104 : decode cX8_multiply 104 = .ok (.aload_n 0, 1) := by decide +kernel
theorem dX8_multiply_105 : decode cX8_multiply 105 = .ok (.getfield 98, 3) := by decide +kernel
theorem dX8_multiply_108 : decode cX8_multiply 108 = .ok (.bipush 16, 2) := by decide +kernel
theorem dX8_multiply_110 : decode cX8_multiply 110 = .ok (.iload_n 3, 1) := by decide +kernel
theorem dX8_multiply_111 : decode cX8_multiply 111 = .ok (.iadd, 1) := by decide +kernel
theorem dX8_multiply_112 : decode cX8_multiply 112 = .ok (.iaload, 1) := by decide +kernel
theorem dX8_multiply_113 : decode cX8_multiply 113 = .ok (.iconst 2, 1) := by decide +kernel
theorem dX8_multiply_114 : decode cX8_multiply 114 = .ok (.ishr, 1) := by decide +kernel
theorem dX8_multiply_115 : decode cX8_multiply 115 = .ok (.bipush 17, 2) := by decide +kernel
theorem dX8_multiply_117 : decode cX8_multiply 117 = .ok (.iload_n 3, 1) := by decide +kernel
theorem dX8_multiply_118 : decode cX8_multiply 118 = .ok (.iadd, 1) := by decide +kernel
theorem dX8_multiply_119 : decode cX8_multiply 119 = .ok (.bipush 36, 2) := by decide +kernel
theorem dX8_multiply_121 : decode cX8_multiply 121 = .ok (.if_icmp .ge 17, 3) := by decide +kernel
theorem dX8_multiply_124 : decode cX8_multiply 124 = .ok (.aload_n 0, 1) := by decide +kernel
theorem dX8_multiply_125 : decode cX8_multiply 125 = .ok (.getfield 98, 3) := by decide +kernel
theorem dX8_multiply_128 : decode cX8_multiply 128 = .ok (.bipush 17, 2) := by decide +kernel
theorem dX8_multiply_130 : decode cX8_multiply 130 = .ok (.iload_n 3, 1) := by decide +kernel
theorem dX8_multiply_131 : decode cX8_multiply 131 = .ok (.iadd, 1) := by decide +kernel
theorem dX8_multiply_132 : decode cX8_multiply 132 = .ok (.iaload, 1) := by decide +kernel
theorem dX8_multiply_133 : decode cX8_multiply 133 = .ok (.iconst 3, 1) := by decide +kernel
theorem dX8_multiply_134 : decode cX8_multiply 134 = .ok (.iand, 1) := by decide +kernel
theorem dX8_multiply_135 : decode cX8_multiply 135 = .ok (.goto 4, 3) := by decide +kernel
theorem dX8_multiply_138 : decode cX8_multiply 138 = .ok (.iconst 0, 1) := by decide +kernel
theorem dX8_multiply_139 : decode cX8_multiply 139 = .ok (.bipush 6, 2) := by decide +kernel
theorem dX8_multiply_141 : decode cX8_multiply 141 = .ok (.ishl, 1) := by decide +kernel
theorem dX8_multiply_142 : decode cX8_multiply 142 = .ok (.ior, 1) := by decide +kernel
theorem dX8_multiply_143 : decode cX8_multiply 143 = .ok (.goto 4, 3) := by decide +kernel
theorem dX8_multiply_146 : decode cX8_multiply 146 = .ok (.iconst 0, 1) := by decide +kernel
theorem dX8_multiply_147 : decode cX8_multiply 147 = .ok (.istore 4, 2) := by decide +kernel
theorem dX8_multiply_149 : decode cX8_multiply 149 = .ok (.iload_n 3, 1) := by decide +kernel
theorem dX8_multiply_150 : decode cX8_multiply 150 = .ok (.bipush 16, 2) := by decide +kernel
theorem dX8_multiply_152 : decode cX8_multiply 152 = .ok (.if_icmp .ge 12, 3) := by decide +kernel
theorem dX8_multiply_155 : decode cX8_multiply 155 = .ok (.aload_n 0, 1) := by decide +kernel
theorem dX8_multiply_156 : decode cX8_multiply 156 = .ok (.getfield 98, 3) := by decide +kernel
theorem dX8_multiply_159 : decode cX8_multiply 159 = .ok (.iload_n 3, 1) := by decide +kernel
theorem dX8_multiply_160 : decode cX8_multiply 160 = .ok (.iaload, 1) := by decide +kernel
theorem dX8_multiply_161 : decode cX8_multiply 161 = .ok (.goto 21, 3) := by decide +kernel
theorem dX8_multiply_164 : decode cX8_multiply 164 = .ok (.iload_n 3, 1) := by decide +kernel
theorem dX8_multiply_165 : decode cX8_multiply 165 = .ok (.bipush 16, 2) := by decide +kernel
theorem dX8_multiply_167 : decode cX8_multiply 167 = .ok (.if_icmp .ne 14, 3) := by decide +kernel
theorem dX8_multiply_170 : decode cX8_multiply 170 = .ok (.aload_n 0, 1) := by decide +kernel
theorem dX8_multiply_171 : decode cX8_multiply 171 = .ok (.getfield 98, 3) := by decide +kernel
theorem dX8_multiply_174 : decode cX8_multiply 174 = .ok (.iload_n 3, 1) := by decide +kernel
theorem dX8_multiply_175 : decode cX8_multiply 175 = .ok (.iaload, 1) := by decide +kernel
theorem dX8_multiply_176 : decode cX8_multiply 176 = .ok (.iconst 3, 1) := by decide +kernel
theorem dX8_multiply_177 : decode cX8_multiply 177 = .ok (.iand, 1) := by decide +kernel
theorem dX8_multiply_178 : decode cX8_multiply 178 = .ok (.goto 4, 3) := by decide +kernel
theorem dX8_multiply_181 : decode cX8_multiply 181 = .ok (.iconst 0, 1) := by decide +kernel
theorem dX8_multiply_182 : decode cX8_multiply 182 = .ok (.istore 5, 2) := by decide +kernel
theorem dX8_multiply_184 : decode cX8_multiply 184 = .ok (.iload_n 1, 1) := by decide +kernel
theorem dX8_multiply_185 : decode cX8_multiply 185 = .ok (.iload 5, 2) := by decide +kernel
theorem dX8_multiply_187 : decode cX8_multiply 187 = .ok (.iconst 5, 1) := by decide +kernel
theorem dX8_multiply_188 : decode cX8_multiply 188 = .ok (.iload 4, 2) := by decide +kernel
theorem dX8_multiply_190 : decode cX8_multiply 190 = .ok (.imul, 1) := by decide +kernel
theorem dX8_multiply_191 : decode cX8_multiply 191 = .ok (.iadd, 1) := by decide +kernel
theorem dX8_multiply_192 : decode cX8_multiply 192 = .ok (.iadd, 1) := by decide +kernel
theorem dX8_multiply_193 : decode cX8_multiply 193 = .ok (.istore_n 1, 1) := by decide +kernel
theorem dX8_multiply_194 : decode cX8_multiply 194 = .ok (.aload_n 0, 1) := by decide +kernel
theorem dX8_multiply_195 : decode cX8_multiply 195 = .ok (.getfield 92, 3) := by decide +kernel
theorem dX8_multiply_198 : decode cX8_multiply 198 = .ok (.iload_n 3, 1) := by decide +kernel
theorem dX8_multiply_199 : decode cX8_multiply 199 = .ok (.iload_n 1, 1) := by decide +kernel
theorem dX8_multiply_200 : decode cX8_multiply 200 = .ok (.sipush 255, 3) := by decide +kernel
theorem dX8_multiply_203 : decode cX8_multiply 203 = .ok (.iand, 1) := by decide +kernel
theorem dX8_multiply_204 : decode cX8_multiply 204 = .ok (.iastore, 1) := by decide +kernel
theorem dX8_multiply_205 : decode cX8_multiply 205 = .ok (.iload_n 1, 1) := by decide +kernel
theorem dX8_multiply_206 : decode cX8_multiply 206 = .ok (.bipush 8, 2) := by decide +kernel
theorem dX8_multiply_208 : decode cX8_multiply 208 = .ok (.ishr, 1) := by decide +kernel
theorem dX8_multiply_209 : decode cX8_multiply 209 = .ok (.istore_n 1, 1) := by decide +kernel
theorem dX8_multiply_210 : decode cX8_multiply 210 = .ok (.iinc 3 1, 3) := by decide +kernel
theorem dX8_multiply_213 : decode cX8_multiply 213 = .ok (.goto (-121), 3) := by decide +kernel
theorem dX8_multiply_216 : decode cX8_multiply 216 = .ok (.iconst 0, 1) := by decide +kernel
theorem dX8_multiply_217 : decode cX8_multiply 217 = .ok (.istore_n 3, 1) := by decide +kernel
theorem dX8_multiply_218 : decode cX8_multiply 218 = .ok (.iload_n 3, 1) := by decide +kernel
theorem dX8_multiply_219 : decode cX8_multiply 219 = .ok (.bipush 36, 2) := by decide +kernel
theorem dX8_multiply_221 : decode cX8_multiply 221 = .ok (.if_icmp .ge 21, 3) := by decide +kernel
theorem dX8_multiply_224 : decode cX8_multiply 224 = .ok (.aload_n 0, 1) := by decide +kernel
theorem dX8_multiply_225 : decode cX8_multiply 225 = .ok (.getfield 98, 3) := by decide +kernel
theorem dX8_multiply_228 : decode cX8_multiply 228 = .ok (.iload_n 3, 1) := by decide +kernel
theorem dX8_multiply_229 : decode cX8_multiply 229 = .ok (.aload_n 0, 1) := by decide +kernel
theorem dX8_multiply_230 : decode cX8_multiply 230 = .ok (.getfield 92, 3) := by decide +kernel
theorem dX8_multiply_233 : decode cX8_multiply 233 = .ok (.iload_n 3, 1) := by decide +kernel
theorem dX8_multiply_234 : decode cX8_multiply 234 = .ok (.iaload, 1) := by decide +kernel
theorem dX8_multiply_235 : decode cX8_multiply 235 = .ok (.iastore, 1) := by decide +kernel
theorem dX8_multiply_236 : decode cX8_multiply 236 = .ok (.iinc 3 1, 3) := by decide +kernel
theorem dX8_multiply_239 : decode cX8_multiply 239 = .ok (.goto (-21), 3) := by decide +kernel
theorem dX8_multiply_242 : decode cX8_multiply 242 = .ok (.iinc 2 1, 3) := by decide +kernel
theorem dX8_multiply_245 : decode cX8_multiply 245 = .ok (.goto (-162), 3) := by decide +kernel
theorem dX8_multiply_248 : decode cX8_multiply 248 = .ok (.return_, 1) := by decide +kernel
set_option maxHeartbeats 4000000 in
set_option maxRecDepth 100000 in
theorem c_R_mul (l : Launch) (D : va_G) (a0 : Nat) (v_a0_thrown : Nat) (a0_tape : Nat) (v_a0_taped : Nat) (a0_out : Nat) (v_a0_outs : Nat) (a0_slots : Nat) (a0_kept : Nat) (a0_phase : Nat) (a0_secret : Nat) (a0_key : Nat) (a0_hide : Nat) (a0_iv : Nat) (a0_begin : Nat) (a0_each : Nat) (a0_root : Nat) (a0_power : Nat) (a0_work : Nat) (a0_w : Nat) (a0_h : Nat) (a0_state : Nat) (a0_sum : Nat) (a0_pad : Nat) (a0_text : Nat) (v_a0_texts : Nat) (a0_info : Nat) (v_a0_infos : Nat) (a0_made : Nat) (a0_blockKey : Nat) (a0_nonce : Nat) (a0_x : Nat) (a0_first : Nat) (a0_block : Nat) (a0_a : Nat) (a0_r : Nat) (a0_product : Nat) (a0_tag : Nat) (a0_sealed : Nat) (t_a0_a : Nat → By) (t_a0_r : Nat → By) (t_a0_product : Nat → By)  (h1 : leN t_a0_a 18 < 2 ^ 132) (h2 : leN t_a0_r 16 < 2 ^ 124) : vM l D yX8_multiply cX8_multiply 6 none { frames := 0, cells := 0, slots := 0, locals := 0 } [.ref a0] [(a0, .inr (8, [.int (nI v_a0_thrown), .ref a0_tape, .int (nI v_a0_taped), .ref a0_out, .int (nI v_a0_outs), .ref a0_slots, .ref a0_kept, .ref a0_phase, .ref a0_secret, .ref a0_key, .ref a0_hide, .ref a0_iv, .ref a0_begin, .ref a0_each, .ref a0_root, .ref a0_power, .ref a0_work, .ref a0_w, .ref a0_h, .ref a0_state, .ref a0_sum, .ref a0_pad, .ref a0_text, .int (nI v_a0_texts), .ref a0_info, .int (nI v_a0_infos), .ref a0_made, .ref a0_blockKey, .ref a0_nonce, .ref a0_x, .ref a0_first, .ref a0_block, .ref a0_a, .ref a0_r, .ref a0_product, .ref a0_tag, .ref a0_sealed])), (a0_a, aY D 40 t_a0_a), (a0_r, aY D 16 t_a0_r), (a0_product, aY D 40 t_a0_product)] (fun r wo => ∃ (ta : Nat → By) (tp : Nat → By), r = none ∧ wo = [(a0, .inr (8, [.int (nI v_a0_thrown), .ref a0_tape, .int (nI v_a0_taped), .ref a0_out, .int (nI v_a0_outs), .ref a0_slots, .ref a0_kept, .ref a0_phase, .ref a0_secret, .ref a0_key, .ref a0_hide, .ref a0_iv, .ref a0_begin, .ref a0_each, .ref a0_root, .ref a0_power, .ref a0_work, .ref a0_w, .ref a0_h, .ref a0_state, .ref a0_sum, .ref a0_pad, .ref a0_text, .int (nI v_a0_texts), .ref a0_info, .int (nI v_a0_infos), .ref a0_made, .ref a0_blockKey, .ref a0_nonce, .ref a0_x, .ref a0_first, .ref a0_block, .ref a0_a, .ref a0_r, .ref a0_product, .ref a0_tag, .ref a0_sealed])), (a0_a, aY D 40 ta), (a0_r, aY D 16 t_a0_r), (a0_product, aY D 40 tp)] ∧ (leN ta 18 < 2 ^ 130 + 5) ∧ (leN ta 18 % po_p = leN t_a0_a 18 * leN t_a0_r 16 % po_p)) := by
  refine vM.of (by decide) (Nat.le_of_ble_eq_true rfl) (fun C hCl hCD g R => ?_)
  subst hCl; subst hCD
  show VJ C 0 0 0 [(0, .ref a0)] [] [(a0, .inr (8, [.int (nI v_a0_thrown), .ref a0_tape, .int (nI v_a0_taped), .ref a0_out, .int (nI v_a0_outs), .ref a0_slots, .ref a0_kept, .ref a0_phase, .ref a0_secret, .ref a0_key, .ref a0_hide, .ref a0_iv, .ref a0_begin, .ref a0_each, .ref a0_root, .ref a0_power, .ref a0_work, .ref a0_w, .ref a0_h, .ref a0_state, .ref a0_sum, .ref a0_pad, .ref a0_text, .int (nI v_a0_texts), .ref a0_info, .int (nI v_a0_infos), .ref a0_made, .ref a0_blockKey, .ref a0_nonce, .ref a0_x, .ref a0_first, .ref a0_block, .ref a0_a, .ref a0_r, .ref a0_product, .ref a0_tag, .ref a0_sealed])), (a0_a, aY C.D 40 t_a0_a), (a0_r, aY C.D 16 t_a0_r), (a0_product, aY C.D 40 t_a0_product)]
  refine v_iconst g dX8_multiply_0 (v := nI 0) (by decide +kernel) ?_
  refine v_istore_n g [(1, .int (nI 0)), (0, .ref a0)] dX8_multiply_1 1 rfl (by decide) rfl ?_
  refine v_iconst g dX8_multiply_2 (v := nI 0) (by decide +kernel) ?_
  refine v_istore_n g [(2, .int (nI 0)), (1, .int (nI 0)), (0, .ref a0)] dX8_multiply_3 2 rfl (by decide) rfl ?_
  have L4_0 : ∀ k : Nat, k ≤ 36 → ∀ (cy : Nat) (tp : Nat → By), (leN tp k + cy * 256 ^ k = dsm (fun k => cv t_a0_r t_a0_a k 16) k) → (cy ≤ 2 ^ 20) → VJ C 0 0 4 [(2, .int (nI k)), (1, .int (nI cy)), (0, .ref a0)] [] [(a0, .inr (8, [.int (nI v_a0_thrown), .ref a0_tape, .int (nI v_a0_taped), .ref a0_out, .int (nI v_a0_outs), .ref a0_slots, .ref a0_kept, .ref a0_phase, .ref a0_secret, .ref a0_key, .ref a0_hide, .ref a0_iv, .ref a0_begin, .ref a0_each, .ref a0_root, .ref a0_power, .ref a0_work, .ref a0_w, .ref a0_h, .ref a0_state, .ref a0_sum, .ref a0_pad, .ref a0_text, .int (nI v_a0_texts), .ref a0_info, .int (nI v_a0_infos), .ref a0_made, .ref a0_blockKey, .ref a0_nonce, .ref a0_x, .ref a0_first, .ref a0_block, .ref a0_a, .ref a0_r, .ref a0_product, .ref a0_tag, .ref a0_sealed])), (a0_a, aY C.D 40 t_a0_a), (a0_r, aY C.D 16 t_a0_r), (a0_product, aY C.D 40 tp)] := by
    refine v_for (36) ?_ ?_
    · skip
      intro k hik ih cy tp hv0 hv1
      refine v_iload_n g dX8_multiply_4 2 rfl 0 rfl ?_
      refine v_bipush g dX8_multiply_5 (v := nI 36) (by decide +kernel) ?_
      refine v_icmp_geN g 81 dX8_multiply_7 (by decide) (by omega) (by omega) (fun h3 => ?_) (fun h3 => ?_)
      · skip
        exact absurd h3 (by omega)
      · skip
        refine v_iconst g dX8_multiply_10 (v := nI 0) (by decide +kernel) ?_
        refine v_istore_n g [(3, .int (nI 0)), (2, .int (nI k)), (1, .int (nI cy)), (0, .ref a0)] dX8_multiply_11 3 rfl (by decide) rfl ?_
        have J59 : ∀ (cz : Nat), (cz = cy + cv t_a0_r t_a0_a k 16) → VJ C 0 0 59 [(2, .int (nI k)), (1, .int (nI cz)), (0, .ref a0)] [] [(a0, .inr (8, [.int (nI v_a0_thrown), .ref a0_tape, .int (nI v_a0_taped), .ref a0_out, .int (nI v_a0_outs), .ref a0_slots, .ref a0_kept, .ref a0_phase, .ref a0_secret, .ref a0_key, .ref a0_hide, .ref a0_iv, .ref a0_begin, .ref a0_each, .ref a0_root, .ref a0_power, .ref a0_work, .ref a0_w, .ref a0_h, .ref a0_state, .ref a0_sum, .ref a0_pad, .ref a0_text, .int (nI v_a0_texts), .ref a0_info, .int (nI v_a0_infos), .ref a0_made, .ref a0_blockKey, .ref a0_nonce, .ref a0_x, .ref a0_first, .ref a0_block, .ref a0_a, .ref a0_r, .ref a0_product, .ref a0_tag, .ref a0_sealed])), (a0_a, aY C.D 40 t_a0_a), (a0_r, aY C.D 16 t_a0_r), (a0_product, aY C.D 40 tp)] := by
          intro cz hj0
          subst hj0
          show VJ C 0 0 59 [(2, .int (nI k)), (1, .int (nI (cy + cv t_a0_r t_a0_a k 16))), (0, .ref a0)] [] [(a0, .inr (8, [.int (nI v_a0_thrown), .ref a0_tape, .int (nI v_a0_taped), .ref a0_out, .int (nI v_a0_outs), .ref a0_slots, .ref a0_kept, .ref a0_phase, .ref a0_secret, .ref a0_key, .ref a0_hide, .ref a0_iv, .ref a0_begin, .ref a0_each, .ref a0_root, .ref a0_power, .ref a0_work, .ref a0_w, .ref a0_h, .ref a0_state, .ref a0_sum, .ref a0_pad, .ref a0_text, .int (nI v_a0_texts), .ref a0_info, .int (nI v_a0_infos), .ref a0_made, .ref a0_blockKey, .ref a0_nonce, .ref a0_x, .ref a0_first, .ref a0_block, .ref a0_a, .ref a0_r, .ref a0_product, .ref a0_tag, .ref a0_sealed])), (a0_a, aY C.D 40 t_a0_a), (a0_r, aY C.D 16 t_a0_r), (a0_product, aY C.D 40 tp)]
          have hcl := cv_le t_a0_r t_a0_a k 16
          refine v_aload_n g dX8_multiply_59 0 rfl 2 rfl ?_
          refine gf_X8_98 g dX8_multiply_60 0 rfl rfl ?_
          refine v_iload_n g dX8_multiply_63 2 rfl 0 rfl ?_
          refine v_iload_n g dX8_multiply_64 1 rfl 1 rfl ?_
          refine v_sipush g dX8_multiply_65 (v := nI 255) (by decide +kernel) ?_
          refine v_iandM g 8 (by decide) dX8_multiply_68 ?_
          obtain ⟨t4, ht4⟩ : ∃ z : Nat → By, z = va_up tp k (BitVec.ofNat 8 (cy + cv t_a0_r t_a0_a k 16)) := ⟨_, rfl⟩
          refine v_iastY g (BitVec.ofNat 8 (cy + cv t_a0_r t_a0_a k 16)) (congrArg nI (BitVec.toNat_ofNat _ _).symm) t4 ht4 3 [(a0, .inr (8, [.int (nI v_a0_thrown), .ref a0_tape, .int (nI v_a0_taped), .ref a0_out, .int (nI v_a0_outs), .ref a0_slots, .ref a0_kept, .ref a0_phase, .ref a0_secret, .ref a0_key, .ref a0_hide, .ref a0_iv, .ref a0_begin, .ref a0_each, .ref a0_root, .ref a0_power, .ref a0_work, .ref a0_w, .ref a0_h, .ref a0_state, .ref a0_sum, .ref a0_pad, .ref a0_text, .int (nI v_a0_texts), .ref a0_info, .int (nI v_a0_infos), .ref a0_made, .ref a0_blockKey, .ref a0_nonce, .ref a0_x, .ref a0_first, .ref a0_block, .ref a0_a, .ref a0_r, .ref a0_product, .ref a0_tag, .ref a0_sealed])), (a0_a, aY C.D 40 t_a0_a), (a0_r, aY C.D 16 t_a0_r), (a0_product, aY C.D 40 t4)] rfl (by omega) (by decide) dX8_multiply_69 rfl ?_
          refine v_iload_n g dX8_multiply_70 1 rfl 1 rfl ?_
          refine v_bipush g dX8_multiply_71 (v := nI 8) (by decide +kernel) ?_
          refine v_ishrN g (by omega) (by omega) dX8_multiply_73 ?_
          refine v_istore_n g [(1, .int (nI ((cy + cv t_a0_r t_a0_a k 16) / 2 ^ 8))), (2, .int (nI k)), (0, .ref a0)] dX8_multiply_74 1 rfl (by decide) rfl ?_
          refine v_iincN g 1 [(2, .int (nI (k + 1))), (1, .int (nI ((cy + cv t_a0_r t_a0_a k 16) / 2 ^ 8))), (0, .ref a0)] dX8_multiply_75 1 rfl (by decide +kernel) (by decide) rfl ?_
          refine v_goto g 4 dX8_multiply_78 (by decide) ?_
          exact ih ((cy + cv t_a0_r t_a0_a k 16) / 2 ^ 8) t4 (cy_s hv0 ht4) (by omega)
        have L12_4 : ∀ i : Nat, i ≤ (min 16 (k + 1)) → ∀ (ci : Nat), (ci = cy + cv t_a0_r t_a0_a k i) → VJ C 0 0 12 [(3, .int (nI i)), (2, .int (nI k)), (1, .int (nI ci)), (0, .ref a0)] [] [(a0, .inr (8, [.int (nI v_a0_thrown), .ref a0_tape, .int (nI v_a0_taped), .ref a0_out, .int (nI v_a0_outs), .ref a0_slots, .ref a0_kept, .ref a0_phase, .ref a0_secret, .ref a0_key, .ref a0_hide, .ref a0_iv, .ref a0_begin, .ref a0_each, .ref a0_root, .ref a0_power, .ref a0_work, .ref a0_w, .ref a0_h, .ref a0_state, .ref a0_sum, .ref a0_pad, .ref a0_text, .int (nI v_a0_texts), .ref a0_info, .int (nI v_a0_infos), .ref a0_made, .ref a0_blockKey, .ref a0_nonce, .ref a0_x, .ref a0_first, .ref a0_block, .ref a0_a, .ref a0_r, .ref a0_product, .ref a0_tag, .ref a0_sealed])), (a0_a, aY C.D 40 t_a0_a), (a0_r, aY C.D 16 t_a0_r), (a0_product, aY C.D 40 tp)] := by
          refine v_for ((min 16 (k + 1))) ?_ ?_
          · skip
            intro i hii ik ci hw0
            refine v_iload_n g dX8_multiply_12 3 rfl 0 rfl ?_
            refine v_bipush g dX8_multiply_13 (v := nI 16) (by decide +kernel) ?_
            refine v_icmp_geN g 59 dX8_multiply_15 (by decide) (by omega) (by omega) (fun h => absurd h (by omega)) (fun _ => ?_)
            refine v_iload_n g dX8_multiply_18 3 rfl 0 rfl ?_
            refine v_iload_n g dX8_multiply_19 2 rfl 1 rfl ?_
            refine v_icmp_gtN g 59 dX8_multiply_20 (by decide) (by omega) (by omega) (fun h5 => ?_) (fun h5 => ?_)
            · skip
              exact absurd h5 (by omega)
            · skip
              subst hw0
              show VJ C 0 0 23 [(3, .int (nI i)), (2, .int (nI k)), (1, .int (nI (cy + cv t_a0_r t_a0_a k i))), (0, .ref a0)] [] [(a0, .inr (8, [.int (nI v_a0_thrown), .ref a0_tape, .int (nI v_a0_taped), .ref a0_out, .int (nI v_a0_outs), .ref a0_slots, .ref a0_kept, .ref a0_phase, .ref a0_secret, .ref a0_key, .ref a0_hide, .ref a0_iv, .ref a0_begin, .ref a0_each, .ref a0_root, .ref a0_power, .ref a0_work, .ref a0_w, .ref a0_h, .ref a0_state, .ref a0_sum, .ref a0_pad, .ref a0_text, .int (nI v_a0_texts), .ref a0_info, .int (nI v_a0_infos), .ref a0_made, .ref a0_blockKey, .ref a0_nonce, .ref a0_x, .ref a0_first, .ref a0_block, .ref a0_a, .ref a0_r, .ref a0_product, .ref a0_tag, .ref a0_sealed])), (a0_a, aY C.D 40 t_a0_a), (a0_r, aY C.D 16 t_a0_r), (a0_product, aY C.D 40 tp)]
              have hcl := cv_le t_a0_r t_a0_a k i
              refine v_iload_n g dX8_multiply_23 1 rfl 2 rfl ?_
              refine v_iload_n g dX8_multiply_24 2 rfl 1 rfl ?_
              refine v_iload_n g dX8_multiply_25 3 rfl 0 rfl ?_
              refine v_isubN g dX8_multiply_26 (by omega) ?_
              refine v_bipush g dX8_multiply_27 (v := nI 18) (by decide +kernel) ?_
              refine v_icmp_geN g 50 dX8_multiply_29 (by decide) (by omega) (by omega) (fun h6 => ?_) (fun h6 => ?_)
              · skip
                refine v_iconst g dX8_multiply_50 (v := nI 0) (by decide +kernel) ?_
                refine v_iaddN g dX8_multiply_51 ?_
                refine v_istore_n g [(1, .int (nI ((cy + cv t_a0_r t_a0_a k i) + 0))), (3, .int (nI i)), (2, .int (nI k)), (0, .ref a0)] dX8_multiply_52 1 rfl (by decide) rfl ?_
                refine v_iincN g 1 [(3, .int (nI (i + 1))), (1, .int (nI ((cy + cv t_a0_r t_a0_a k i) + 0))), (2, .int (nI k)), (0, .ref a0)] dX8_multiply_53 1 rfl (by decide +kernel) (by decide) rfl ?_
                refine v_goto g 12 dX8_multiply_56 (by decide) ?_
                refine v_lpick [0, 2, 1, 3] [(3, .int (nI (i + 1))), (2, .int (nI k)), (1, .int (nI ((cy + cv t_a0_r t_a0_a k i) + 0))), (0, .ref a0)] rfl ?_
                exact ik ((cy + cv t_a0_r t_a0_a k i) + 0) (by show cy + cv t_a0_r t_a0_a k i + 0 = cy + (cv t_a0_r t_a0_a k i + cvt t_a0_r t_a0_a k i); unfold cvt; rw [if_neg (by omega)]; omega)
              · skip
                have hb1 := (t_a0_r i).isLt
                refine v_aload_n g dX8_multiply_32 0 rfl 3 rfl ?_
                refine gf_X8_95 g dX8_multiply_33 0 rfl rfl ?_
                refine v_iload_n g dX8_multiply_36 3 rfl 0 rfl ?_
                refine v_ialdY g 2 rfl (by omega) (by decide) dX8_multiply_37 ?_
                refine v_aload_n g dX8_multiply_38 0 rfl 3 rfl ?_
                refine gf_X8_92 g dX8_multiply_39 0 rfl rfl ?_
                refine v_iload_n g dX8_multiply_42 2 rfl 1 rfl ?_
                refine v_iload_n g dX8_multiply_43 3 rfl 0 rfl ?_
                refine v_isubN g dX8_multiply_44 (by omega) ?_
                refine v_ialdY g 1 rfl (by omega) (by decide) dX8_multiply_45 ?_
                refine v_imulN g dX8_multiply_46 ?_
                refine v_goto g 51 dX8_multiply_47 (by decide) ?_
                refine v_iaddN g dX8_multiply_51 ?_
                refine v_istore_n g [(1, .int (nI ((cy + cv t_a0_r t_a0_a k i) + (((t_a0_r i).toNat) * ((t_a0_a (k - i)).toNat))))), (3, .int (nI i)), (2, .int (nI k)), (0, .ref a0)] dX8_multiply_52 1 rfl (by decide) rfl ?_
                refine v_iincN g 1 [(3, .int (nI (i + 1))), (1, .int (nI ((cy + cv t_a0_r t_a0_a k i) + (((t_a0_r i).toNat) * ((t_a0_a (k - i)).toNat))))), (2, .int (nI k)), (0, .ref a0)] dX8_multiply_53 1 rfl (by decide +kernel) (by decide) rfl ?_
                refine v_goto g 12 dX8_multiply_56 (by decide) ?_
                refine v_lpick [0, 2, 1, 3] [(3, .int (nI (i + 1))), (2, .int (nI k)), (1, .int (nI ((cy + cv t_a0_r t_a0_a k i) + (((t_a0_r i).toNat) * ((t_a0_a (k - i)).toNat))))), (0, .ref a0)] rfl ?_
                exact ik ((cy + cv t_a0_r t_a0_a k i) + (((t_a0_r i).toNat) * ((t_a0_a (k - i)).toNat))) (by show cy + cv t_a0_r t_a0_a k i + (t_a0_r i).toNat * (t_a0_a (k - i)).toNat = cy + (cv t_a0_r t_a0_a k i + cvt t_a0_r t_a0_a k i); unfold cvt; rw [if_pos (by omega)]; omega)
          · skip
            intro ci hw0
            have h16 := cv_16 t_a0_r t_a0_a k
            refine v_iload_n g dX8_multiply_12 3 rfl 0 rfl ?_
            refine v_bipush g dX8_multiply_13 (v := nI 16) (by decide +kernel) ?_
            refine v_icmp_geN g 59 dX8_multiply_15 (by decide) (by omega) (by omega) (fun h7 => ?_) (fun h7 => ?_)
            · skip
              refine v_lpick [1, 2, 3] [(2, .int (nI k)), (1, .int (nI ci)), (0, .ref a0)] rfl ?_
              exact J59 ci (by rw [hw0, h16])
            · skip
              refine v_iload_n g dX8_multiply_18 3 rfl 0 rfl ?_
              refine v_iload_n g dX8_multiply_19 2 rfl 1 rfl ?_
              refine v_icmp_gtN g 59 dX8_multiply_20 (by decide) (by omega) (by omega) (fun _ => ?_) (fun h => absurd h (by omega))
              refine v_lpick [1, 2, 3] [(2, .int (nI k)), (1, .int (nI ci)), (0, .ref a0)] rfl ?_
              exact J59 ci (by rw [hw0, h16])
        exact L12_4 0 (by omega) cy rfl
    · skip
      intro cy tp hv0 hv1
      refine v_iload_n g dX8_multiply_4 2 rfl 0 rfl ?_
      refine v_bipush g dX8_multiply_5 (v := nI 36) (by decide +kernel) ?_
      refine v_icmp_geN g 81 dX8_multiply_7 (by decide) (by omega) (by omega) (fun h8 => ?_) (fun h8 => ?_)
      · skip
        have hP : leN tp 36 = (leN t_a0_a 18 * leN t_a0_r 16) := by
          have q := cv_mul t_a0_r t_a0_a 16 (by decide)
          rw [q] at hv0
          have q1 := leN_lt tp 36
          have q2 : (leN t_a0_a 18 * leN t_a0_r 16) < 2 ^ 256 := Nat.lt_of_lt_of_le (Nat.mul_lt_mul'' h1 h2) (by decide +kernel)
          rw [Nat.mul_comm (leN t_a0_r 16)] at hv0
          have q3 : (256 : Nat) ^ 36 = 2 ^ 288 := by decide +kernel
          rw [q3] at hv0 q1
          generalize (leN t_a0_a 18 * leN t_a0_r 16) = z at *
          omega
        have hP2 : (leN t_a0_a 18 * leN t_a0_r 16) < 2 ^ 256 := Nat.lt_of_lt_of_le (Nat.mul_lt_mul'' h1 h2) (by decide +kernel)
        refine v_iconst g dX8_multiply_81 (v := nI 0) (by decide +kernel) ?_
        refine v_istore_n g [(2, .int (nI 0)), (1, .int (nI cy)), (0, .ref a0)] dX8_multiply_82 2 rfl (by decide) rfl ?_
        refine v_lpick [0, 2] [(2, .int (nI 0)), (0, .ref a0)] rfl ?_
        have L83_8 : ∀ i : Nat, i ≤ 2 → ∀ (ta : Nat → By) (tq : Nat → By), (leN tq 36 % po_p = (leN t_a0_a 18 * leN t_a0_r 16) % po_p) → ((i = 0 ∧ leN tq 36 < 2 ^ 256) ∨ (i = 1 ∧ leN tq 36 < 2 ^ 131) ∨ (i = 2 ∧ leN tq 36 < 2 ^ 130 + 5)) → (0 < i → ∀ j, j < 36 → ta j = tq j) → VJ C 0 0 83 [(2, .int (nI i)), (0, .ref a0)] [] [(a0, .inr (8, [.int (nI v_a0_thrown), .ref a0_tape, .int (nI v_a0_taped), .ref a0_out, .int (nI v_a0_outs), .ref a0_slots, .ref a0_kept, .ref a0_phase, .ref a0_secret, .ref a0_key, .ref a0_hide, .ref a0_iv, .ref a0_begin, .ref a0_each, .ref a0_root, .ref a0_power, .ref a0_work, .ref a0_w, .ref a0_h, .ref a0_state, .ref a0_sum, .ref a0_pad, .ref a0_text, .int (nI v_a0_texts), .ref a0_info, .int (nI v_a0_infos), .ref a0_made, .ref a0_blockKey, .ref a0_nonce, .ref a0_x, .ref a0_first, .ref a0_block, .ref a0_a, .ref a0_r, .ref a0_product, .ref a0_tag, .ref a0_sealed])), (a0_a, aY C.D 40 ta), (a0_r, aY C.D 16 t_a0_r), (a0_product, aY C.D 40 tq)] := by
          refine v_for (2) ?_ ?_
          · skip
            intro i hii ik ta tq hw0 hw1 hw2
            refine v_iload_n g dX8_multiply_83 2 rfl 0 rfl ?_
            refine v_iconst g dX8_multiply_84 (v := nI 2) (by decide +kernel) ?_
            refine v_icmp_geN g 248 dX8_multiply_85 (by decide) (by omega) (by omega) (fun h9 => ?_) (fun h9 => ?_)
            · skip
              exact absurd h9 (by omega)
            · skip
              refine v_iconst g dX8_multiply_88 (v := nI 0) (by decide +kernel) ?_
              refine v_istore_n g [(1, .int (nI 0)), (2, .int (nI i)), (0, .ref a0)] dX8_multiply_89 1 rfl (by decide) rfl ?_
              refine v_iconst g dX8_multiply_90 (v := nI 0) (by decide +kernel) ?_
              refine v_istore_n g [(3, .int (nI 0)), (1, .int (nI 0)), (2, .int (nI i)), (0, .ref a0)] dX8_multiply_91 3 rfl (by decide) rfl ?_
              have hV : leN tq 36 < 2 ^ 256 := by rcases hw1 with ⟨-, q⟩ | ⟨-, q⟩ | ⟨-, q⟩ <;> omega
              have hf := fold_v hV
              have L92_9 : ∀ k : Nat, k ≤ 36 → ∀ (cy : Nat) (tb : Nat → By), (leN tb k + cy * 256 ^ k = dsm (fun j => loD tq j + 5 * hiD tq j) k) → (cy ≤ 8) → VJ C 0 0 92 [(3, .int (nI k)), (1, .int (nI cy)), (2, .int (nI i)), (0, .ref a0)] [] [(a0, .inr (8, [.int (nI v_a0_thrown), .ref a0_tape, .int (nI v_a0_taped), .ref a0_out, .int (nI v_a0_outs), .ref a0_slots, .ref a0_kept, .ref a0_phase, .ref a0_secret, .ref a0_key, .ref a0_hide, .ref a0_iv, .ref a0_begin, .ref a0_each, .ref a0_root, .ref a0_power, .ref a0_work, .ref a0_w, .ref a0_h, .ref a0_state, .ref a0_sum, .ref a0_pad, .ref a0_text, .int (nI v_a0_texts), .ref a0_info, .int (nI v_a0_infos), .ref a0_made, .ref a0_blockKey, .ref a0_nonce, .ref a0_x, .ref a0_first, .ref a0_block, .ref a0_a, .ref a0_r, .ref a0_product, .ref a0_tag, .ref a0_sealed])), (a0_a, aY C.D 40 tb), (a0_r, aY C.D 16 t_a0_r), (a0_product, aY C.D 40 tq)] := by
                refine v_for (36) ?_ ?_
                · skip
                  intro k hik ix cy tb hx0 hx1
                  refine v_iload_n g dX8_multiply_92 3 rfl 0 rfl ?_
                  refine v_bipush g dX8_multiply_93 (v := nI 36) (by decide +kernel) ?_
                  refine v_icmp_geN g 216 dX8_multiply_95 (by decide) (by omega) (by omega) (fun h10 => ?_) (fun h10 => ?_)
                  · skip
                    exact absurd h10 (by omega)
                  · skip
                    have bk := (tq (k)).isLt
                    have b16k := (tq (16 + k)).isLt
                    have b17k := (tq (17 + k)).isLt
                    refine v_iload_n g dX8_multiply_98 3 rfl 0 rfl ?_
                    refine v_bipush g dX8_multiply_99 (v := nI 18) (by decide +kernel) ?_
                    refine v_icmp_geN g 146 dX8_multiply_101 (by decide) (by omega) (by omega) (fun h11 => ?_) (fun h11 => ?_)
                    · skip
                      refine v_iconst g dX8_multiply_146 (v := nI 0) (by decide +kernel) ?_
                      refine v_istore g [(4, .int (nI 0)), (3, .int (nI k)), (1, .int (nI cy)), (2, .int (nI i)), (0, .ref a0)] dX8_multiply_147 (by decide) rfl ?_
                      refine v_iload_n g dX8_multiply_149 3 rfl 1 rfl ?_
                      refine v_bipush g dX8_multiply_150 (v := nI 16) (by decide +kernel) ?_
                      refine v_icmp_geN g 164 dX8_multiply_152 (by decide) (by omega) (by omega) (fun h12 => ?_) (fun h12 => ?_)
                      · skip
                        refine v_iload_n g dX8_multiply_164 3 rfl 1 rfl ?_
                        refine v_bipush g dX8_multiply_165 (v := nI 16) (by decide +kernel) ?_
                        refine v_icmp_neN g 181 dX8_multiply_167 (by decide) (by omega) (by omega) (fun h13 => ?_) (fun h13 => ?_)
                        · skip
                          refine v_iconst g dX8_multiply_181 (v := nI 0) (by decide +kernel) ?_
                          refine v_istore g [(5, .int (nI 0)), (4, .int (nI 0)), (3, .int (nI k)), (1, .int (nI cy)), (2, .int (nI i)), (0, .ref a0)] dX8_multiply_182 (by decide) rfl ?_
                          refine v_iload_n g dX8_multiply_184 1 rfl 3 rfl ?_
                          refine v_iload g dX8_multiply_185 0 rfl ?_
                          refine v_iconst g dX8_multiply_187 (v := nI 5) (by decide +kernel) ?_
                          refine v_iload g dX8_multiply_188 1 rfl ?_
                          refine v_imulN g dX8_multiply_190 ?_
                          refine v_toi (nI 0) rfl ?_
                          refine v_iaddN g dX8_multiply_191 ?_
                          refine v_toi (nI 0) rfl ?_
                          refine v_iaddN g dX8_multiply_192 ?_
                          refine v_istore_n g [(1, .int (nI (cy + 0))), (5, .int (nI 0)), (4, .int (nI 0)), (3, .int (nI k)), (2, .int (nI i)), (0, .ref a0)] dX8_multiply_193 1 rfl (by decide) rfl ?_
                          refine v_aload_n g dX8_multiply_194 0 rfl 5 rfl ?_
                          refine gf_X8_92 g dX8_multiply_195 0 rfl rfl ?_
                          refine v_iload_n g dX8_multiply_198 3 rfl 3 rfl ?_
                          refine v_iload_n g dX8_multiply_199 1 rfl 0 rfl ?_
                          refine v_sipush g dX8_multiply_200 (v := nI 255) (by decide +kernel) ?_
                          refine v_iandM g 8 (by decide) dX8_multiply_203 ?_
                          obtain ⟨t14, ht14⟩ : ∃ z : Nat → By, z = va_up tb k (BitVec.ofNat 8 (cy + 0)) := ⟨_, rfl⟩
                          refine v_iastY g (BitVec.ofNat 8 (cy + 0)) (congrArg nI (BitVec.toNat_ofNat _ _).symm) t14 ht14 1 [(a0, .inr (8, [.int (nI v_a0_thrown), .ref a0_tape, .int (nI v_a0_taped), .ref a0_out, .int (nI v_a0_outs), .ref a0_slots, .ref a0_kept, .ref a0_phase, .ref a0_secret, .ref a0_key, .ref a0_hide, .ref a0_iv, .ref a0_begin, .ref a0_each, .ref a0_root, .ref a0_power, .ref a0_work, .ref a0_w, .ref a0_h, .ref a0_state, .ref a0_sum, .ref a0_pad, .ref a0_text, .int (nI v_a0_texts), .ref a0_info, .int (nI v_a0_infos), .ref a0_made, .ref a0_blockKey, .ref a0_nonce, .ref a0_x, .ref a0_first, .ref a0_block, .ref a0_a, .ref a0_r, .ref a0_product, .ref a0_tag, .ref a0_sealed])), (a0_a, aY C.D 40 t14), (a0_r, aY C.D 16 t_a0_r), (a0_product, aY C.D 40 tq)] rfl (by omega) (by decide) dX8_multiply_204 rfl ?_
                          refine v_iload_n g dX8_multiply_205 1 rfl 0 rfl ?_
                          refine v_bipush g dX8_multiply_206 (v := nI 8) (by decide +kernel) ?_
                          refine v_ishrN g (by omega) (by omega) dX8_multiply_208 ?_
                          refine v_istore_n g [(1, .int (nI ((cy + 0) / 2 ^ 8))), (5, .int (nI 0)), (4, .int (nI 0)), (3, .int (nI k)), (2, .int (nI i)), (0, .ref a0)] dX8_multiply_209 1 rfl (by decide) rfl ?_
                          refine v_iincN g 1 [(3, .int (nI (k + 1))), (1, .int (nI ((cy + 0) / 2 ^ 8))), (5, .int (nI 0)), (4, .int (nI 0)), (2, .int (nI i)), (0, .ref a0)] dX8_multiply_210 3 rfl (by decide +kernel) (by decide) rfl ?_
                          refine v_goto g 92 dX8_multiply_213 (by decide) ?_
                          refine v_lpick [0, 1, 4, 5] [(3, .int (nI (k + 1))), (1, .int (nI ((cy + 0) / 2 ^ 8))), (2, .int (nI i)), (0, .ref a0)] rfl ?_
                          exact ix ((cy + 0) / 2 ^ 8) t14 (by
                                have z := cy_s (x := 0) hx0 ht14
                                have a1 : loD tq k = 0 := by unfold loD; rw [if_neg (by omega), if_neg h13]
                                have a2 : hiD tq k = 0 := by unfold hiD; rw [if_neg (by omega)]
                                have z2 : loD tq k + 5 * hiD tq k = 0 := by rw [a1, a2]
                                show _ = dsm (fun j => loD tq j + 5 * hiD tq j) k + (loD tq k + 5 * hiD tq k) * 256 ^ k
                                rw [z2]
                                exact z) (by omega)
                        · skip
                          refine v_aload_n g dX8_multiply_170 0 rfl 4 rfl ?_
                          refine gf_X8_98 g dX8_multiply_171 0 rfl rfl ?_
                          refine v_iload_n g dX8_multiply_174 3 rfl 1 rfl ?_
                          refine v_ialdY g 3 rfl (by omega) (by decide) dX8_multiply_175 ?_
                          refine v_iconst g dX8_multiply_176 (v := nI 3) (by decide +kernel) ?_
                          refine v_iandN g dX8_multiply_177 ?_
                          refine v_toi (nI ((tq k) &&& 3#8).toNat) (congrArg nI (BitVec.toNat_and ((tq k)) (3#8)).symm) ?_
                          refine v_goto g 182 dX8_multiply_178 (by decide) ?_
                          refine v_istore g [(5, .int (nI (((tq k) &&& 3#8).toNat))), (4, .int (nI 0)), (3, .int (nI k)), (1, .int (nI cy)), (2, .int (nI i)), (0, .ref a0)] dX8_multiply_182 (by decide) rfl ?_
                          refine v_iload_n g dX8_multiply_184 1 rfl 3 rfl ?_
                          refine v_iload g dX8_multiply_185 0 rfl ?_
                          refine v_iconst g dX8_multiply_187 (v := nI 5) (by decide +kernel) ?_
                          refine v_iload g dX8_multiply_188 1 rfl ?_
                          refine v_imulN g dX8_multiply_190 ?_
                          refine v_toi (nI 0) rfl ?_
                          refine v_iaddN g dX8_multiply_191 ?_
                          refine v_iaddN g dX8_multiply_192 ?_
                          refine v_istore_n g [(1, .int (nI (cy + ((((tq k) &&& 3#8).toNat) + 0)))), (5, .int (nI (((tq k) &&& 3#8).toNat))), (4, .int (nI 0)), (3, .int (nI k)), (2, .int (nI i)), (0, .ref a0)] dX8_multiply_193 1 rfl (by decide) rfl ?_
                          refine v_aload_n g dX8_multiply_194 0 rfl 5 rfl ?_
                          refine gf_X8_92 g dX8_multiply_195 0 rfl rfl ?_
                          refine v_iload_n g dX8_multiply_198 3 rfl 3 rfl ?_
                          refine v_iload_n g dX8_multiply_199 1 rfl 0 rfl ?_
                          refine v_sipush g dX8_multiply_200 (v := nI 255) (by decide +kernel) ?_
                          refine v_iandM g 8 (by decide) dX8_multiply_203 ?_
                          obtain ⟨t15, ht15⟩ : ∃ z : Nat → By, z = va_up tb k (BitVec.ofNat 8 (cy + ((((tq k) &&& 3#8).toNat) + 0))) := ⟨_, rfl⟩
                          refine v_iastY g (BitVec.ofNat 8 (cy + ((((tq k) &&& 3#8).toNat) + 0))) (congrArg nI (BitVec.toNat_ofNat _ _).symm) t15 ht15 1 [(a0, .inr (8, [.int (nI v_a0_thrown), .ref a0_tape, .int (nI v_a0_taped), .ref a0_out, .int (nI v_a0_outs), .ref a0_slots, .ref a0_kept, .ref a0_phase, .ref a0_secret, .ref a0_key, .ref a0_hide, .ref a0_iv, .ref a0_begin, .ref a0_each, .ref a0_root, .ref a0_power, .ref a0_work, .ref a0_w, .ref a0_h, .ref a0_state, .ref a0_sum, .ref a0_pad, .ref a0_text, .int (nI v_a0_texts), .ref a0_info, .int (nI v_a0_infos), .ref a0_made, .ref a0_blockKey, .ref a0_nonce, .ref a0_x, .ref a0_first, .ref a0_block, .ref a0_a, .ref a0_r, .ref a0_product, .ref a0_tag, .ref a0_sealed])), (a0_a, aY C.D 40 t15), (a0_r, aY C.D 16 t_a0_r), (a0_product, aY C.D 40 tq)] rfl (by omega) (by decide) dX8_multiply_204 rfl ?_
                          refine v_iload_n g dX8_multiply_205 1 rfl 0 rfl ?_
                          refine v_bipush g dX8_multiply_206 (v := nI 8) (by decide +kernel) ?_
                          refine v_ishrN g (by omega) (by omega) dX8_multiply_208 ?_
                          refine v_istore_n g [(1, .int (nI ((cy + ((((tq k) &&& 3#8).toNat) + 0)) / 2 ^ 8))), (5, .int (nI (((tq k) &&& 3#8).toNat))), (4, .int (nI 0)), (3, .int (nI k)), (2, .int (nI i)), (0, .ref a0)] dX8_multiply_209 1 rfl (by decide) rfl ?_
                          refine v_iincN g 1 [(3, .int (nI (k + 1))), (1, .int (nI ((cy + ((((tq k) &&& 3#8).toNat) + 0)) / 2 ^ 8))), (5, .int (nI (((tq k) &&& 3#8).toNat))), (4, .int (nI 0)), (2, .int (nI i)), (0, .ref a0)] dX8_multiply_210 3 rfl (by decide +kernel) (by decide) rfl ?_
                          refine v_goto g 92 dX8_multiply_213 (by decide) ?_
                          refine v_lpick [0, 1, 4, 5] [(3, .int (nI (k + 1))), (1, .int (nI ((cy + ((((tq k) &&& 3#8).toNat) + 0)) / 2 ^ 8))), (2, .int (nI i)), (0, .ref a0)] rfl ?_
                          exact ix ((cy + ((((tq k) &&& 3#8).toNat) + 0)) / 2 ^ 8) t15 (by
                                have z := cy_s (x := (tq k &&& 3#8).toNat + 0) hx0 ht15
                                have a1 : loD tq k = (tq k &&& 3#8).toNat := by unfold loD; rw [if_neg (by omega), if_pos h13, and3]
                                have a2 : hiD tq k = 0 := by unfold hiD; rw [if_neg (by omega)]
                                have z2 : loD tq k + 5 * hiD tq k = (tq k &&& 3#8).toNat + 0 := by rw [a1, a2]
                                show _ = dsm (fun j => loD tq j + 5 * hiD tq j) k + (loD tq k + 5 * hiD tq k) * 256 ^ k
                                rw [z2]
                                exact z) (by omega)
                      · skip
                        refine v_aload_n g dX8_multiply_155 0 rfl 4 rfl ?_
                        refine gf_X8_98 g dX8_multiply_156 0 rfl rfl ?_
                        refine v_iload_n g dX8_multiply_159 3 rfl 1 rfl ?_
                        refine v_ialdY g 3 rfl (by omega) (by decide) dX8_multiply_160 ?_
                        refine v_goto g 182 dX8_multiply_161 (by decide) ?_
                        refine v_istore g [(5, .int (nI ((tq k).toNat))), (4, .int (nI 0)), (3, .int (nI k)), (1, .int (nI cy)), (2, .int (nI i)), (0, .ref a0)] dX8_multiply_182 (by decide) rfl ?_
                        refine v_iload_n g dX8_multiply_184 1 rfl 3 rfl ?_
                        refine v_iload g dX8_multiply_185 0 rfl ?_
                        refine v_iconst g dX8_multiply_187 (v := nI 5) (by decide +kernel) ?_
                        refine v_iload g dX8_multiply_188 1 rfl ?_
                        refine v_imulN g dX8_multiply_190 ?_
                        refine v_toi (nI 0) rfl ?_
                        refine v_iaddN g dX8_multiply_191 ?_
                        refine v_iaddN g dX8_multiply_192 ?_
                        refine v_istore_n g [(1, .int (nI (cy + (((tq k).toNat) + 0)))), (5, .int (nI ((tq k).toNat))), (4, .int (nI 0)), (3, .int (nI k)), (2, .int (nI i)), (0, .ref a0)] dX8_multiply_193 1 rfl (by decide) rfl ?_
                        refine v_aload_n g dX8_multiply_194 0 rfl 5 rfl ?_
                        refine gf_X8_92 g dX8_multiply_195 0 rfl rfl ?_
                        refine v_iload_n g dX8_multiply_198 3 rfl 3 rfl ?_
                        refine v_iload_n g dX8_multiply_199 1 rfl 0 rfl ?_
                        refine v_sipush g dX8_multiply_200 (v := nI 255) (by decide +kernel) ?_
                        refine v_iandM g 8 (by decide) dX8_multiply_203 ?_
                        obtain ⟨t16, ht16⟩ : ∃ z : Nat → By, z = va_up tb k (BitVec.ofNat 8 (cy + (((tq k).toNat) + 0))) := ⟨_, rfl⟩
                        refine v_iastY g (BitVec.ofNat 8 (cy + (((tq k).toNat) + 0))) (congrArg nI (BitVec.toNat_ofNat _ _).symm) t16 ht16 1 [(a0, .inr (8, [.int (nI v_a0_thrown), .ref a0_tape, .int (nI v_a0_taped), .ref a0_out, .int (nI v_a0_outs), .ref a0_slots, .ref a0_kept, .ref a0_phase, .ref a0_secret, .ref a0_key, .ref a0_hide, .ref a0_iv, .ref a0_begin, .ref a0_each, .ref a0_root, .ref a0_power, .ref a0_work, .ref a0_w, .ref a0_h, .ref a0_state, .ref a0_sum, .ref a0_pad, .ref a0_text, .int (nI v_a0_texts), .ref a0_info, .int (nI v_a0_infos), .ref a0_made, .ref a0_blockKey, .ref a0_nonce, .ref a0_x, .ref a0_first, .ref a0_block, .ref a0_a, .ref a0_r, .ref a0_product, .ref a0_tag, .ref a0_sealed])), (a0_a, aY C.D 40 t16), (a0_r, aY C.D 16 t_a0_r), (a0_product, aY C.D 40 tq)] rfl (by omega) (by decide) dX8_multiply_204 rfl ?_
                        refine v_iload_n g dX8_multiply_205 1 rfl 0 rfl ?_
                        refine v_bipush g dX8_multiply_206 (v := nI 8) (by decide +kernel) ?_
                        refine v_ishrN g (by omega) (by omega) dX8_multiply_208 ?_
                        refine v_istore_n g [(1, .int (nI ((cy + (((tq k).toNat) + 0)) / 2 ^ 8))), (5, .int (nI ((tq k).toNat))), (4, .int (nI 0)), (3, .int (nI k)), (2, .int (nI i)), (0, .ref a0)] dX8_multiply_209 1 rfl (by decide) rfl ?_
                        refine v_iincN g 1 [(3, .int (nI (k + 1))), (1, .int (nI ((cy + (((tq k).toNat) + 0)) / 2 ^ 8))), (5, .int (nI ((tq k).toNat))), (4, .int (nI 0)), (2, .int (nI i)), (0, .ref a0)] dX8_multiply_210 3 rfl (by decide +kernel) (by decide) rfl ?_
                        refine v_goto g 92 dX8_multiply_213 (by decide) ?_
                        refine v_lpick [0, 1, 4, 5] [(3, .int (nI (k + 1))), (1, .int (nI ((cy + (((tq k).toNat) + 0)) / 2 ^ 8))), (2, .int (nI i)), (0, .ref a0)] rfl ?_
                        exact ix ((cy + (((tq k).toNat) + 0)) / 2 ^ 8) t16 (by
                              have z := cy_s (x := (tq k).toNat + 0) hx0 ht16
                              have a1 : loD tq k = (tq k).toNat := by unfold loD; rw [if_pos h12]
                              have a2 : hiD tq k = 0 := by unfold hiD; rw [if_neg (by omega)]
                              have z2 : loD tq k + 5 * hiD tq k = (tq k).toNat + 0 := by rw [a1, a2]
                              show _ = dsm (fun j => loD tq j + 5 * hiD tq j) k + (loD tq k + 5 * hiD tq k) * 256 ^ k
                              rw [z2]
                              exact z) (by omega)
                    · skip
                      refine v_aload_n g dX8_multiply_104 0 rfl 3 rfl ?_
                      refine gf_X8_98 g dX8_multiply_105 0 rfl rfl ?_
                      refine v_bipush g dX8_multiply_108 (v := nI 16) (by decide +kernel) ?_
                      refine v_iload_n g dX8_multiply_110 3 rfl 0 rfl ?_
                      refine v_iaddN g dX8_multiply_111 ?_
                      refine v_ialdY g 3 rfl (by omega) (by decide) dX8_multiply_112 ?_
                      refine v_iconst g dX8_multiply_113 (v := nI 2) (by decide +kernel) ?_
                      refine v_ishrN g (by omega) (by omega) dX8_multiply_114 ?_
                      refine v_bipush g dX8_multiply_115 (v := nI 17) (by decide +kernel) ?_
                      refine v_iload_n g dX8_multiply_117 3 rfl 0 rfl ?_
                      refine v_iaddN g dX8_multiply_118 ?_
                      refine v_bipush g dX8_multiply_119 (v := nI 36) (by decide +kernel) ?_
                      refine v_icmp_geN g 138 dX8_multiply_121 (by decide) (by omega) (by omega) (fun h => absurd h (by omega)) (fun _ => ?_)
                      refine v_aload_n g dX8_multiply_124 0 rfl 3 rfl ?_
                      refine gf_X8_98 g dX8_multiply_125 0 rfl rfl ?_
                      refine v_bipush g dX8_multiply_128 (v := nI 17) (by decide +kernel) ?_
                      refine v_iload_n g dX8_multiply_130 3 rfl 0 rfl ?_
                      refine v_iaddN g dX8_multiply_131 ?_
                      refine v_ialdY g 3 rfl (by omega) (by decide) dX8_multiply_132 ?_
                      refine v_iconst g dX8_multiply_133 (v := nI 3) (by decide +kernel) ?_
                      refine v_iandN g dX8_multiply_134 ?_
                      refine v_toi (nI ((tq (17 + k)) &&& 3#8).toNat) (congrArg nI (BitVec.toNat_and ((tq (17 + k))) (3#8)).symm) ?_
                      refine v_goto g 139 dX8_multiply_135 (by decide) ?_
                      refine v_bipush g dX8_multiply_139 (v := nI 6) (by decide +kernel) ?_
                      refine v_ishlN g (by omega) dX8_multiply_141 ?_
                      refine v_iorN g dX8_multiply_142 ?_
                      refine v_toi (nI ((tq (16 + k)).toNat / 2 ^ 2 + (tq (17 + k)).toNat % 2 ^ 2 * 2 ^ 6)) (congrArg nI ((or_add (k := 6) (by omega)).trans (by rw [and3]))) ?_
                      refine v_goto g 147 dX8_multiply_143 (by decide) ?_
                      refine v_istore g [(4, .int (nI ((tq (16 + k)).toNat / 2 ^ 2 + (tq (17 + k)).toNat % 2 ^ 2 * 2 ^ 6))), (3, .int (nI k)), (1, .int (nI cy)), (2, .int (nI i)), (0, .ref a0)] dX8_multiply_147 (by decide) rfl ?_
                      refine v_iload_n g dX8_multiply_149 3 rfl 1 rfl ?_
                      refine v_bipush g dX8_multiply_150 (v := nI 16) (by decide +kernel) ?_
                      refine v_icmp_geN g 164 dX8_multiply_152 (by decide) (by omega) (by omega) (fun h17 => ?_) (fun h17 => ?_)
                      · skip
                        refine v_iload_n g dX8_multiply_164 3 rfl 1 rfl ?_
                        refine v_bipush g dX8_multiply_165 (v := nI 16) (by decide +kernel) ?_
                        refine v_icmp_neN g 181 dX8_multiply_167 (by decide) (by omega) (by omega) (fun h18 => ?_) (fun h18 => ?_)
                        · skip
                          refine v_iconst g dX8_multiply_181 (v := nI 0) (by decide +kernel) ?_
                          refine v_istore g [(5, .int (nI 0)), (4, .int (nI ((tq (16 + k)).toNat / 2 ^ 2 + (tq (17 + k)).toNat % 2 ^ 2 * 2 ^ 6))), (3, .int (nI k)), (1, .int (nI cy)), (2, .int (nI i)), (0, .ref a0)] dX8_multiply_182 (by decide) rfl ?_
                          refine v_iload_n g dX8_multiply_184 1 rfl 3 rfl ?_
                          refine v_iload g dX8_multiply_185 0 rfl ?_
                          refine v_iconst g dX8_multiply_187 (v := nI 5) (by decide +kernel) ?_
                          refine v_iload g dX8_multiply_188 1 rfl ?_
                          refine v_imulN g dX8_multiply_190 ?_
                          refine v_iaddN g dX8_multiply_191 ?_
                          refine v_iaddN g dX8_multiply_192 ?_
                          refine v_istore_n g [(1, .int (nI (cy + (0 + (5 * ((tq (16 + k)).toNat / 2 ^ 2 + (tq (17 + k)).toNat % 2 ^ 2 * 2 ^ 6)))))), (5, .int (nI 0)), (4, .int (nI ((tq (16 + k)).toNat / 2 ^ 2 + (tq (17 + k)).toNat % 2 ^ 2 * 2 ^ 6))), (3, .int (nI k)), (2, .int (nI i)), (0, .ref a0)] dX8_multiply_193 1 rfl (by decide) rfl ?_
                          refine v_aload_n g dX8_multiply_194 0 rfl 5 rfl ?_
                          refine gf_X8_92 g dX8_multiply_195 0 rfl rfl ?_
                          refine v_iload_n g dX8_multiply_198 3 rfl 3 rfl ?_
                          refine v_iload_n g dX8_multiply_199 1 rfl 0 rfl ?_
                          refine v_sipush g dX8_multiply_200 (v := nI 255) (by decide +kernel) ?_
                          refine v_iandM g 8 (by decide) dX8_multiply_203 ?_
                          obtain ⟨t19, ht19⟩ : ∃ z : Nat → By, z = va_up tb k (BitVec.ofNat 8 (cy + (0 + (5 * ((tq (16 + k)).toNat / 2 ^ 2 + (tq (17 + k)).toNat % 2 ^ 2 * 2 ^ 6))))) := ⟨_, rfl⟩
                          refine v_iastY g (BitVec.ofNat 8 (cy + (0 + (5 * ((tq (16 + k)).toNat / 2 ^ 2 + (tq (17 + k)).toNat % 2 ^ 2 * 2 ^ 6))))) (congrArg nI (BitVec.toNat_ofNat _ _).symm) t19 ht19 1 [(a0, .inr (8, [.int (nI v_a0_thrown), .ref a0_tape, .int (nI v_a0_taped), .ref a0_out, .int (nI v_a0_outs), .ref a0_slots, .ref a0_kept, .ref a0_phase, .ref a0_secret, .ref a0_key, .ref a0_hide, .ref a0_iv, .ref a0_begin, .ref a0_each, .ref a0_root, .ref a0_power, .ref a0_work, .ref a0_w, .ref a0_h, .ref a0_state, .ref a0_sum, .ref a0_pad, .ref a0_text, .int (nI v_a0_texts), .ref a0_info, .int (nI v_a0_infos), .ref a0_made, .ref a0_blockKey, .ref a0_nonce, .ref a0_x, .ref a0_first, .ref a0_block, .ref a0_a, .ref a0_r, .ref a0_product, .ref a0_tag, .ref a0_sealed])), (a0_a, aY C.D 40 t19), (a0_r, aY C.D 16 t_a0_r), (a0_product, aY C.D 40 tq)] rfl (by omega) (by decide) dX8_multiply_204 rfl ?_
                          refine v_iload_n g dX8_multiply_205 1 rfl 0 rfl ?_
                          refine v_bipush g dX8_multiply_206 (v := nI 8) (by decide +kernel) ?_
                          refine v_ishrN g (by omega) (by omega) dX8_multiply_208 ?_
                          refine v_istore_n g [(1, .int (nI ((cy + (0 + (5 * ((tq (16 + k)).toNat / 2 ^ 2 + (tq (17 + k)).toNat % 2 ^ 2 * 2 ^ 6)))) / 2 ^ 8))), (5, .int (nI 0)), (4, .int (nI ((tq (16 + k)).toNat / 2 ^ 2 + (tq (17 + k)).toNat % 2 ^ 2 * 2 ^ 6))), (3, .int (nI k)), (2, .int (nI i)), (0, .ref a0)] dX8_multiply_209 1 rfl (by decide) rfl ?_
                          refine v_iincN g 1 [(3, .int (nI (k + 1))), (1, .int (nI ((cy + (0 + (5 * ((tq (16 + k)).toNat / 2 ^ 2 + (tq (17 + k)).toNat % 2 ^ 2 * 2 ^ 6)))) / 2 ^ 8))), (5, .int (nI 0)), (4, .int (nI ((tq (16 + k)).toNat / 2 ^ 2 + (tq (17 + k)).toNat % 2 ^ 2 * 2 ^ 6))), (2, .int (nI i)), (0, .ref a0)] dX8_multiply_210 3 rfl (by decide +kernel) (by decide) rfl ?_
                          refine v_goto g 92 dX8_multiply_213 (by decide) ?_
                          refine v_lpick [0, 1, 4, 5] [(3, .int (nI (k + 1))), (1, .int (nI ((cy + (0 + (5 * ((tq (16 + k)).toNat / 2 ^ 2 + (tq (17 + k)).toNat % 2 ^ 2 * 2 ^ 6)))) / 2 ^ 8))), (2, .int (nI i)), (0, .ref a0)] rfl ?_
                          exact ix ((cy + (0 + (5 * ((tq (16 + k)).toNat / 2 ^ 2 + (tq (17 + k)).toNat % 2 ^ 2 * 2 ^ 6)))) / 2 ^ 8) t19 (by
                                have z := cy_s (x := 0 + 5 * ((tq (16 + k)).toNat / 2 ^ 2 + (tq (17 + k)).toNat % 2 ^ 2 * 2 ^ 6)) hx0 ht19
                                have a1 : loD tq k = 0 := by unfold loD; rw [if_neg (by omega), if_neg h18]
                                have a2 : hiD tq k = ((tq (16 + k)).toNat / 2 ^ 2 + (tq (17 + k)).toNat % 2 ^ 2 * 2 ^ 6) := by unfold hiD; rw [if_pos (by omega)]
                                have z2 : loD tq k + 5 * hiD tq k = 0 + 5 * ((tq (16 + k)).toNat / 2 ^ 2 + (tq (17 + k)).toNat % 2 ^ 2 * 2 ^ 6) := by rw [a1, a2]
                                show _ = dsm (fun j => loD tq j + 5 * hiD tq j) k + (loD tq k + 5 * hiD tq k) * 256 ^ k
                                rw [z2]
                                exact z) (by omega)
                        · skip
                          refine v_aload_n g dX8_multiply_170 0 rfl 4 rfl ?_
                          refine gf_X8_98 g dX8_multiply_171 0 rfl rfl ?_
                          refine v_iload_n g dX8_multiply_174 3 rfl 1 rfl ?_
                          refine v_ialdY g 3 rfl (by omega) (by decide) dX8_multiply_175 ?_
                          refine v_iconst g dX8_multiply_176 (v := nI 3) (by decide +kernel) ?_
                          refine v_iandN g dX8_multiply_177 ?_
                          refine v_toi (nI ((tq k) &&& 3#8).toNat) (congrArg nI (BitVec.toNat_and ((tq k)) (3#8)).symm) ?_
                          refine v_goto g 182 dX8_multiply_178 (by decide) ?_
                          refine v_istore g [(5, .int (nI (((tq k) &&& 3#8).toNat))), (4, .int (nI ((tq (16 + k)).toNat / 2 ^ 2 + (tq (17 + k)).toNat % 2 ^ 2 * 2 ^ 6))), (3, .int (nI k)), (1, .int (nI cy)), (2, .int (nI i)), (0, .ref a0)] dX8_multiply_182 (by decide) rfl ?_
                          refine v_iload_n g dX8_multiply_184 1 rfl 3 rfl ?_
                          refine v_iload g dX8_multiply_185 0 rfl ?_
                          refine v_iconst g dX8_multiply_187 (v := nI 5) (by decide +kernel) ?_
                          refine v_iload g dX8_multiply_188 1 rfl ?_
                          refine v_imulN g dX8_multiply_190 ?_
                          refine v_iaddN g dX8_multiply_191 ?_
                          refine v_iaddN g dX8_multiply_192 ?_
                          refine v_istore_n g [(1, .int (nI (cy + ((((tq k) &&& 3#8).toNat) + (5 * ((tq (16 + k)).toNat / 2 ^ 2 + (tq (17 + k)).toNat % 2 ^ 2 * 2 ^ 6)))))), (5, .int (nI (((tq k) &&& 3#8).toNat))), (4, .int (nI ((tq (16 + k)).toNat / 2 ^ 2 + (tq (17 + k)).toNat % 2 ^ 2 * 2 ^ 6))), (3, .int (nI k)), (2, .int (nI i)), (0, .ref a0)] dX8_multiply_193 1 rfl (by decide) rfl ?_
                          refine v_aload_n g dX8_multiply_194 0 rfl 5 rfl ?_
                          refine gf_X8_92 g dX8_multiply_195 0 rfl rfl ?_
                          refine v_iload_n g dX8_multiply_198 3 rfl 3 rfl ?_
                          refine v_iload_n g dX8_multiply_199 1 rfl 0 rfl ?_
                          refine v_sipush g dX8_multiply_200 (v := nI 255) (by decide +kernel) ?_
                          refine v_iandM g 8 (by decide) dX8_multiply_203 ?_
                          obtain ⟨t20, ht20⟩ : ∃ z : Nat → By, z = va_up tb k (BitVec.ofNat 8 (cy + ((((tq k) &&& 3#8).toNat) + (5 * ((tq (16 + k)).toNat / 2 ^ 2 + (tq (17 + k)).toNat % 2 ^ 2 * 2 ^ 6))))) := ⟨_, rfl⟩
                          refine v_iastY g (BitVec.ofNat 8 (cy + ((((tq k) &&& 3#8).toNat) + (5 * ((tq (16 + k)).toNat / 2 ^ 2 + (tq (17 + k)).toNat % 2 ^ 2 * 2 ^ 6))))) (congrArg nI (BitVec.toNat_ofNat _ _).symm) t20 ht20 1 [(a0, .inr (8, [.int (nI v_a0_thrown), .ref a0_tape, .int (nI v_a0_taped), .ref a0_out, .int (nI v_a0_outs), .ref a0_slots, .ref a0_kept, .ref a0_phase, .ref a0_secret, .ref a0_key, .ref a0_hide, .ref a0_iv, .ref a0_begin, .ref a0_each, .ref a0_root, .ref a0_power, .ref a0_work, .ref a0_w, .ref a0_h, .ref a0_state, .ref a0_sum, .ref a0_pad, .ref a0_text, .int (nI v_a0_texts), .ref a0_info, .int (nI v_a0_infos), .ref a0_made, .ref a0_blockKey, .ref a0_nonce, .ref a0_x, .ref a0_first, .ref a0_block, .ref a0_a, .ref a0_r, .ref a0_product, .ref a0_tag, .ref a0_sealed])), (a0_a, aY C.D 40 t20), (a0_r, aY C.D 16 t_a0_r), (a0_product, aY C.D 40 tq)] rfl (by omega) (by decide) dX8_multiply_204 rfl ?_
                          refine v_iload_n g dX8_multiply_205 1 rfl 0 rfl ?_
                          refine v_bipush g dX8_multiply_206 (v := nI 8) (by decide +kernel) ?_
                          refine v_ishrN g (by omega) (by omega) dX8_multiply_208 ?_
                          refine v_istore_n g [(1, .int (nI ((cy + ((((tq k) &&& 3#8).toNat) + (5 * ((tq (16 + k)).toNat / 2 ^ 2 + (tq (17 + k)).toNat % 2 ^ 2 * 2 ^ 6)))) / 2 ^ 8))), (5, .int (nI (((tq k) &&& 3#8).toNat))), (4, .int (nI ((tq (16 + k)).toNat / 2 ^ 2 + (tq (17 + k)).toNat % 2 ^ 2 * 2 ^ 6))), (3, .int (nI k)), (2, .int (nI i)), (0, .ref a0)] dX8_multiply_209 1 rfl (by decide) rfl ?_
                          refine v_iincN g 1 [(3, .int (nI (k + 1))), (1, .int (nI ((cy + ((((tq k) &&& 3#8).toNat) + (5 * ((tq (16 + k)).toNat / 2 ^ 2 + (tq (17 + k)).toNat % 2 ^ 2 * 2 ^ 6)))) / 2 ^ 8))), (5, .int (nI (((tq k) &&& 3#8).toNat))), (4, .int (nI ((tq (16 + k)).toNat / 2 ^ 2 + (tq (17 + k)).toNat % 2 ^ 2 * 2 ^ 6))), (2, .int (nI i)), (0, .ref a0)] dX8_multiply_210 3 rfl (by decide +kernel) (by decide) rfl ?_
                          refine v_goto g 92 dX8_multiply_213 (by decide) ?_
                          refine v_lpick [0, 1, 4, 5] [(3, .int (nI (k + 1))), (1, .int (nI ((cy + ((((tq k) &&& 3#8).toNat) + (5 * ((tq (16 + k)).toNat / 2 ^ 2 + (tq (17 + k)).toNat % 2 ^ 2 * 2 ^ 6)))) / 2 ^ 8))), (2, .int (nI i)), (0, .ref a0)] rfl ?_
                          exact ix ((cy + ((((tq k) &&& 3#8).toNat) + (5 * ((tq (16 + k)).toNat / 2 ^ 2 + (tq (17 + k)).toNat % 2 ^ 2 * 2 ^ 6)))) / 2 ^ 8) t20 (by
                                have z := cy_s (x := (tq k &&& 3#8).toNat + 5 * ((tq (16 + k)).toNat / 2 ^ 2 + (tq (17 + k)).toNat % 2 ^ 2 * 2 ^ 6)) hx0 ht20
                                have a1 : loD tq k = (tq k &&& 3#8).toNat := by unfold loD; rw [if_neg (by omega), if_pos h18, and3]
                                have a2 : hiD tq k = ((tq (16 + k)).toNat / 2 ^ 2 + (tq (17 + k)).toNat % 2 ^ 2 * 2 ^ 6) := by unfold hiD; rw [if_pos (by omega)]
                                have z2 : loD tq k + 5 * hiD tq k = (tq k &&& 3#8).toNat + 5 * ((tq (16 + k)).toNat / 2 ^ 2 + (tq (17 + k)).toNat % 2 ^ 2 * 2 ^ 6) := by rw [a1, a2]
                                show _ = dsm (fun j => loD tq j + 5 * hiD tq j) k + (loD tq k + 5 * hiD tq k) * 256 ^ k
                                rw [z2]
                                exact z) (by omega)
                      · skip
                        refine v_aload_n g dX8_multiply_155 0 rfl 4 rfl ?_
                        refine gf_X8_98 g dX8_multiply_156 0 rfl rfl ?_
                        refine v_iload_n g dX8_multiply_159 3 rfl 1 rfl ?_
                        refine v_ialdY g 3 rfl (by omega) (by decide) dX8_multiply_160 ?_
                        refine v_goto g 182 dX8_multiply_161 (by decide) ?_
                        refine v_istore g [(5, .int (nI ((tq k).toNat))), (4, .int (nI ((tq (16 + k)).toNat / 2 ^ 2 + (tq (17 + k)).toNat % 2 ^ 2 * 2 ^ 6))), (3, .int (nI k)), (1, .int (nI cy)), (2, .int (nI i)), (0, .ref a0)] dX8_multiply_182 (by decide) rfl ?_
                        refine v_iload_n g dX8_multiply_184 1 rfl 3 rfl ?_
                        refine v_iload g dX8_multiply_185 0 rfl ?_
                        refine v_iconst g dX8_multiply_187 (v := nI 5) (by decide +kernel) ?_
                        refine v_iload g dX8_multiply_188 1 rfl ?_
                        refine v_imulN g dX8_multiply_190 ?_
                        refine v_iaddN g dX8_multiply_191 ?_
                        refine v_iaddN g dX8_multiply_192 ?_
                        refine v_istore_n g [(1, .int (nI (cy + (((tq k).toNat) + (5 * ((tq (16 + k)).toNat / 2 ^ 2 + (tq (17 + k)).toNat % 2 ^ 2 * 2 ^ 6)))))), (5, .int (nI ((tq k).toNat))), (4, .int (nI ((tq (16 + k)).toNat / 2 ^ 2 + (tq (17 + k)).toNat % 2 ^ 2 * 2 ^ 6))), (3, .int (nI k)), (2, .int (nI i)), (0, .ref a0)] dX8_multiply_193 1 rfl (by decide) rfl ?_
                        refine v_aload_n g dX8_multiply_194 0 rfl 5 rfl ?_
                        refine gf_X8_92 g dX8_multiply_195 0 rfl rfl ?_
                        refine v_iload_n g dX8_multiply_198 3 rfl 3 rfl ?_
                        refine v_iload_n g dX8_multiply_199 1 rfl 0 rfl ?_
                        refine v_sipush g dX8_multiply_200 (v := nI 255) (by decide +kernel) ?_
                        refine v_iandM g 8 (by decide) dX8_multiply_203 ?_
                        obtain ⟨t21, ht21⟩ : ∃ z : Nat → By, z = va_up tb k (BitVec.ofNat 8 (cy + (((tq k).toNat) + (5 * ((tq (16 + k)).toNat / 2 ^ 2 + (tq (17 + k)).toNat % 2 ^ 2 * 2 ^ 6))))) := ⟨_, rfl⟩
                        refine v_iastY g (BitVec.ofNat 8 (cy + (((tq k).toNat) + (5 * ((tq (16 + k)).toNat / 2 ^ 2 + (tq (17 + k)).toNat % 2 ^ 2 * 2 ^ 6))))) (congrArg nI (BitVec.toNat_ofNat _ _).symm) t21 ht21 1 [(a0, .inr (8, [.int (nI v_a0_thrown), .ref a0_tape, .int (nI v_a0_taped), .ref a0_out, .int (nI v_a0_outs), .ref a0_slots, .ref a0_kept, .ref a0_phase, .ref a0_secret, .ref a0_key, .ref a0_hide, .ref a0_iv, .ref a0_begin, .ref a0_each, .ref a0_root, .ref a0_power, .ref a0_work, .ref a0_w, .ref a0_h, .ref a0_state, .ref a0_sum, .ref a0_pad, .ref a0_text, .int (nI v_a0_texts), .ref a0_info, .int (nI v_a0_infos), .ref a0_made, .ref a0_blockKey, .ref a0_nonce, .ref a0_x, .ref a0_first, .ref a0_block, .ref a0_a, .ref a0_r, .ref a0_product, .ref a0_tag, .ref a0_sealed])), (a0_a, aY C.D 40 t21), (a0_r, aY C.D 16 t_a0_r), (a0_product, aY C.D 40 tq)] rfl (by omega) (by decide) dX8_multiply_204 rfl ?_
                        refine v_iload_n g dX8_multiply_205 1 rfl 0 rfl ?_
                        refine v_bipush g dX8_multiply_206 (v := nI 8) (by decide +kernel) ?_
                        refine v_ishrN g (by omega) (by omega) dX8_multiply_208 ?_
                        refine v_istore_n g [(1, .int (nI ((cy + (((tq k).toNat) + (5 * ((tq (16 + k)).toNat / 2 ^ 2 + (tq (17 + k)).toNat % 2 ^ 2 * 2 ^ 6)))) / 2 ^ 8))), (5, .int (nI ((tq k).toNat))), (4, .int (nI ((tq (16 + k)).toNat / 2 ^ 2 + (tq (17 + k)).toNat % 2 ^ 2 * 2 ^ 6))), (3, .int (nI k)), (2, .int (nI i)), (0, .ref a0)] dX8_multiply_209 1 rfl (by decide) rfl ?_
                        refine v_iincN g 1 [(3, .int (nI (k + 1))), (1, .int (nI ((cy + (((tq k).toNat) + (5 * ((tq (16 + k)).toNat / 2 ^ 2 + (tq (17 + k)).toNat % 2 ^ 2 * 2 ^ 6)))) / 2 ^ 8))), (5, .int (nI ((tq k).toNat))), (4, .int (nI ((tq (16 + k)).toNat / 2 ^ 2 + (tq (17 + k)).toNat % 2 ^ 2 * 2 ^ 6))), (2, .int (nI i)), (0, .ref a0)] dX8_multiply_210 3 rfl (by decide +kernel) (by decide) rfl ?_
                        refine v_goto g 92 dX8_multiply_213 (by decide) ?_
                        refine v_lpick [0, 1, 4, 5] [(3, .int (nI (k + 1))), (1, .int (nI ((cy + (((tq k).toNat) + (5 * ((tq (16 + k)).toNat / 2 ^ 2 + (tq (17 + k)).toNat % 2 ^ 2 * 2 ^ 6)))) / 2 ^ 8))), (2, .int (nI i)), (0, .ref a0)] rfl ?_
                        exact ix ((cy + (((tq k).toNat) + (5 * ((tq (16 + k)).toNat / 2 ^ 2 + (tq (17 + k)).toNat % 2 ^ 2 * 2 ^ 6)))) / 2 ^ 8) t21 (by
                              have z := cy_s (x := (tq k).toNat + 5 * ((tq (16 + k)).toNat / 2 ^ 2 + (tq (17 + k)).toNat % 2 ^ 2 * 2 ^ 6)) hx0 ht21
                              have a1 : loD tq k = (tq k).toNat := by unfold loD; rw [if_pos h17]
                              have a2 : hiD tq k = ((tq (16 + k)).toNat / 2 ^ 2 + (tq (17 + k)).toNat % 2 ^ 2 * 2 ^ 6) := by unfold hiD; rw [if_pos (by omega)]
                              have z2 : loD tq k + 5 * hiD tq k = (tq k).toNat + 5 * ((tq (16 + k)).toNat / 2 ^ 2 + (tq (17 + k)).toNat % 2 ^ 2 * 2 ^ 6) := by rw [a1, a2]
                              show _ = dsm (fun j => loD tq j + 5 * hiD tq j) k + (loD tq k + 5 * hiD tq k) * 256 ^ k
                              rw [z2]
                              exact z) (by omega)
                · skip
                  intro cy tb hx0 hx1
                  refine v_iload_n g dX8_multiply_92 3 rfl 0 rfl ?_
                  refine v_bipush g dX8_multiply_93 (v := nI 36) (by decide +kernel) ?_
                  refine v_icmp_geN g 216 dX8_multiply_95 (by decide) (by omega) (by omega) (fun h22 => ?_) (fun h22 => ?_)
                  · skip
                    have hN : leN tb 36 = dsm (loD tq) 36 + 5 * dsm (hiD tq) 36 := by
                      rw [dsm_add, dsm_mul] at hx0
                      have q1 := fold_b1 hV hf.2 hf.1
                      have q2 := leN_lt tb 36
                      have q3 : (256 : Nat) ^ 36 = 2 ^ 288 := by decide +kernel
                      rw [q3] at hx0 q2
                      omega
                    refine v_iconst g dX8_multiply_216 (v := nI 0) (by decide +kernel) ?_
                    refine v_istore_n g [(3, .int (nI 0)), (1, .int (nI cy)), (2, .int (nI i)), (0, .ref a0)] dX8_multiply_217 3 rfl (by decide) rfl ?_
                    have L218_22 : ∀ k : Nat, k ≤ 36 → ∀ (pc_ : Nat → By), (∀ j, j < k → pc_ j = tb j) → VJ C 0 0 218 [(3, .int (nI k)), (1, .int (nI cy)), (2, .int (nI i)), (0, .ref a0)] [] [(a0, .inr (8, [.int (nI v_a0_thrown), .ref a0_tape, .int (nI v_a0_taped), .ref a0_out, .int (nI v_a0_outs), .ref a0_slots, .ref a0_kept, .ref a0_phase, .ref a0_secret, .ref a0_key, .ref a0_hide, .ref a0_iv, .ref a0_begin, .ref a0_each, .ref a0_root, .ref a0_power, .ref a0_work, .ref a0_w, .ref a0_h, .ref a0_state, .ref a0_sum, .ref a0_pad, .ref a0_text, .int (nI v_a0_texts), .ref a0_info, .int (nI v_a0_infos), .ref a0_made, .ref a0_blockKey, .ref a0_nonce, .ref a0_x, .ref a0_first, .ref a0_block, .ref a0_a, .ref a0_r, .ref a0_product, .ref a0_tag, .ref a0_sealed])), (a0_a, aY C.D 40 tb), (a0_r, aY C.D 16 t_a0_r), (a0_product, aY C.D 40 pc_)] := by
                      refine v_for (36) ?_ ?_
                      · skip
                        intro k hik iy pc_ hy0
                        refine v_iload_n g dX8_multiply_218 3 rfl 0 rfl ?_
                        refine v_bipush g dX8_multiply_219 (v := nI 36) (by decide +kernel) ?_
                        refine v_icmp_geN g 242 dX8_multiply_221 (by decide) (by omega) (by omega) (fun h23 => ?_) (fun h23 => ?_)
                        · skip
                          exact absurd h23 (by omega)
                        · skip
                          refine v_aload_n g dX8_multiply_224 0 rfl 3 rfl ?_
                          refine gf_X8_98 g dX8_multiply_225 0 rfl rfl ?_
                          refine v_iload_n g dX8_multiply_228 3 rfl 0 rfl ?_
                          refine v_aload_n g dX8_multiply_229 0 rfl 3 rfl ?_
                          refine gf_X8_92 g dX8_multiply_230 0 rfl rfl ?_
                          refine v_iload_n g dX8_multiply_233 3 rfl 0 rfl ?_
                          refine v_ialdY g 1 rfl (by omega) (by decide) dX8_multiply_234 ?_
                          obtain ⟨t24, ht24⟩ : ∃ z : Nat → By, z = va_up pc_ k (tb k) := ⟨_, rfl⟩
                          refine v_iastY g ((tb k)) rfl t24 ht24 3 [(a0, .inr (8, [.int (nI v_a0_thrown), .ref a0_tape, .int (nI v_a0_taped), .ref a0_out, .int (nI v_a0_outs), .ref a0_slots, .ref a0_kept, .ref a0_phase, .ref a0_secret, .ref a0_key, .ref a0_hide, .ref a0_iv, .ref a0_begin, .ref a0_each, .ref a0_root, .ref a0_power, .ref a0_work, .ref a0_w, .ref a0_h, .ref a0_state, .ref a0_sum, .ref a0_pad, .ref a0_text, .int (nI v_a0_texts), .ref a0_info, .int (nI v_a0_infos), .ref a0_made, .ref a0_blockKey, .ref a0_nonce, .ref a0_x, .ref a0_first, .ref a0_block, .ref a0_a, .ref a0_r, .ref a0_product, .ref a0_tag, .ref a0_sealed])), (a0_a, aY C.D 40 tb), (a0_r, aY C.D 16 t_a0_r), (a0_product, aY C.D 40 t24)] rfl (by omega) (by decide) dX8_multiply_235 rfl ?_
                          refine v_iincN g 1 [(3, .int (nI (k + 1))), (1, .int (nI cy)), (2, .int (nI i)), (0, .ref a0)] dX8_multiply_236 0 rfl (by decide +kernel) (by decide) rfl ?_
                          refine v_goto g 218 dX8_multiply_239 (by decide) ?_
                          exact iy t24 (up_lt (m := k) hy0 rfl ht24)
                      · skip
                        intro pc_ hy0
                        refine v_iload_n g dX8_multiply_218 3 rfl 0 rfl ?_
                        refine v_bipush g dX8_multiply_219 (v := nI 36) (by decide +kernel) ?_
                        refine v_icmp_geN g 242 dX8_multiply_221 (by decide) (by omega) (by omega) (fun h25 => ?_) (fun h25 => ?_)
                        · skip
                          have he : leN pc_ 36 = leN tb 36 := leN_congr 36 (fun j hj => hy0 j hj)
                          refine v_iincN g 1 [(2, .int (nI (i + 1))), (3, .int (nI 36)), (1, .int (nI cy)), (0, .ref a0)] dX8_multiply_242 2 rfl (by decide +kernel) (by decide) rfl ?_
                          refine v_goto g 83 dX8_multiply_245 (by decide) ?_
                          refine v_lpick [0, 3] [(2, .int (nI (i + 1))), (0, .ref a0)] rfl ?_
                          exact ik tb pc_ (by rw [he, hN, fold_p, hf.2]; exact hw0) (by
                                rw [he, hN]
                                rcases hw1 with ⟨q, -⟩ | ⟨q, q2⟩ | ⟨q, -⟩
                                · exact Or.inr (Or.inl ⟨by omega, fold_b1 hV hf.2 hf.1⟩)
                                · exact Or.inr (Or.inr ⟨by omega, fold_b2 q2 hf.2 hf.1⟩)
                                · omega) (fun _ j hj => (hy0 j hj).symm)
                        · skip
                          exact absurd h25 (by omega)
                    exact L218_22 0 (by omega) tq (fun j hj => absurd hj (by omega))
                  · skip
                    exact absurd h22 (by omega)
              exact L92_9 0 (by omega) 0 ta rfl (by decide)
          · skip
            intro ta tq hw0 hw1 hw2
            refine v_iload_n g dX8_multiply_83 2 rfl 0 rfl ?_
            refine v_iconst g dX8_multiply_84 (v := nI 2) (by decide +kernel) ?_
            refine v_icmp_geN g 248 dX8_multiply_85 (by decide) (by omega) (by omega) (fun h26 => ?_) (fun h26 => ?_)
            · skip
              have z1 : leN tq 36 < 2 ^ 130 + 5 := by rcases hw1 with ⟨q, -⟩ | ⟨q, -⟩ | ⟨-, q⟩ <;> first | exact q | omega
              have z2 : leN ta 36 = leN tq 36 := leN_congr 36 (hw2 (by decide))
              have z3 := (leN_top (t := ta) (m := 18) (n := 36) (by decide) (by rw [z2]; exact Nat.lt_trans z1 (by decide +kernel))).1
              exact v_ret g R dX8_multiply_248 (by decide) (by decide) ⟨ta, tq, rfl, rfl, (by rw [z3, z2]; exact z1), (by rw [z3, z2]; exact hw0)⟩
            · skip
              exact absurd h26 (by omega)
        exact L83_8 0 (by omega) t_a0_a tp (by rw [hP]) (Or.inl ⟨rfl, by rw [hP]; exact hP2⟩) (fun h => absurd h (by decide))
      · skip
        exact absurd h8 (by omega)
  exact L4_0 0 (by omega) 0 t_a0_product rfl (by decide)
