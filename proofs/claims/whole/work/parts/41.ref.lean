theorem dX8_blockOf_0 : decode cX8_blockOf 0 = .ok (.aload_n 0, 1) := by decide +kernel
theorem dX8_blockOf_1 : decode cX8_blockOf 1 = .ok (.getfield 86, 3) := by decide +kernel
theorem dX8_blockOf_4 : decode cX8_blockOf 4 = .ok (.iconst 0, 1) := by decide +kernel
theorem dX8_blockOf_5 : decode cX8_blockOf 5 = .ok (.ldc2_w 193, 3) := by decide +kernel
theorem dX8_blockOf_8 : decode cX8_blockOf 8 = .ok (.lastore, 1) := by decide +kernel
theorem dX8_blockOf_9 : decode cX8_blockOf 9 = .ok (.aload_n 0, 1) := by decide +kernel
theorem dX8_blockOf_10 : decode cX8_blockOf 10 = .ok (.getfield 86, 3) := by decide +kernel
theorem dX8_blockOf_13 : decode cX8_blockOf 13 = .ok (.iconst 1, 1) := by decide +kernel
theorem dX8_blockOf_14 : decode cX8_blockOf 14 = .ok (.ldc2_w 195, 3) := by decide +kernel
theorem dX8_blockOf_17 : decode cX8_blockOf 17 = .ok (.lastore, 1) := by decide +kernel
theorem dX8_blockOf_18 : decode cX8_blockOf 18 = .ok (.aload_n 0, 1) := by decide +kernel
theorem dX8_blockOf_19 : decode cX8_blockOf 19 = .ok (.getfield 86, 3) := by decide +kernel
theorem dX8_blockOf_22 : decode cX8_blockOf 22 = .ok (.iconst 2, 1) := by decide +kernel
theorem dX8_blockOf_23 : decode cX8_blockOf 23 = .ok (.ldc2_w 197, 3) := by decide +kernel
theorem dX8_blockOf_26 : decode cX8_blockOf 26 = .ok (.lastore, 1) := by decide +kernel
theorem dX8_blockOf_27 : decode cX8_blockOf 27 = .ok (.aload_n 0, 1) := by decide +kernel
theorem dX8_blockOf_28 : decode cX8_blockOf 28 = .ok (.getfield 86, 3) := by decide +kernel
theorem dX8_blockOf_31 : decode cX8_blockOf 31 = .ok (.iconst 3, 1) := by decide +kernel
theorem dX8_blockOf_32 : decode cX8_blockOf 32 = .ok (.ldc2_w 199, 3) := by decide +kernel
theorem dX8_blockOf_35 : decode cX8_blockOf 35 = .ok (.lastore, 1) := by decide +kernel
theorem dX8_blockOf_36 : decode cX8_blockOf 36 = .ok (.iconst 0, 1) := by decide +kernel
theorem dX8_blockOf_37 : decode cX8_blockOf 37 = .ok (.istore_n 3, 1) := by decide +kernel
theorem dX8_blockOf_38 : decode cX8_blockOf 38 = .ok (.iload_n 3, 1) := by decide +kernel
theorem dX8_blockOf_39 : decode cX8_blockOf 39 = .ok (.bipush 8, 2) := by decide +kernel
theorem dX8_blockOf_41 : decode cX8_blockOf 41 = .ok (.if_icmp .ge 27, 3) := by decide +kernel
theorem dX8_blockOf_44 : decode cX8_blockOf 44 = .ok (.aload_n 0, 1) := by decide +kernel
theorem dX8_blockOf_45 : decode cX8_blockOf 45 = .ok (.getfield 86, 3) := by decide +kernel
theorem dX8_blockOf_48 : decode cX8_blockOf 48 = .ok (.iconst 4, 1) := by decide +kernel
theorem dX8_blockOf_49 : decode cX8_blockOf 49 = .ok (.iload_n 3, 1) := by decide +kernel
theorem dX8_blockOf_50 : decode cX8_blockOf 50 = .ok (.iadd, 1) := by decide +kernel
theorem dX8_blockOf_51 : decode cX8_blockOf 51 = .ok (.aload_n 0, 1) := by decide +kernel
theorem dX8_blockOf_52 : decode cX8_blockOf 52 = .ok (.getfield 77, 3) := by decide +kernel
theorem dX8_blockOf_55 : decode cX8_blockOf 55 = .ok (.iconst 4, 1) := by decide +kernel
theorem dX8_blockOf_56 : decode cX8_blockOf 56 = .ok (.iload_n 3, 1) := by decide +kernel
theorem dX8_blockOf_57 : decode cX8_blockOf 57 = .ok (.imul, 1) := by decide +kernel
theorem dX8_blockOf_58 : decode cX8_blockOf 58 = .ok (.invokestatic 201, 3) := by decide +kernel
theorem dX8_blockOf_61 : decode cX8_blockOf 61 = .ok (.lastore, 1) := by decide +kernel
theorem dX8_blockOf_62 : decode cX8_blockOf 62 = .ok (.iinc 3 1, 3) := by decide +kernel
theorem dX8_blockOf_65 : decode cX8_blockOf 65 = .ok (.goto (-27), 3) := by decide +kernel
theorem dX8_blockOf_68 : decode cX8_blockOf 68 = .ok (.aload_n 0, 1) := by decide +kernel
theorem dX8_blockOf_69 : decode cX8_blockOf 69 = .ok (.getfield 86, 3) := by decide +kernel
theorem dX8_blockOf_72 : decode cX8_blockOf 72 = .ok (.bipush 12, 2) := by decide +kernel
theorem dX8_blockOf_74 : decode cX8_blockOf 74 = .ok (.lload_n 1, 1) := by decide +kernel
theorem dX8_blockOf_75 : decode cX8_blockOf 75 = .ok (.ldc2_w 123, 3) := by decide +kernel
theorem dX8_blockOf_78 : decode cX8_blockOf 78 = .ok (.land, 1) := by decide +kernel
theorem dX8_blockOf_79 : decode cX8_blockOf 79 = .ok (.lastore, 1) := by decide +kernel
theorem dX8_blockOf_80 : decode cX8_blockOf 80 = .ok (.iconst 0, 1) := by decide +kernel
theorem dX8_blockOf_81 : decode cX8_blockOf 81 = .ok (.istore_n 3, 1) := by decide +kernel
theorem dX8_blockOf_82 : decode cX8_blockOf 82 = .ok (.iload_n 3, 1) := by decide +kernel
theorem dX8_blockOf_83 : decode cX8_blockOf 83 = .ok (.iconst 3, 1) := by decide +kernel
theorem dX8_blockOf_84 : decode cX8_blockOf 84 = .ok (.if_icmp .ge 28, 3) := by decide +kernel
theorem dX8_blockOf_87 : decode cX8_blockOf 87 = .ok (.aload_n 0, 1) := by decide +kernel
theorem dX8_blockOf_88 : decode cX8_blockOf 88 = .ok (.getfield 86, 3) := by decide +kernel
theorem dX8_blockOf_91 : decode cX8_blockOf 91 = .ok (.bipush 13, 2) := by decide +kernel
theorem dX8_blockOf_93 : decode cX8_blockOf 93 = .ok (.iload_n 3, 1) := by decide +kernel
theorem dX8_blockOf_94 : decode cX8_blockOf 94 = .ok (.iadd, 1) := by decide +kernel
theorem dX8_blockOf_95 : decode cX8_blockOf 95 = .ok (.aload_n 0, 1) := by decide +kernel
theorem dX8_blockOf_96 : decode cX8_blockOf 96 = .ok (.getfield 80, 3) := by decide +kernel
theorem dX8_blockOf_99 : decode cX8_blockOf 99 = .ok (.iconst 4, 1) := by decide +kernel
theorem dX8_blockOf_100 : decode cX8_blockOf 100 = .ok (.iload_n 3, 1) := by decide +kernel
theorem dX8_blockOf_101 : decode cX8_blockOf 101 = .ok (.imul, 1) := by decide +kernel
theorem dX8_blockOf_102 : decode cX8_blockOf 102 = .ok (.invokestatic 201, 3) := by decide +kernel
theorem dX8_blockOf_105 : decode cX8_blockOf 105 = .ok (.lastore, 1) := by decide +kernel
theorem dX8_blockOf_106 : decode cX8_blockOf 106 = .ok (.iinc 3 1, 3) := by decide +kernel
theorem dX8_blockOf_109 : decode cX8_blockOf 109 = .ok (.goto (-27), 3) := by decide +kernel
theorem dX8_blockOf_112 : decode cX8_blockOf 112 = .ok (.iconst 0, 1) := by decide +kernel
theorem dX8_blockOf_113 : decode cX8_blockOf 113 = .ok (.istore_n 3, 1) := by decide +kernel
theorem dX8_blockOf_114 : decode cX8_blockOf 114 = .ok (.iload_n 3, 1) := by decide +kernel
theorem dX8_blockOf_115 : decode cX8_blockOf 115 = .ok (.bipush 16, 2) := by decide +kernel
theorem dX8_blockOf_117 : decode cX8_blockOf 117 = .ok (.if_icmp .ge 21, 3) := by decide +kernel
theorem dX8_blockOf_120 : decode cX8_blockOf 120 = .ok (.aload_n 0, 1) := by decide +kernel
theorem dX8_blockOf_121 : decode cX8_blockOf 121 = .ok (.getfield 83, 3) := by decide +kernel
theorem dX8_blockOf_124 : decode cX8_blockOf 124 = .ok (.iload_n 3, 1) := by decide +kernel
theorem dX8_blockOf_125 : decode cX8_blockOf 125 = .ok (.aload_n 0, 1) := by decide +kernel
theorem dX8_blockOf_126 : decode cX8_blockOf 126 = .ok (.getfield 86, 3) := by decide +kernel
theorem dX8_blockOf_129 : decode cX8_blockOf 129 = .ok (.iload_n 3, 1) := by decide +kernel
theorem dX8_blockOf_130 : decode cX8_blockOf 130 = .ok (.laload, 1) := by decide +kernel
theorem dX8_blockOf_131 : decode cX8_blockOf 131 = .ok (.lastore, 1) := by decide +kernel
theorem dX8_blockOf_132 : decode cX8_blockOf 132 = .ok (.iinc 3 1, 3) := by decide +kernel
theorem dX8_blockOf_135 : decode cX8_blockOf 135 = .ok (.goto (-21), 3) := by decide +kernel
theorem dX8_blockOf_138 : decode cX8_blockOf 138 = .ok (.iconst 0, 1) := by decide +kernel
theorem dX8_blockOf_139 : decode cX8_blockOf 139 = .ok (.istore_n 3, 1) := by decide +kernel
theorem dX8_blockOf_140 : decode cX8_blockOf 140 = .ok (.iload_n 3, 1) := by decide +kernel
theorem dX8_blockOf_141 : decode cX8_blockOf 141 = .ok (.bipush 20, 2) := by decide +kernel
theorem dX8_blockOf_143 : decode cX8_blockOf 143 = .ok (.if_icmp .ge 68, 3) := by decide +kernel
theorem dX8_blockOf_146 : decode cX8_blockOf 146 = .ok (.iload_n 3, 1) := by decide +kernel
theorem dX8_blockOf_147 : decode cX8_blockOf 147 = .ok (.iconst 2, 1) := by decide +kernel
theorem dX8_blockOf_148 : decode cX8_blockOf 148 = .ok (.irem, 1) := by decide +kernel
theorem dX8_blockOf_149 : decode cX8_blockOf 149 = .ok (.istore 4, 2) := by decide +kernel
theorem dX8_blockOf_151 : decode cX8_blockOf 151 = .ok (.iconst 0, 1) := by decide +kernel
theorem dX8_blockOf_152 : decode cX8_blockOf 152 = .ok (.istore 5, 2) := by decide +kernel
theorem dX8_blockOf_154 : decode cX8_blockOf 154 = .ok (.iload 5, 2) := by decide +kernel
theorem dX8_blockOf_156 : decode cX8_blockOf 156 = .ok (.iconst 4, 1) := by decide +kernel
theorem dX8_blockOf_157 : decode cX8_blockOf 157 = .ok (.if_icmp .ge 48, 3) := by decide +kernel
theorem dX8_blockOf_160 : decode cX8_blockOf 160 = .ok (.aload_n 0, 1) := by decide +kernel
theorem dX8_blockOf_161 : decode cX8_blockOf 161 = .ok (.iload 5, 2) := by decide +kernel
theorem dX8_blockOf_163 : decode cX8_blockOf 163 = .ok (.iconst 4, 1) := by decide +kernel
theorem dX8_blockOf_164 : decode cX8_blockOf 164 = .ok (.iload 5, 2) := by decide +kernel
theorem dX8_blockOf_166 : decode cX8_blockOf 166 = .ok (.iload 4, 2) := by decide +kernel
theorem dX8_blockOf_168 : decode cX8_blockOf 168 = .ok (.iadd, 1) := by decide +kernel
theorem dX8_blockOf_169 : decode cX8_blockOf 169 = .ok (.iconst 4, 1) := by decide +kernel
theorem dX8_blockOf_170 : decode cX8_blockOf 170 = .ok (.irem, 1) := by decide +kernel
theorem dX8_blockOf_171 : decode cX8_blockOf 171 = .ok (.iadd, 1) := by decide +kernel
theorem dX8_blockOf_172 : decode cX8_blockOf 172 = .ok (.bipush 8, 2) := by decide +kernel
theorem dX8_blockOf_174 : decode cX8_blockOf 174 = .ok (.iload 5, 2) := by decide +kernel
theorem dX8_blockOf_176 : decode cX8_blockOf 176 = .ok (.iconst 2, 1) := by decide +kernel
theorem dX8_blockOf_177 : decode cX8_blockOf 177 = .ok (.iload 4, 2) := by decide +kernel
theorem dX8_blockOf_179 : decode cX8_blockOf 179 = .ok (.imul, 1) := by decide +kernel
theorem dX8_blockOf_180 : decode cX8_blockOf 180 = .ok (.iadd, 1) := by decide +kernel
theorem dX8_blockOf_181 : decode cX8_blockOf 181 = .ok (.iconst 4, 1) := by decide +kernel
theorem dX8_blockOf_182 : decode cX8_blockOf 182 = .ok (.irem, 1) := by decide +kernel
theorem dX8_blockOf_183 : decode cX8_blockOf 183 = .ok (.iadd, 1) := by decide +kernel
theorem dX8_blockOf_184 : decode cX8_blockOf 184 = .ok (.bipush 12, 2) := by decide +kernel
theorem dX8_blockOf_186 : decode cX8_blockOf 186 = .ok (.iload 5, 2) := by decide +kernel
theorem dX8_blockOf_188 : decode cX8_blockOf 188 = .ok (.iconst 3, 1) := by decide +kernel
theorem dX8_blockOf_189 : decode cX8_blockOf 189 = .ok (.iload 4, 2) := by decide +kernel
theorem dX8_blockOf_191 : decode cX8_blockOf 191 = .ok (.imul, 1) := by decide +kernel
theorem dX8_blockOf_192 : decode cX8_blockOf 192 = .ok (.iadd, 1) := by decide +kernel
theorem dX8_blockOf_193 : decode cX8_blockOf 193 = .ok (.iconst 4, 1) := by decide +kernel
theorem dX8_blockOf_194 : decode cX8_blockOf 194 = .ok (.irem, 1) := by decide +kernel
theorem dX8_blockOf_195 : decode cX8_blockOf 195 = .ok (.iadd, 1) := by decide +kernel
theorem dX8_blockOf_196 : decode cX8_blockOf 196 = .ok (.invokevirtual 205, 3) := by decide +kernel
theorem dX8_blockOf_199 : decode cX8_blockOf 199 = .ok (.iinc 5 1, 3) := by decide +kernel
theorem dX8_blockOf_202 : decode cX8_blockOf 202 = .ok (.goto (-48), 3) := by decide +kernel
theorem dX8_blockOf_205 : decode cX8_blockOf 205 = .ok (.iinc 3 1, 3) := by decide +kernel
theorem dX8_blockOf_208 : decode cX8_blockOf 208 = .ok (.goto (-68), 3) := by decide +kernel
theorem dX8_blockOf_211 : decode cX8_blockOf 211 = .ok (.iconst 0, 1) := by decide +kernel
theorem dX8_blockOf_212 : decode cX8_blockOf 212 = .ok (.istore_n 3, 1) := by decide +kernel
theorem dX8_blockOf_213 : decode cX8_blockOf 213 = .ok (.iload_n 3, 1) := by decide +kernel
theorem dX8_blockOf_214 : decode cX8_blockOf 214 = .ok (.bipush 64, 2) := by decide +kernel
theorem dX8_blockOf_216 : decode cX8_blockOf 216 = .ok (.if_icmp .ge 48, 3) := by decide +kernel
theorem dX8_blockOf_219 : decode cX8_blockOf 219 = .ok (.aload_n 0, 1) := by decide +kernel
theorem dX8_blockOf_220 : decode cX8_blockOf 220 = .ok (.getfield 89, 3) := by decide +kernel
theorem dX8_blockOf_223 : decode cX8_blockOf 223 = .ok (.iload_n 3, 1) := by decide +kernel
theorem dX8_blockOf_224 : decode cX8_blockOf 224 = .ok (.aload_n 0, 1) := by decide +kernel
theorem dX8_blockOf_225 : decode cX8_blockOf 225 = .ok (.getfield 83, 3) := by decide +kernel
theorem dX8_blockOf_228 : decode cX8_blockOf 228 = .ok (.iload_n 3, 1) := by decide +kernel
theorem dX8_blockOf_229 : decode cX8_blockOf 229 = .ok (.iconst 4, 1) := by decide +kernel
theorem dX8_blockOf_230 : decode cX8_blockOf 230 = .ok (.idiv, 1) := by decide +kernel
theorem dX8_blockOf_231 : decode cX8_blockOf 231 = .ok (.laload, 1) := by decide +kernel
theorem dX8_blockOf_232 : decode cX8_blockOf 232 = .ok (.aload_n 0, 1) := by decide +kernel
theorem dX8_blockOf_233 : decode cX8_blockOf 233 = .ok (.getfield 86, 3) := by decide +kernel
theorem dX8_blockOf_236 : decode cX8_blockOf 236 = .ok (.iload_n 3, 1) := by decide +kernel
theorem dX8_blockOf_237 : decode cX8_blockOf 237 = .ok (.iconst 4, 1) := by decide +kernel
theorem dX8_blockOf_238 : decode cX8_blockOf 238 = .ok (.idiv, 1) := by decide +kernel
theorem dX8_blockOf_239 : decode cX8_blockOf 239 = .ok (.laload, 1) := by decide +kernel
theorem dX8_blockOf_240 : decode cX8_blockOf 240 = .ok (.ladd, 1) := by decide +kernel
theorem dX8_blockOf_241 : decode cX8_blockOf 241 = .ok (.ldc2_w 123, 3) := by decide +kernel
theorem dX8_blockOf_244 : decode cX8_blockOf 244 = .ok (.land, 1) := by decide +kernel
theorem dX8_blockOf_245 : decode cX8_blockOf 245 = .ok (.bipush 8, 2) := by decide +kernel
theorem dX8_blockOf_247 : decode cX8_blockOf 247 = .ok (.iload_n 3, 1) := by decide +kernel
theorem dX8_blockOf_248 : decode cX8_blockOf 248 = .ok (.iconst 4, 1) := by decide +kernel
theorem dX8_blockOf_249 : decode cX8_blockOf 249 = .ok (.irem, 1) := by decide +kernel
theorem dX8_blockOf_250 : decode cX8_blockOf 250 = .ok (.imul, 1) := by decide +kernel
theorem dX8_blockOf_251 : decode cX8_blockOf 251 = .ok (.lshr, 1) := by decide +kernel
theorem dX8_blockOf_252 : decode cX8_blockOf 252 = .ok (.ldc2_w 134, 3) := by decide +kernel
theorem dX8_blockOf_255 : decode cX8_blockOf 255 = .ok (.land, 1) := by decide +kernel
theorem dX8_blockOf_256 : decode cX8_blockOf 256 = .ok (.l2i, 1) := by decide +kernel
theorem dX8_blockOf_257 : decode cX8_blockOf 257 = .ok (.iastore, 1) := by decide +kernel
theorem dX8_blockOf_258 : decode cX8_blockOf 258 = .ok (.iinc 3 1, 3) := by decide +kernel
theorem dX8_blockOf_261 : decode cX8_blockOf 261 = .ok (.goto (-48), 3) := by decide +kernel
theorem dX8_blockOf_264 : decode cX8_blockOf 264 = .ok (.return_, 1) := by decide +kernel
set_option maxHeartbeats 4000000 in
set_option maxRecDepth 100000 in
theorem c_R_block (l : Launch) (D : va_G) (a0 : Nat) (p1 : BitVec 64) (v_a0_thrown : Nat) (a0_tape : Nat) (v_a0_taped : Nat) (a0_out : Nat) (v_a0_outs : Nat) (a0_slots : Nat) (a0_kept : Nat) (a0_phase : Nat) (a0_secret : Nat) (a0_key : Nat) (a0_hide : Nat) (a0_iv : Nat) (a0_begin : Nat) (a0_each : Nat) (a0_root : Nat) (a0_power : Nat) (a0_work : Nat) (a0_w : Nat) (a0_h : Nat) (a0_state : Nat) (a0_sum : Nat) (a0_pad : Nat) (a0_text : Nat) (v_a0_texts : Nat) (a0_info : Nat) (v_a0_infos : Nat) (a0_made : Nat) (a0_blockKey : Nat) (a0_nonce : Nat) (a0_x : Nat) (a0_first : Nat) (a0_block : Nat) (a0_a : Nat) (a0_r : Nat) (a0_product : Nat) (a0_tag : Nat) (a0_sealed : Nat) (t_a0_blockKey : Nat → By) (t_a0_nonce : Nat → By) (t_a0_x : Nat → Wd) (t_a0_first : Nat → Wd) (t_a0_block : Nat → By)   : vM l D yX8_blockOf cX8_blockOf 6 none { frames := 3, cells := 0, slots := 0, locals := 70 } [.ref a0, .long (xL p1)] [(a0, .inr (8, [.int (nI v_a0_thrown), .ref a0_tape, .int (nI v_a0_taped), .ref a0_out, .int (nI v_a0_outs), .ref a0_slots, .ref a0_kept, .ref a0_phase, .ref a0_secret, .ref a0_key, .ref a0_hide, .ref a0_iv, .ref a0_begin, .ref a0_each, .ref a0_root, .ref a0_power, .ref a0_work, .ref a0_w, .ref a0_h, .ref a0_state, .ref a0_sum, .ref a0_pad, .ref a0_text, .int (nI v_a0_texts), .ref a0_info, .int (nI v_a0_infos), .ref a0_made, .ref a0_blockKey, .ref a0_nonce, .ref a0_x, .ref a0_first, .ref a0_block, .ref a0_a, .ref a0_r, .ref a0_product, .ref a0_tag, .ref a0_sealed])), (a0_blockKey, aY D 32 t_a0_blockKey), (a0_nonce, aY D 12 t_a0_nonce), (a0_x, aM D 16 t_a0_x), (a0_first, aM D 16 t_a0_first), (a0_block, aY D 64 t_a0_block)] (fun r wo => ∃ (tx : Nat → Wd) (tf : Nat → Wd) (tb : Nat → By), r = none ∧ wo = [(a0, .inr (8, [.int (nI v_a0_thrown), .ref a0_tape, .int (nI v_a0_taped), .ref a0_out, .int (nI v_a0_outs), .ref a0_slots, .ref a0_kept, .ref a0_phase, .ref a0_secret, .ref a0_key, .ref a0_hide, .ref a0_iv, .ref a0_begin, .ref a0_each, .ref a0_root, .ref a0_power, .ref a0_work, .ref a0_w, .ref a0_h, .ref a0_state, .ref a0_sum, .ref a0_pad, .ref a0_text, .int (nI v_a0_texts), .ref a0_info, .int (nI v_a0_infos), .ref a0_made, .ref a0_blockKey, .ref a0_nonce, .ref a0_x, .ref a0_first, .ref a0_block, .ref a0_a, .ref a0_r, .ref a0_product, .ref a0_tag, .ref a0_sealed])), (a0_blockKey, aY D 32 t_a0_blockKey), (a0_nonce, aY D 12 t_a0_nonce), (a0_x, aM D 16 tx), (a0_first, aM D 16 tf), (a0_block, aY D 64 tb)] ∧ (∀ j, j < 64 → tb j = ccF t_a0_blockKey t_a0_nonce (p1.setWidth 32) j)) := by
  refine vM.of (by decide) (Nat.le_of_ble_eq_true rfl) (fun C hCl hCD g R => ?_)
  subst hCl; subst hCD
  show VJ C 0 0 0 [(0, .ref a0), (1, .long (xL p1))] [] [(a0, .inr (8, [.int (nI v_a0_thrown), .ref a0_tape, .int (nI v_a0_taped), .ref a0_out, .int (nI v_a0_outs), .ref a0_slots, .ref a0_kept, .ref a0_phase, .ref a0_secret, .ref a0_key, .ref a0_hide, .ref a0_iv, .ref a0_begin, .ref a0_each, .ref a0_root, .ref a0_power, .ref a0_work, .ref a0_w, .ref a0_h, .ref a0_state, .ref a0_sum, .ref a0_pad, .ref a0_text, .int (nI v_a0_texts), .ref a0_info, .int (nI v_a0_infos), .ref a0_made, .ref a0_blockKey, .ref a0_nonce, .ref a0_x, .ref a0_first, .ref a0_block, .ref a0_a, .ref a0_r, .ref a0_product, .ref a0_tag, .ref a0_sealed])), (a0_blockKey, aY C.D 32 t_a0_blockKey), (a0_nonce, aY C.D 12 t_a0_nonce), (a0_x, aM C.D 16 t_a0_x), (a0_first, aM C.D 16 t_a0_first), (a0_block, aY C.D 64 t_a0_block)]
  refine v_aload_n g dX8_blockOf_0 0 rfl 0 rfl ?_
  refine gf_X8_86 g dX8_blockOf_1 0 rfl rfl ?_
  refine v_iconst g dX8_blockOf_4 (v := nI 0) (by decide +kernel) ?_
  refine v_ldc2 g dX8_blockOf_5 kl_X8_193 ?_
  obtain ⟨t1, ht1⟩ : ∃ z : Nat → Wd, z = va_up t_a0_first 0 1634760805#32 := ⟨_, rfl⟩
  refine v_lastM g (1634760805#32) rfl t1 ht1 4 [(a0, .inr (8, [.int (nI v_a0_thrown), .ref a0_tape, .int (nI v_a0_taped), .ref a0_out, .int (nI v_a0_outs), .ref a0_slots, .ref a0_kept, .ref a0_phase, .ref a0_secret, .ref a0_key, .ref a0_hide, .ref a0_iv, .ref a0_begin, .ref a0_each, .ref a0_root, .ref a0_power, .ref a0_work, .ref a0_w, .ref a0_h, .ref a0_state, .ref a0_sum, .ref a0_pad, .ref a0_text, .int (nI v_a0_texts), .ref a0_info, .int (nI v_a0_infos), .ref a0_made, .ref a0_blockKey, .ref a0_nonce, .ref a0_x, .ref a0_first, .ref a0_block, .ref a0_a, .ref a0_r, .ref a0_product, .ref a0_tag, .ref a0_sealed])), (a0_blockKey, aY C.D 32 t_a0_blockKey), (a0_nonce, aY C.D 12 t_a0_nonce), (a0_x, aM C.D 16 t_a0_x), (a0_first, aM C.D 16 t1), (a0_block, aY C.D 64 t_a0_block)] rfl (by decide) (by decide) dX8_blockOf_8 rfl ?_
  refine v_aload_n g dX8_blockOf_9 0 rfl 0 rfl ?_
  refine gf_X8_86 g dX8_blockOf_10 0 rfl rfl ?_
  refine v_iconst g dX8_blockOf_13 (v := nI 1) (by decide +kernel) ?_
  refine v_ldc2 g dX8_blockOf_14 kl_X8_195 ?_
  obtain ⟨t2, ht2⟩ : ∃ z : Nat → Wd, z = va_up t1 1 857760878#32 := ⟨_, rfl⟩
  refine v_lastM g (857760878#32) rfl t2 ht2 4 [(a0, .inr (8, [.int (nI v_a0_thrown), .ref a0_tape, .int (nI v_a0_taped), .ref a0_out, .int (nI v_a0_outs), .ref a0_slots, .ref a0_kept, .ref a0_phase, .ref a0_secret, .ref a0_key, .ref a0_hide, .ref a0_iv, .ref a0_begin, .ref a0_each, .ref a0_root, .ref a0_power, .ref a0_work, .ref a0_w, .ref a0_h, .ref a0_state, .ref a0_sum, .ref a0_pad, .ref a0_text, .int (nI v_a0_texts), .ref a0_info, .int (nI v_a0_infos), .ref a0_made, .ref a0_blockKey, .ref a0_nonce, .ref a0_x, .ref a0_first, .ref a0_block, .ref a0_a, .ref a0_r, .ref a0_product, .ref a0_tag, .ref a0_sealed])), (a0_blockKey, aY C.D 32 t_a0_blockKey), (a0_nonce, aY C.D 12 t_a0_nonce), (a0_x, aM C.D 16 t_a0_x), (a0_first, aM C.D 16 t2), (a0_block, aY C.D 64 t_a0_block)] rfl (by decide) (by decide) dX8_blockOf_17 rfl ?_
  refine v_aload_n g dX8_blockOf_18 0 rfl 0 rfl ?_
  refine gf_X8_86 g dX8_blockOf_19 0 rfl rfl ?_
  refine v_iconst g dX8_blockOf_22 (v := nI 2) (by decide +kernel) ?_
  refine v_ldc2 g dX8_blockOf_23 kl_X8_197 ?_
  obtain ⟨t3, ht3⟩ : ∃ z : Nat → Wd, z = va_up t2 2 2036477234#32 := ⟨_, rfl⟩
  refine v_lastM g (2036477234#32) rfl t3 ht3 4 [(a0, .inr (8, [.int (nI v_a0_thrown), .ref a0_tape, .int (nI v_a0_taped), .ref a0_out, .int (nI v_a0_outs), .ref a0_slots, .ref a0_kept, .ref a0_phase, .ref a0_secret, .ref a0_key, .ref a0_hide, .ref a0_iv, .ref a0_begin, .ref a0_each, .ref a0_root, .ref a0_power, .ref a0_work, .ref a0_w, .ref a0_h, .ref a0_state, .ref a0_sum, .ref a0_pad, .ref a0_text, .int (nI v_a0_texts), .ref a0_info, .int (nI v_a0_infos), .ref a0_made, .ref a0_blockKey, .ref a0_nonce, .ref a0_x, .ref a0_first, .ref a0_block, .ref a0_a, .ref a0_r, .ref a0_product, .ref a0_tag, .ref a0_sealed])), (a0_blockKey, aY C.D 32 t_a0_blockKey), (a0_nonce, aY C.D 12 t_a0_nonce), (a0_x, aM C.D 16 t_a0_x), (a0_first, aM C.D 16 t3), (a0_block, aY C.D 64 t_a0_block)] rfl (by decide) (by decide) dX8_blockOf_26 rfl ?_
  refine v_aload_n g dX8_blockOf_27 0 rfl 0 rfl ?_
  refine gf_X8_86 g dX8_blockOf_28 0 rfl rfl ?_
  refine v_iconst g dX8_blockOf_31 (v := nI 3) (by decide +kernel) ?_
  refine v_ldc2 g dX8_blockOf_32 kl_X8_199 ?_
  obtain ⟨t4, ht4⟩ : ∃ z : Nat → Wd, z = va_up t3 3 1797285236#32 := ⟨_, rfl⟩
  refine v_lastM g (1797285236#32) rfl t4 ht4 4 [(a0, .inr (8, [.int (nI v_a0_thrown), .ref a0_tape, .int (nI v_a0_taped), .ref a0_out, .int (nI v_a0_outs), .ref a0_slots, .ref a0_kept, .ref a0_phase, .ref a0_secret, .ref a0_key, .ref a0_hide, .ref a0_iv, .ref a0_begin, .ref a0_each, .ref a0_root, .ref a0_power, .ref a0_work, .ref a0_w, .ref a0_h, .ref a0_state, .ref a0_sum, .ref a0_pad, .ref a0_text, .int (nI v_a0_texts), .ref a0_info, .int (nI v_a0_infos), .ref a0_made, .ref a0_blockKey, .ref a0_nonce, .ref a0_x, .ref a0_first, .ref a0_block, .ref a0_a, .ref a0_r, .ref a0_product, .ref a0_tag, .ref a0_sealed])), (a0_blockKey, aY C.D 32 t_a0_blockKey), (a0_nonce, aY C.D 12 t_a0_nonce), (a0_x, aM C.D 16 t_a0_x), (a0_first, aM C.D 16 t4), (a0_block, aY C.D 64 t_a0_block)] rfl (by decide) (by decide) dX8_blockOf_35 rfl ?_
  refine v_iconst g dX8_blockOf_36 (v := nI 0) (by decide +kernel) ?_
  refine v_istore_n g [(3, .int (nI 0)), (0, .ref a0), (1, .long (xL p1))] dX8_blockOf_37 3 rfl (by decide) rfl ?_
  have hf : ∀ j, j < 4 → t4 j = cc_x0 t_a0_blockKey t_a0_nonce (p1.setWidth 32) j := by
    intro j hj
    rw [cc_x0_o _ _ _ hj]
    rw [ht4, ht3, ht2, ht1]
    match j, hj with
    | 0, _ => rfl
    | 1, _ => rfl
    | 2, _ => rfl
    | 3, _ => rfl
  have L38_4 : ∀ i : Nat, i ≤ 8 → ∀ (fa : Nat → Wd), (∀ j, j < 4 + i → fa j = cc_x0 t_a0_blockKey t_a0_nonce (p1.setWidth 32) j) → VJ C 0 0 38 [(3, .int (nI i)), (0, .ref a0), (1, .long (xL p1))] [] [(a0, .inr (8, [.int (nI v_a0_thrown), .ref a0_tape, .int (nI v_a0_taped), .ref a0_out, .int (nI v_a0_outs), .ref a0_slots, .ref a0_kept, .ref a0_phase, .ref a0_secret, .ref a0_key, .ref a0_hide, .ref a0_iv, .ref a0_begin, .ref a0_each, .ref a0_root, .ref a0_power, .ref a0_work, .ref a0_w, .ref a0_h, .ref a0_state, .ref a0_sum, .ref a0_pad, .ref a0_text, .int (nI v_a0_texts), .ref a0_info, .int (nI v_a0_infos), .ref a0_made, .ref a0_blockKey, .ref a0_nonce, .ref a0_x, .ref a0_first, .ref a0_block, .ref a0_a, .ref a0_r, .ref a0_product, .ref a0_tag, .ref a0_sealed])), (a0_blockKey, aY C.D 32 t_a0_blockKey), (a0_nonce, aY C.D 12 t_a0_nonce), (a0_x, aM C.D 16 t_a0_x), (a0_first, aM C.D 16 fa), (a0_block, aY C.D 64 t_a0_block)] := by
    refine v_for (8) ?_ ?_
    · skip
      intro i hii ih fa hv0
      refine v_iload_n g dX8_blockOf_38 3 rfl 0 rfl ?_
      refine v_bipush g dX8_blockOf_39 (v := nI 8) (by decide +kernel) ?_
      refine v_icmp_geN g 68 dX8_blockOf_41 (by decide) (by omega) (by omega) (fun h5 => ?_) (fun h5 => ?_)
      · skip
        exact absurd h5 (by omega)
      · skip
        refine v_aload_n g dX8_blockOf_44 0 rfl 1 rfl ?_
        refine gf_X8_86 g dX8_blockOf_45 0 rfl rfl ?_
        refine v_iconst g dX8_blockOf_48 (v := nI 4) (by decide +kernel) ?_
        refine v_iload_n g dX8_blockOf_49 3 rfl 0 rfl ?_
        refine v_iaddN g dX8_blockOf_50 ?_
        refine v_aload_n g dX8_blockOf_51 0 rfl 1 rfl ?_
        refine gf_X8_77 g dX8_blockOf_52 0 rfl rfl ?_
        refine v_iconst g dX8_blockOf_55 (v := nI 4) (by decide +kernel) ?_
        refine v_iload_n g dX8_blockOf_56 3 rfl 0 rfl ?_
        refine v_imulN g dX8_blockOf_57 ?_
        refine v_callS (As := [.ref a0_blockKey, .int (nI (4 * i))]) (rest := [.int (nI (4 + i)), .ref a0_first]) (wr := [(a0, .inr (8, [.int (nI v_a0_thrown), .ref a0_tape, .int (nI v_a0_taped), .ref a0_out, .int (nI v_a0_outs), .ref a0_slots, .ref a0_kept, .ref a0_phase, .ref a0_secret, .ref a0_key, .ref a0_hide, .ref a0_iv, .ref a0_begin, .ref a0_each, .ref a0_root, .ref a0_power, .ref a0_work, .ref a0_w, .ref a0_h, .ref a0_state, .ref a0_sum, .ref a0_pad, .ref a0_text, .int (nI v_a0_texts), .ref a0_info, .int (nI v_a0_infos), .ref a0_made, .ref a0_blockKey, .ref a0_nonce, .ref a0_x, .ref a0_first, .ref a0_block, .ref a0_a, .ref a0_r, .ref a0_product, .ref a0_tag, .ref a0_sealed])), (a0_nonce, aY C.D 12 t_a0_nonce), (a0_x, aM C.D 16 t_a0_x), (a0_first, aM C.D 16 fa), (a0_block, aY C.D 64 t_a0_block)]) cw_X8_201 (hy_X8_wordOf) g (c_wordOf C.l C.D a0_blockKey (4 * i) 32 t_a0_blockKey (by omega) (by omega)) dX8_blockOf_58 rfl (by decide) (by decide) (Nat.le_of_ble_eq_true rfl) [1] [0, 2, 3, 4, 5] rfl rfl (by decide) rfl (by decide) (by decide) _ rfl (fun r wo hp6 => ?_)
        obtain ⟨rfl, rfl⟩ := hp6
        refine v_perm [0, 5, 1, 2, 3, 4] [(a0, .inr (8, [.int (nI v_a0_thrown), .ref a0_tape, .int (nI v_a0_taped), .ref a0_out, .int (nI v_a0_outs), .ref a0_slots, .ref a0_kept, .ref a0_phase, .ref a0_secret, .ref a0_key, .ref a0_hide, .ref a0_iv, .ref a0_begin, .ref a0_each, .ref a0_root, .ref a0_power, .ref a0_work, .ref a0_w, .ref a0_h, .ref a0_state, .ref a0_sum, .ref a0_pad, .ref a0_text, .int (nI v_a0_texts), .ref a0_info, .int (nI v_a0_infos), .ref a0_made, .ref a0_blockKey, .ref a0_nonce, .ref a0_x, .ref a0_first, .ref a0_block, .ref a0_a, .ref a0_r, .ref a0_product, .ref a0_tag, .ref a0_sealed])), (a0_blockKey, aY C.D 32 t_a0_blockKey), (a0_nonce, aY C.D 12 t_a0_nonce), (a0_x, aM C.D 16 t_a0_x), (a0_first, aM C.D 16 fa), (a0_block, aY C.D 64 t_a0_block)] (by decide) rfl rfl ?_
        show VJ C 0 0 61 [(3, .int (nI i)), (0, .ref a0), (1, .long (xL p1))] [.long (lN (le4 t_a0_blockKey (4 * i)).toNat), .int (nI (4 + i)), .ref a0_first] [(a0, .inr (8, [.int (nI v_a0_thrown), .ref a0_tape, .int (nI v_a0_taped), .ref a0_out, .int (nI v_a0_outs), .ref a0_slots, .ref a0_kept, .ref a0_phase, .ref a0_secret, .ref a0_key, .ref a0_hide, .ref a0_iv, .ref a0_begin, .ref a0_each, .ref a0_root, .ref a0_power, .ref a0_work, .ref a0_w, .ref a0_h, .ref a0_state, .ref a0_sum, .ref a0_pad, .ref a0_text, .int (nI v_a0_texts), .ref a0_info, .int (nI v_a0_infos), .ref a0_made, .ref a0_blockKey, .ref a0_nonce, .ref a0_x, .ref a0_first, .ref a0_block, .ref a0_a, .ref a0_r, .ref a0_product, .ref a0_tag, .ref a0_sealed])), (a0_blockKey, aY C.D 32 t_a0_blockKey), (a0_nonce, aY C.D 12 t_a0_nonce), (a0_x, aM C.D 16 t_a0_x), (a0_first, aM C.D 16 fa), (a0_block, aY C.D 64 t_a0_block)]
        obtain ⟨t7, ht7⟩ : ∃ z : Nat → Wd, z = va_up fa (4 + i) (le4 t_a0_blockKey (4 * i)) := ⟨_, rfl⟩
        refine v_lastM g (le4 t_a0_blockKey (4 * i)) rfl t7 ht7 4 [(a0, .inr (8, [.int (nI v_a0_thrown), .ref a0_tape, .int (nI v_a0_taped), .ref a0_out, .int (nI v_a0_outs), .ref a0_slots, .ref a0_kept, .ref a0_phase, .ref a0_secret, .ref a0_key, .ref a0_hide, .ref a0_iv, .ref a0_begin, .ref a0_each, .ref a0_root, .ref a0_power, .ref a0_work, .ref a0_w, .ref a0_h, .ref a0_state, .ref a0_sum, .ref a0_pad, .ref a0_text, .int (nI v_a0_texts), .ref a0_info, .int (nI v_a0_infos), .ref a0_made, .ref a0_blockKey, .ref a0_nonce, .ref a0_x, .ref a0_first, .ref a0_block, .ref a0_a, .ref a0_r, .ref a0_product, .ref a0_tag, .ref a0_sealed])), (a0_blockKey, aY C.D 32 t_a0_blockKey), (a0_nonce, aY C.D 12 t_a0_nonce), (a0_x, aM C.D 16 t_a0_x), (a0_first, aM C.D 16 t7), (a0_block, aY C.D 64 t_a0_block)] rfl (by omega) (by decide) dX8_blockOf_61 rfl ?_
        refine v_iincN g 1 [(3, .int (nI (i + 1))), (0, .ref a0), (1, .long (xL p1))] dX8_blockOf_62 0 rfl (by decide +kernel) (by decide) rfl ?_
        refine v_goto g 38 dX8_blockOf_65 (by decide) ?_
        exact ih t7 (up_lt (m := 4 + i) hv0 (cc_x0_k _ _ _ hii) ht7)
    · skip
      intro fa hv0
      refine v_iload_n g dX8_blockOf_38 3 rfl 0 rfl ?_
      refine v_bipush g dX8_blockOf_39 (v := nI 8) (by decide +kernel) ?_
      refine v_icmp_geN g 68 dX8_blockOf_41 (by decide) (by omega) (by omega) (fun h8 => ?_) (fun h8 => ?_)
      · skip
        have hfa := hv0
        refine v_aload_n g dX8_blockOf_68 0 rfl 1 rfl ?_
        refine gf_X8_86 g dX8_blockOf_69 0 rfl rfl ?_
        refine v_bipush g dX8_blockOf_72 (v := nI 12) (by decide +kernel) ?_
        refine v_lload_n g dX8_blockOf_74 1 rfl 2 rfl ?_
        refine v_ldc2 g dX8_blockOf_75 kl_X8_123 ?_
        refine v_landX g (p1) (4294967295#64) rfl (xL_n _) dX8_blockOf_78 ?_
        refine v_tol (lN (p1.setWidth 32).toNat) (ctr_eq p1) ?_
        obtain ⟨t9, ht9⟩ : ∃ z : Nat → Wd, z = va_up fa 12 (p1.setWidth 32) := ⟨_, rfl⟩
        refine v_lastM g (p1.setWidth 32) rfl t9 ht9 4 [(a0, .inr (8, [.int (nI v_a0_thrown), .ref a0_tape, .int (nI v_a0_taped), .ref a0_out, .int (nI v_a0_outs), .ref a0_slots, .ref a0_kept, .ref a0_phase, .ref a0_secret, .ref a0_key, .ref a0_hide, .ref a0_iv, .ref a0_begin, .ref a0_each, .ref a0_root, .ref a0_power, .ref a0_work, .ref a0_w, .ref a0_h, .ref a0_state, .ref a0_sum, .ref a0_pad, .ref a0_text, .int (nI v_a0_texts), .ref a0_info, .int (nI v_a0_infos), .ref a0_made, .ref a0_blockKey, .ref a0_nonce, .ref a0_x, .ref a0_first, .ref a0_block, .ref a0_a, .ref a0_r, .ref a0_product, .ref a0_tag, .ref a0_sealed])), (a0_blockKey, aY C.D 32 t_a0_blockKey), (a0_nonce, aY C.D 12 t_a0_nonce), (a0_x, aM C.D 16 t_a0_x), (a0_first, aM C.D 16 t9), (a0_block, aY C.D 64 t_a0_block)] rfl (by decide) (by decide) dX8_blockOf_79 rfl ?_
        refine v_iconst g dX8_blockOf_80 (v := nI 0) (by decide +kernel) ?_
        refine v_istore_n g [(3, .int (nI 0)), (0, .ref a0), (1, .long (xL p1))] dX8_blockOf_81 3 rfl (by decide) rfl ?_
        have hfb : ∀ j, j < 13 + 0 → t9 j = cc_x0 t_a0_blockKey t_a0_nonce (p1.setWidth 32) j := up_lt (m := 12) hfa rfl ht9
        have L82_9 : ∀ i : Nat, i ≤ 3 → ∀ (fb : Nat → Wd), (∀ j, j < 13 + i → fb j = cc_x0 t_a0_blockKey t_a0_nonce (p1.setWidth 32) j) → VJ C 0 0 82 [(3, .int (nI i)), (0, .ref a0), (1, .long (xL p1))] [] [(a0, .inr (8, [.int (nI v_a0_thrown), .ref a0_tape, .int (nI v_a0_taped), .ref a0_out, .int (nI v_a0_outs), .ref a0_slots, .ref a0_kept, .ref a0_phase, .ref a0_secret, .ref a0_key, .ref a0_hide, .ref a0_iv, .ref a0_begin, .ref a0_each, .ref a0_root, .ref a0_power, .ref a0_work, .ref a0_w, .ref a0_h, .ref a0_state, .ref a0_sum, .ref a0_pad, .ref a0_text, .int (nI v_a0_texts), .ref a0_info, .int (nI v_a0_infos), .ref a0_made, .ref a0_blockKey, .ref a0_nonce, .ref a0_x, .ref a0_first, .ref a0_block, .ref a0_a, .ref a0_r, .ref a0_product, .ref a0_tag, .ref a0_sealed])), (a0_blockKey, aY C.D 32 t_a0_blockKey), (a0_nonce, aY C.D 12 t_a0_nonce), (a0_x, aM C.D 16 t_a0_x), (a0_first, aM C.D 16 fb), (a0_block, aY C.D 64 t_a0_block)] := by
          refine v_for (3) ?_ ?_
          · skip
            intro i hii ih fb hv0
            refine v_iload_n g dX8_blockOf_82 3 rfl 0 rfl ?_
            refine v_iconst g dX8_blockOf_83 (v := nI 3) (by decide +kernel) ?_
            refine v_icmp_geN g 112 dX8_blockOf_84 (by decide) (by omega) (by omega) (fun h10 => ?_) (fun h10 => ?_)
            · skip
              exact absurd h10 (by omega)
            · skip
              refine v_aload_n g dX8_blockOf_87 0 rfl 1 rfl ?_
              refine gf_X8_86 g dX8_blockOf_88 0 rfl rfl ?_
              refine v_bipush g dX8_blockOf_91 (v := nI 13) (by decide +kernel) ?_
              refine v_iload_n g dX8_blockOf_93 3 rfl 0 rfl ?_
              refine v_iaddN g dX8_blockOf_94 ?_
              refine v_aload_n g dX8_blockOf_95 0 rfl 1 rfl ?_
              refine gf_X8_80 g dX8_blockOf_96 0 rfl rfl ?_
              refine v_iconst g dX8_blockOf_99 (v := nI 4) (by decide +kernel) ?_
              refine v_iload_n g dX8_blockOf_100 3 rfl 0 rfl ?_
              refine v_imulN g dX8_blockOf_101 ?_
              refine v_callS (As := [.ref a0_nonce, .int (nI (4 * i))]) (rest := [.int (nI (13 + i)), .ref a0_first]) (wr := [(a0, .inr (8, [.int (nI v_a0_thrown), .ref a0_tape, .int (nI v_a0_taped), .ref a0_out, .int (nI v_a0_outs), .ref a0_slots, .ref a0_kept, .ref a0_phase, .ref a0_secret, .ref a0_key, .ref a0_hide, .ref a0_iv, .ref a0_begin, .ref a0_each, .ref a0_root, .ref a0_power, .ref a0_work, .ref a0_w, .ref a0_h, .ref a0_state, .ref a0_sum, .ref a0_pad, .ref a0_text, .int (nI v_a0_texts), .ref a0_info, .int (nI v_a0_infos), .ref a0_made, .ref a0_blockKey, .ref a0_nonce, .ref a0_x, .ref a0_first, .ref a0_block, .ref a0_a, .ref a0_r, .ref a0_product, .ref a0_tag, .ref a0_sealed])), (a0_blockKey, aY C.D 32 t_a0_blockKey), (a0_x, aM C.D 16 t_a0_x), (a0_first, aM C.D 16 fb), (a0_block, aY C.D 64 t_a0_block)]) cw_X8_201 (hy_X8_wordOf) g (c_wordOf C.l C.D a0_nonce (4 * i) 12 t_a0_nonce (by omega) (by omega)) dX8_blockOf_102 rfl (by decide) (by decide) (Nat.le_of_ble_eq_true rfl) [2] [0, 1, 3, 4, 5] rfl rfl (by decide) rfl (by decide) (by decide) _ rfl (fun r wo hp11 => ?_)
              obtain ⟨rfl, rfl⟩ := hp11
              refine v_perm [0, 1, 5, 2, 3, 4] [(a0, .inr (8, [.int (nI v_a0_thrown), .ref a0_tape, .int (nI v_a0_taped), .ref a0_out, .int (nI v_a0_outs), .ref a0_slots, .ref a0_kept, .ref a0_phase, .ref a0_secret, .ref a0_key, .ref a0_hide, .ref a0_iv, .ref a0_begin, .ref a0_each, .ref a0_root, .ref a0_power, .ref a0_work, .ref a0_w, .ref a0_h, .ref a0_state, .ref a0_sum, .ref a0_pad, .ref a0_text, .int (nI v_a0_texts), .ref a0_info, .int (nI v_a0_infos), .ref a0_made, .ref a0_blockKey, .ref a0_nonce, .ref a0_x, .ref a0_first, .ref a0_block, .ref a0_a, .ref a0_r, .ref a0_product, .ref a0_tag, .ref a0_sealed])), (a0_blockKey, aY C.D 32 t_a0_blockKey), (a0_nonce, aY C.D 12 t_a0_nonce), (a0_x, aM C.D 16 t_a0_x), (a0_first, aM C.D 16 fb), (a0_block, aY C.D 64 t_a0_block)] (by decide) rfl rfl ?_
              show VJ C 0 0 105 [(3, .int (nI i)), (0, .ref a0), (1, .long (xL p1))] [.long (lN (le4 t_a0_nonce (4 * i)).toNat), .int (nI (13 + i)), .ref a0_first] [(a0, .inr (8, [.int (nI v_a0_thrown), .ref a0_tape, .int (nI v_a0_taped), .ref a0_out, .int (nI v_a0_outs), .ref a0_slots, .ref a0_kept, .ref a0_phase, .ref a0_secret, .ref a0_key, .ref a0_hide, .ref a0_iv, .ref a0_begin, .ref a0_each, .ref a0_root, .ref a0_power, .ref a0_work, .ref a0_w, .ref a0_h, .ref a0_state, .ref a0_sum, .ref a0_pad, .ref a0_text, .int (nI v_a0_texts), .ref a0_info, .int (nI v_a0_infos), .ref a0_made, .ref a0_blockKey, .ref a0_nonce, .ref a0_x, .ref a0_first, .ref a0_block, .ref a0_a, .ref a0_r, .ref a0_product, .ref a0_tag, .ref a0_sealed])), (a0_blockKey, aY C.D 32 t_a0_blockKey), (a0_nonce, aY C.D 12 t_a0_nonce), (a0_x, aM C.D 16 t_a0_x), (a0_first, aM C.D 16 fb), (a0_block, aY C.D 64 t_a0_block)]
              obtain ⟨t12, ht12⟩ : ∃ z : Nat → Wd, z = va_up fb (13 + i) (le4 t_a0_nonce (4 * i)) := ⟨_, rfl⟩
              refine v_lastM g (le4 t_a0_nonce (4 * i)) rfl t12 ht12 4 [(a0, .inr (8, [.int (nI v_a0_thrown), .ref a0_tape, .int (nI v_a0_taped), .ref a0_out, .int (nI v_a0_outs), .ref a0_slots, .ref a0_kept, .ref a0_phase, .ref a0_secret, .ref a0_key, .ref a0_hide, .ref a0_iv, .ref a0_begin, .ref a0_each, .ref a0_root, .ref a0_power, .ref a0_work, .ref a0_w, .ref a0_h, .ref a0_state, .ref a0_sum, .ref a0_pad, .ref a0_text, .int (nI v_a0_texts), .ref a0_info, .int (nI v_a0_infos), .ref a0_made, .ref a0_blockKey, .ref a0_nonce, .ref a0_x, .ref a0_first, .ref a0_block, .ref a0_a, .ref a0_r, .ref a0_product, .ref a0_tag, .ref a0_sealed])), (a0_blockKey, aY C.D 32 t_a0_blockKey), (a0_nonce, aY C.D 12 t_a0_nonce), (a0_x, aM C.D 16 t_a0_x), (a0_first, aM C.D 16 t12), (a0_block, aY C.D 64 t_a0_block)] rfl (by omega) (by decide) dX8_blockOf_105 rfl ?_
              refine v_iincN g 1 [(3, .int (nI (i + 1))), (0, .ref a0), (1, .long (xL p1))] dX8_blockOf_106 0 rfl (by decide +kernel) (by decide) rfl ?_
              refine v_goto g 82 dX8_blockOf_109 (by decide) ?_
              exact ih t12 (up_lt (m := 13 + i) hv0 (cc_x0_n _ _ _ hii) ht12)
          · skip
            intro fb hv0
            refine v_iload_n g dX8_blockOf_82 3 rfl 0 rfl ?_
            refine v_iconst g dX8_blockOf_83 (v := nI 3) (by decide +kernel) ?_
            refine v_icmp_geN g 112 dX8_blockOf_84 (by decide) (by omega) (by omega) (fun h13 => ?_) (fun h13 => ?_)
            · skip
              have hfc := hv0
              refine v_iconst g dX8_blockOf_112 (v := nI 0) (by decide +kernel) ?_
              refine v_istore_n g [(3, .int (nI 0)), (0, .ref a0), (1, .long (xL p1))] dX8_blockOf_113 3 rfl (by decide) rfl ?_
              have L114_13 : ∀ i : Nat, i ≤ 16 → ∀ (xa : Nat → Wd), (∀ j, j < i → xa j = cc_x0 t_a0_blockKey t_a0_nonce (p1.setWidth 32) j) → VJ C 0 0 114 [(3, .int (nI i)), (0, .ref a0), (1, .long (xL p1))] [] [(a0, .inr (8, [.int (nI v_a0_thrown), .ref a0_tape, .int (nI v_a0_taped), .ref a0_out, .int (nI v_a0_outs), .ref a0_slots, .ref a0_kept, .ref a0_phase, .ref a0_secret, .ref a0_key, .ref a0_hide, .ref a0_iv, .ref a0_begin, .ref a0_each, .ref a0_root, .ref a0_power, .ref a0_work, .ref a0_w, .ref a0_h, .ref a0_state, .ref a0_sum, .ref a0_pad, .ref a0_text, .int (nI v_a0_texts), .ref a0_info, .int (nI v_a0_infos), .ref a0_made, .ref a0_blockKey, .ref a0_nonce, .ref a0_x, .ref a0_first, .ref a0_block, .ref a0_a, .ref a0_r, .ref a0_product, .ref a0_tag, .ref a0_sealed])), (a0_blockKey, aY C.D 32 t_a0_blockKey), (a0_nonce, aY C.D 12 t_a0_nonce), (a0_x, aM C.D 16 xa), (a0_first, aM C.D 16 fb), (a0_block, aY C.D 64 t_a0_block)] := by
                refine v_for (16) ?_ ?_
                · skip
                  intro i hii ih xa hv0
                  refine v_iload_n g dX8_blockOf_114 3 rfl 0 rfl ?_
                  refine v_bipush g dX8_blockOf_115 (v := nI 16) (by decide +kernel) ?_
                  refine v_icmp_geN g 138 dX8_blockOf_117 (by decide) (by omega) (by omega) (fun h14 => ?_) (fun h14 => ?_)
                  · skip
                    exact absurd h14 (by omega)
                  · skip
                    refine v_aload_n g dX8_blockOf_120 0 rfl 1 rfl ?_
                    refine gf_X8_83 g dX8_blockOf_121 0 rfl rfl ?_
                    refine v_iload_n g dX8_blockOf_124 3 rfl 0 rfl ?_
                    refine v_aload_n g dX8_blockOf_125 0 rfl 1 rfl ?_
                    refine gf_X8_86 g dX8_blockOf_126 0 rfl rfl ?_
                    refine v_iload_n g dX8_blockOf_129 3 rfl 0 rfl ?_
                    refine v_laldM g 4 rfl (by omega) (by decide) dX8_blockOf_130 ?_
                    obtain ⟨t15, ht15⟩ : ∃ z : Nat → Wd, z = va_up xa i (fb i) := ⟨_, rfl⟩
                    refine v_lastM g (fb i) rfl t15 ht15 3 [(a0, .inr (8, [.int (nI v_a0_thrown), .ref a0_tape, .int (nI v_a0_taped), .ref a0_out, .int (nI v_a0_outs), .ref a0_slots, .ref a0_kept, .ref a0_phase, .ref a0_secret, .ref a0_key, .ref a0_hide, .ref a0_iv, .ref a0_begin, .ref a0_each, .ref a0_root, .ref a0_power, .ref a0_work, .ref a0_w, .ref a0_h, .ref a0_state, .ref a0_sum, .ref a0_pad, .ref a0_text, .int (nI v_a0_texts), .ref a0_info, .int (nI v_a0_infos), .ref a0_made, .ref a0_blockKey, .ref a0_nonce, .ref a0_x, .ref a0_first, .ref a0_block, .ref a0_a, .ref a0_r, .ref a0_product, .ref a0_tag, .ref a0_sealed])), (a0_blockKey, aY C.D 32 t_a0_blockKey), (a0_nonce, aY C.D 12 t_a0_nonce), (a0_x, aM C.D 16 t15), (a0_first, aM C.D 16 fb), (a0_block, aY C.D 64 t_a0_block)] rfl (by omega) (by decide) dX8_blockOf_131 rfl ?_
                    refine v_iincN g 1 [(3, .int (nI (i + 1))), (0, .ref a0), (1, .long (xL p1))] dX8_blockOf_132 0 rfl (by decide +kernel) (by decide) rfl ?_
                    refine v_goto g 114 dX8_blockOf_135 (by decide) ?_
                    exact ih t15 (up_lt (m := i) hv0 (hfc i (by omega)) ht15)
                · skip
                  intro xa hv0
                  refine v_iload_n g dX8_blockOf_114 3 rfl 0 rfl ?_
                  refine v_bipush g dX8_blockOf_115 (v := nI 16) (by decide +kernel) ?_
                  refine v_icmp_geN g 138 dX8_blockOf_117 (by decide) (by omega) (by omega) (fun h16 => ?_) (fun h16 => ?_)
                  · skip
                    have hxa := hv0
                    refine v_iconst g dX8_blockOf_138 (v := nI 0) (by decide +kernel) ?_
                    refine v_istore_n g [(3, .int (nI 0)), (0, .ref a0), (1, .long (xL p1))] dX8_blockOf_139 3 rfl (by decide) rfl ?_
                    have L140_16 : ∀ i : Nat, i ≤ 20 → ∀ (xb : Nat → Wd), (xb = cc_hs xa i) → VJ C 0 0 140 [(3, .int (nI i)), (0, .ref a0), (1, .long (xL p1))] [] [(a0, .inr (8, [.int (nI v_a0_thrown), .ref a0_tape, .int (nI v_a0_taped), .ref a0_out, .int (nI v_a0_outs), .ref a0_slots, .ref a0_kept, .ref a0_phase, .ref a0_secret, .ref a0_key, .ref a0_hide, .ref a0_iv, .ref a0_begin, .ref a0_each, .ref a0_root, .ref a0_power, .ref a0_work, .ref a0_w, .ref a0_h, .ref a0_state, .ref a0_sum, .ref a0_pad, .ref a0_text, .int (nI v_a0_texts), .ref a0_info, .int (nI v_a0_infos), .ref a0_made, .ref a0_blockKey, .ref a0_nonce, .ref a0_x, .ref a0_first, .ref a0_block, .ref a0_a, .ref a0_r, .ref a0_product, .ref a0_tag, .ref a0_sealed])), (a0_blockKey, aY C.D 32 t_a0_blockKey), (a0_nonce, aY C.D 12 t_a0_nonce), (a0_x, aM C.D 16 xb), (a0_first, aM C.D 16 fb), (a0_block, aY C.D 64 t_a0_block)] := by
                      refine v_for (20) ?_ ?_
                      · skip
                        intro i hii ih xb hv0
                        refine v_iload_n g dX8_blockOf_140 3 rfl 0 rfl ?_
                        refine v_bipush g dX8_blockOf_141 (v := nI 20) (by decide +kernel) ?_
                        refine v_icmp_geN g 211 dX8_blockOf_143 (by decide) (by omega) (by omega) (fun h17 => ?_) (fun h17 => ?_)
                        · skip
                          exact absurd h17 (by omega)
                        · skip
                          subst hv0
                          show VJ C 0 0 146 [(3, .int (nI i)), (0, .ref a0), (1, .long (xL p1))] [] [(a0, .inr (8, [.int (nI v_a0_thrown), .ref a0_tape, .int (nI v_a0_taped), .ref a0_out, .int (nI v_a0_outs), .ref a0_slots, .ref a0_kept, .ref a0_phase, .ref a0_secret, .ref a0_key, .ref a0_hide, .ref a0_iv, .ref a0_begin, .ref a0_each, .ref a0_root, .ref a0_power, .ref a0_work, .ref a0_w, .ref a0_h, .ref a0_state, .ref a0_sum, .ref a0_pad, .ref a0_text, .int (nI v_a0_texts), .ref a0_info, .int (nI v_a0_infos), .ref a0_made, .ref a0_blockKey, .ref a0_nonce, .ref a0_x, .ref a0_first, .ref a0_block, .ref a0_a, .ref a0_r, .ref a0_product, .ref a0_tag, .ref a0_sealed])), (a0_blockKey, aY C.D 32 t_a0_blockKey), (a0_nonce, aY C.D 12 t_a0_nonce), (a0_x, aM C.D 16 (cc_hs xa i)), (a0_first, aM C.D 16 fb), (a0_block, aY C.D 64 t_a0_block)]
                          refine v_iload_n g dX8_blockOf_146 3 rfl 0 rfl ?_
                          refine v_iconst g dX8_blockOf_147 (v := nI 2) (by decide +kernel) ?_
                          refine v_iremN g dX8_blockOf_148 (by omega) (by omega) (by omega) ?_
                          refine v_istore g [(4, .int (nI (i % 2))), (3, .int (nI i)), (0, .ref a0), (1, .long (xL p1))] dX8_blockOf_149 (by decide) rfl ?_
                          refine v_iconst g dX8_blockOf_151 (v := nI 0) (by decide +kernel) ?_
                          refine v_istore g [(5, .int (nI 0)), (4, .int (nI (i % 2))), (3, .int (nI i)), (0, .ref a0), (1, .long (xL p1))] dX8_blockOf_152 (by decide) rfl ?_
                          have L154_17 : ∀ k : Nat, k ≤ 4 → ∀ (xk : Nat → Wd), (xk = cc_rk (i % 2) (cc_hs xa i) k) → VJ C 0 0 154 [(5, .int (nI k)), (4, .int (nI (i % 2))), (3, .int (nI i)), (0, .ref a0), (1, .long (xL p1))] [] [(a0, .inr (8, [.int (nI v_a0_thrown), .ref a0_tape, .int (nI v_a0_taped), .ref a0_out, .int (nI v_a0_outs), .ref a0_slots, .ref a0_kept, .ref a0_phase, .ref a0_secret, .ref a0_key, .ref a0_hide, .ref a0_iv, .ref a0_begin, .ref a0_each, .ref a0_root, .ref a0_power, .ref a0_work, .ref a0_w, .ref a0_h, .ref a0_state, .ref a0_sum, .ref a0_pad, .ref a0_text, .int (nI v_a0_texts), .ref a0_info, .int (nI v_a0_infos), .ref a0_made, .ref a0_blockKey, .ref a0_nonce, .ref a0_x, .ref a0_first, .ref a0_block, .ref a0_a, .ref a0_r, .ref a0_product, .ref a0_tag, .ref a0_sealed])), (a0_blockKey, aY C.D 32 t_a0_blockKey), (a0_nonce, aY C.D 12 t_a0_nonce), (a0_x, aM C.D 16 xk), (a0_first, aM C.D 16 fb), (a0_block, aY C.D 64 t_a0_block)] := by
                            refine v_for (4) ?_ ?_
                            · skip
                              intro k hik ik xk hw0
                              refine v_iload g dX8_blockOf_154 0 rfl ?_
                              refine v_iconst g dX8_blockOf_156 (v := nI 4) (by decide +kernel) ?_
                              refine v_icmp_geN g 205 dX8_blockOf_157 (by decide) (by omega) (by omega) (fun h18 => ?_) (fun h18 => ?_)
                              · skip
                                exact absurd h18 (by omega)
                              · skip
                                subst hw0
                                show VJ C 0 0 160 [(5, .int (nI k)), (4, .int (nI (i % 2))), (3, .int (nI i)), (0, .ref a0), (1, .long (xL p1))] [] [(a0, .inr (8, [.int (nI v_a0_thrown), .ref a0_tape, .int (nI v_a0_taped), .ref a0_out, .int (nI v_a0_outs), .ref a0_slots, .ref a0_kept, .ref a0_phase, .ref a0_secret, .ref a0_key, .ref a0_hide, .ref a0_iv, .ref a0_begin, .ref a0_each, .ref a0_root, .ref a0_power, .ref a0_work, .ref a0_w, .ref a0_h, .ref a0_state, .ref a0_sum, .ref a0_pad, .ref a0_text, .int (nI v_a0_texts), .ref a0_info, .int (nI v_a0_infos), .ref a0_made, .ref a0_blockKey, .ref a0_nonce, .ref a0_x, .ref a0_first, .ref a0_block, .ref a0_a, .ref a0_r, .ref a0_product, .ref a0_tag, .ref a0_sealed])), (a0_blockKey, aY C.D 32 t_a0_blockKey), (a0_nonce, aY C.D 12 t_a0_nonce), (a0_x, aM C.D 16 (cc_rk (i % 2) (cc_hs xa i) k)), (a0_first, aM C.D 16 fb), (a0_block, aY C.D 64 t_a0_block)]
                                refine v_aload_n g dX8_blockOf_160 0 rfl 3 rfl ?_
                                refine v_iload g dX8_blockOf_161 0 rfl ?_
                                refine v_iconst g dX8_blockOf_163 (v := nI 4) (by decide +kernel) ?_
                                refine v_iload g dX8_blockOf_164 0 rfl ?_
                                refine v_iload g dX8_blockOf_166 1 rfl ?_
                                refine v_iaddN g dX8_blockOf_168 ?_
                                refine v_iconst g dX8_blockOf_169 (v := nI 4) (by decide +kernel) ?_
                                refine v_iremN g dX8_blockOf_170 (by omega) (by omega) (by omega) ?_
                                refine v_iaddN g dX8_blockOf_171 ?_
                                refine v_bipush g dX8_blockOf_172 (v := nI 8) (by decide +kernel) ?_
                                refine v_iload g dX8_blockOf_174 0 rfl ?_
                                refine v_iconst g dX8_blockOf_176 (v := nI 2) (by decide +kernel) ?_
                                refine v_iload g dX8_blockOf_177 1 rfl ?_
                                refine v_imulN g dX8_blockOf_179 ?_
                                refine v_iaddN g dX8_blockOf_180 ?_
                                refine v_iconst g dX8_blockOf_181 (v := nI 4) (by decide +kernel) ?_
                                refine v_iremN g dX8_blockOf_182 (by omega) (by omega) (by omega) ?_
                                refine v_iaddN g dX8_blockOf_183 ?_
                                refine v_bipush g dX8_blockOf_184 (v := nI 12) (by decide +kernel) ?_
                                refine v_iload g dX8_blockOf_186 0 rfl ?_
                                refine v_iconst g dX8_blockOf_188 (v := nI 3) (by decide +kernel) ?_
                                refine v_iload g dX8_blockOf_189 1 rfl ?_
                                refine v_imulN g dX8_blockOf_191 ?_
                                refine v_iaddN g dX8_blockOf_192 ?_
                                refine v_iconst g dX8_blockOf_193 (v := nI 4) (by decide +kernel) ?_
                                refine v_iremN g dX8_blockOf_194 (by omega) (by omega) (by omega) ?_
                                refine v_iaddN g dX8_blockOf_195 ?_
                                refine v_callV (As := [.int (nI k), .int (nI (4 + ((k + (i % 2)) % 4))), .int (nI (8 + ((k + (2 * (i % 2))) % 4))), .int (nI (12 + ((k + (3 * (i % 2))) % 4)))]) (rest := []) (wr := [(a0_blockKey, aY C.D 32 t_a0_blockKey), (a0_nonce, aY C.D 12 t_a0_nonce), (a0_first, aM C.D 16 fb), (a0_block, aY C.D 64 t_a0_block)]) cw_X8_205 (hy_X8_mix) g (c_R_mix C.l C.D a0 k (4 + ((k + (i % 2)) % 4)) (8 + ((k + (2 * (i % 2))) % 4)) (12 + ((k + (3 * (i % 2))) % 4)) v_a0_thrown a0_tape v_a0_taped a0_out v_a0_outs a0_slots a0_kept a0_phase a0_secret a0_key a0_hide a0_iv a0_begin a0_each a0_root a0_power a0_work a0_w a0_h a0_state a0_sum a0_pad a0_text v_a0_texts a0_info v_a0_infos a0_made a0_blockKey a0_nonce a0_x a0_first a0_block a0_a a0_r a0_product a0_tag a0_sealed (cc_rk (i % 2) (cc_hs xa i) k) (by omega) (by omega) (by omega) (by omega)) dX8_blockOf_196 0 rfl rfl rfl (by decide) (by decide) (Nat.le_of_ble_eq_true rfl) [0, 3] [1, 2, 4, 5] rfl rfl (by decide) rfl (by decide) (by decide) _ rfl (fun r wo hp19 => ?_)
                                obtain ⟨rfl, rfl⟩ := hp19
                                refine v_perm [4, 0, 1, 5, 2, 3] [(a0, .inr (8, [.int (nI v_a0_thrown), .ref a0_tape, .int (nI v_a0_taped), .ref a0_out, .int (nI v_a0_outs), .ref a0_slots, .ref a0_kept, .ref a0_phase, .ref a0_secret, .ref a0_key, .ref a0_hide, .ref a0_iv, .ref a0_begin, .ref a0_each, .ref a0_root, .ref a0_power, .ref a0_work, .ref a0_w, .ref a0_h, .ref a0_state, .ref a0_sum, .ref a0_pad, .ref a0_text, .int (nI v_a0_texts), .ref a0_info, .int (nI v_a0_infos), .ref a0_made, .ref a0_blockKey, .ref a0_nonce, .ref a0_x, .ref a0_first, .ref a0_block, .ref a0_a, .ref a0_r, .ref a0_product, .ref a0_tag, .ref a0_sealed])), (a0_blockKey, aY C.D 32 t_a0_blockKey), (a0_nonce, aY C.D 12 t_a0_nonce), (a0_x, aM C.D 16 (cc_qr k (4 + ((k + (i % 2)) % 4)) (8 + ((k + (2 * (i % 2))) % 4)) (12 + ((k + (3 * (i % 2))) % 4)) (cc_rk (i % 2) (cc_hs xa i) k))), (a0_first, aM C.D 16 fb), (a0_block, aY C.D 64 t_a0_block)] (by decide) rfl rfl ?_
                                show VJ C 0 0 199 [(5, .int (nI k)), (4, .int (nI (i % 2))), (3, .int (nI i)), (0, .ref a0), (1, .long (xL p1))] [] [(a0, .inr (8, [.int (nI v_a0_thrown), .ref a0_tape, .int (nI v_a0_taped), .ref a0_out, .int (nI v_a0_outs), .ref a0_slots, .ref a0_kept, .ref a0_phase, .ref a0_secret, .ref a0_key, .ref a0_hide, .ref a0_iv, .ref a0_begin, .ref a0_each, .ref a0_root, .ref a0_power, .ref a0_work, .ref a0_w, .ref a0_h, .ref a0_state, .ref a0_sum, .ref a0_pad, .ref a0_text, .int (nI v_a0_texts), .ref a0_info, .int (nI v_a0_infos), .ref a0_made, .ref a0_blockKey, .ref a0_nonce, .ref a0_x, .ref a0_first, .ref a0_block, .ref a0_a, .ref a0_r, .ref a0_product, .ref a0_tag, .ref a0_sealed])), (a0_blockKey, aY C.D 32 t_a0_blockKey), (a0_nonce, aY C.D 12 t_a0_nonce), (a0_x, aM C.D 16 (cc_qr k (4 + ((k + (i % 2)) % 4)) (8 + ((k + (2 * (i % 2))) % 4)) (12 + ((k + (3 * (i % 2))) % 4)) (cc_rk (i % 2) (cc_hs xa i) k))), (a0_first, aM C.D 16 fb), (a0_block, aY C.D 64 t_a0_block)]
                                refine v_iincN g 1 [(5, .int (nI (k + 1))), (4, .int (nI (i % 2))), (3, .int (nI i)), (0, .ref a0), (1, .long (xL p1))] dX8_blockOf_199 0 rfl (by decide +kernel) (by decide) rfl ?_
                                refine v_goto g 154 dX8_blockOf_202 (by decide) ?_
                                exact ik (cc_qr k (4 + ((k + (i % 2)) % 4)) (8 + ((k + (2 * (i % 2))) % 4)) (12 + ((k + (3 * (i % 2))) % 4)) (cc_rk (i % 2) (cc_hs xa i) k)) rfl
                            · skip
                              intro xk hw0
                              refine v_iload g dX8_blockOf_154 0 rfl ?_
                              refine v_iconst g dX8_blockOf_156 (v := nI 4) (by decide +kernel) ?_
                              refine v_icmp_geN g 205 dX8_blockOf_157 (by decide) (by omega) (by omega) (fun h20 => ?_) (fun h20 => ?_)
                              · skip
                                subst hw0
                                show VJ C 0 0 205 [(5, .int (nI 4)), (4, .int (nI (i % 2))), (3, .int (nI i)), (0, .ref a0), (1, .long (xL p1))] [] [(a0, .inr (8, [.int (nI v_a0_thrown), .ref a0_tape, .int (nI v_a0_taped), .ref a0_out, .int (nI v_a0_outs), .ref a0_slots, .ref a0_kept, .ref a0_phase, .ref a0_secret, .ref a0_key, .ref a0_hide, .ref a0_iv, .ref a0_begin, .ref a0_each, .ref a0_root, .ref a0_power, .ref a0_work, .ref a0_w, .ref a0_h, .ref a0_state, .ref a0_sum, .ref a0_pad, .ref a0_text, .int (nI v_a0_texts), .ref a0_info, .int (nI v_a0_infos), .ref a0_made, .ref a0_blockKey, .ref a0_nonce, .ref a0_x, .ref a0_first, .ref a0_block, .ref a0_a, .ref a0_r, .ref a0_product, .ref a0_tag, .ref a0_sealed])), (a0_blockKey, aY C.D 32 t_a0_blockKey), (a0_nonce, aY C.D 12 t_a0_nonce), (a0_x, aM C.D 16 (cc_rk (i % 2) (cc_hs xa i) 4)), (a0_first, aM C.D 16 fb), (a0_block, aY C.D 64 t_a0_block)]
                                refine v_iincN g 1 [(3, .int (nI (i + 1))), (5, .int (nI 4)), (4, .int (nI (i % 2))), (0, .ref a0), (1, .long (xL p1))] dX8_blockOf_205 2 rfl (by decide +kernel) (by decide) rfl ?_
                                refine v_goto g 140 dX8_blockOf_208 (by decide) ?_
                                refine v_lpick [0, 3, 4] [(3, .int (nI (i + 1))), (0, .ref a0), (1, .long (xL p1))] rfl ?_
                                exact ih (cc_rk (i % 2) (cc_hs xa i) 4) rfl
                              · skip
                                exact absurd h20 (by omega)
                          exact L154_17 0 (by omega) (cc_hs xa i) rfl
                      · skip
                        intro xb hv0
                        refine v_iload_n g dX8_blockOf_140 3 rfl 0 rfl ?_
                        refine v_bipush g dX8_blockOf_141 (v := nI 20) (by decide +kernel) ?_
                        refine v_icmp_geN g 211 dX8_blockOf_143 (by decide) (by omega) (by omega) (fun h21 => ?_) (fun h21 => ?_)
                        · skip
                          have hxb : ∀ j, j < 16 → xb j = cc_it (cc_x0 t_a0_blockKey t_a0_nonce (p1.setWidth 32)) 10 j := fun j hj => by rw [hv0, show (20 : Nat) = 2 * 10 by rfl, cc_hs2]; exact cc_it_congr hxa 10 j hj
                          refine v_iconst g dX8_blockOf_211 (v := nI 0) (by decide +kernel) ?_
                          refine v_istore_n g [(3, .int (nI 0)), (0, .ref a0), (1, .long (xL p1))] dX8_blockOf_212 3 rfl (by decide) rfl ?_
                          have L213_21 : ∀ i : Nat, i ≤ 64 → ∀ (ba : Nat → By), (∀ j, j < i → ba j = ccF t_a0_blockKey t_a0_nonce (p1.setWidth 32) j) → VJ C 0 0 213 [(3, .int (nI i)), (0, .ref a0), (1, .long (xL p1))] [] [(a0, .inr (8, [.int (nI v_a0_thrown), .ref a0_tape, .int (nI v_a0_taped), .ref a0_out, .int (nI v_a0_outs), .ref a0_slots, .ref a0_kept, .ref a0_phase, .ref a0_secret, .ref a0_key, .ref a0_hide, .ref a0_iv, .ref a0_begin, .ref a0_each, .ref a0_root, .ref a0_power, .ref a0_work, .ref a0_w, .ref a0_h, .ref a0_state, .ref a0_sum, .ref a0_pad, .ref a0_text, .int (nI v_a0_texts), .ref a0_info, .int (nI v_a0_infos), .ref a0_made, .ref a0_blockKey, .ref a0_nonce, .ref a0_x, .ref a0_first, .ref a0_block, .ref a0_a, .ref a0_r, .ref a0_product, .ref a0_tag, .ref a0_sealed])), (a0_blockKey, aY C.D 32 t_a0_blockKey), (a0_nonce, aY C.D 12 t_a0_nonce), (a0_x, aM C.D 16 xb), (a0_first, aM C.D 16 fb), (a0_block, aY C.D 64 ba)] := by
                            refine v_for (64) ?_ ?_
                            · skip
                              intro i hii ih ba hv0
                              refine v_iload_n g dX8_blockOf_213 3 rfl 0 rfl ?_
                              refine v_bipush g dX8_blockOf_214 (v := nI 64) (by decide +kernel) ?_
                              refine v_icmp_geN g 264 dX8_blockOf_216 (by decide) (by omega) (by omega) (fun h22 => ?_) (fun h22 => ?_)
                              · skip
                                exact absurd h22 (by omega)
                              · skip
                                refine v_aload_n g dX8_blockOf_219 0 rfl 1 rfl ?_
                                refine gf_X8_89 g dX8_blockOf_220 0 rfl rfl ?_
                                refine v_iload_n g dX8_blockOf_223 3 rfl 0 rfl ?_
                                refine v_aload_n g dX8_blockOf_224 0 rfl 1 rfl ?_
                                refine gf_X8_83 g dX8_blockOf_225 0 rfl rfl ?_
                                refine v_iload_n g dX8_blockOf_228 3 rfl 0 rfl ?_
                                refine v_iconst g dX8_blockOf_229 (v := nI 4) (by decide +kernel) ?_
                                refine v_idivN g dX8_blockOf_230 (by omega) (by omega) (by omega) ?_
                                refine v_laldM g 3 rfl (by omega) (by decide) dX8_blockOf_231 ?_
                                refine v_aload_n g dX8_blockOf_232 0 rfl 1 rfl ?_
                                refine gf_X8_86 g dX8_blockOf_233 0 rfl rfl ?_
                                refine v_iload_n g dX8_blockOf_236 3 rfl 0 rfl ?_
                                refine v_iconst g dX8_blockOf_237 (v := nI 4) (by decide +kernel) ?_
                                refine v_idivN g dX8_blockOf_238 (by omega) (by omega) (by omega) ?_
                                refine v_laldM g 4 rfl (by omega) (by decide) dX8_blockOf_239 ?_
                                refine v_laddN g dX8_blockOf_240 ?_
                                refine v_ldc2 g dX8_blockOf_241 kl_X8_123 ?_
                                refine v_landM g 32 (by decide) dX8_blockOf_244 ?_
                                refine v_tol (lN ((xb (i / 4)) + (fb (i / 4))).toNat) (congrArg lN (sq_add (sq_b (xb (i / 4))) (sq_b (fb (i / 4))))) ?_
                                refine v_bipush g dX8_blockOf_245 (v := nI 8) (by decide +kernel) ?_
                                refine v_iload_n g dX8_blockOf_247 3 rfl 0 rfl ?_
                                refine v_iconst g dX8_blockOf_248 (v := nI 4) (by decide +kernel) ?_
                                refine v_iremN g dX8_blockOf_249 (by omega) (by omega) (by omega) ?_
                                refine v_imulN g dX8_blockOf_250 ?_
                                refine v_lshrQ g (by omega) dX8_blockOf_251 ?_
                                refine v_ldc2 g dX8_blockOf_252 kl_X8_134 ?_
                                refine v_landB g dX8_blockOf_255 ?_
                                refine v_l2iN g dX8_blockOf_256 ?_
                                obtain ⟨t23, ht23⟩ : ∃ z : Nat → By, z = va_up ba i ((((xb (i / 4)) + (fb (i / 4))) >>> (8 * (i % 4))).setWidth 8) := ⟨_, rfl⟩
                                refine v_iastY g (((((xb (i / 4)) + (fb (i / 4))) >>> (8 * (i % 4))).setWidth 8)) rfl t23 ht23 5 [(a0, .inr (8, [.int (nI v_a0_thrown), .ref a0_tape, .int (nI v_a0_taped), .ref a0_out, .int (nI v_a0_outs), .ref a0_slots, .ref a0_kept, .ref a0_phase, .ref a0_secret, .ref a0_key, .ref a0_hide, .ref a0_iv, .ref a0_begin, .ref a0_each, .ref a0_root, .ref a0_power, .ref a0_work, .ref a0_w, .ref a0_h, .ref a0_state, .ref a0_sum, .ref a0_pad, .ref a0_text, .int (nI v_a0_texts), .ref a0_info, .int (nI v_a0_infos), .ref a0_made, .ref a0_blockKey, .ref a0_nonce, .ref a0_x, .ref a0_first, .ref a0_block, .ref a0_a, .ref a0_r, .ref a0_product, .ref a0_tag, .ref a0_sealed])), (a0_blockKey, aY C.D 32 t_a0_blockKey), (a0_nonce, aY C.D 12 t_a0_nonce), (a0_x, aM C.D 16 xb), (a0_first, aM C.D 16 fb), (a0_block, aY C.D 64 t23)] rfl (by omega) (by decide) dX8_blockOf_257 rfl ?_
                                refine v_iincN g 1 [(3, .int (nI (i + 1))), (0, .ref a0), (1, .long (xL p1))] dX8_blockOf_258 0 rfl (by decide +kernel) (by decide) rfl ?_
                                refine v_goto g 213 dX8_blockOf_261 (by decide) ?_
                                exact ih t23 (up_lt (m := i) hv0 (by rw [hxb _ (by omega), hfc _ (by omega)]; rfl) ht23)
                            · skip
                              intro ba hv0
                              refine v_iload_n g dX8_blockOf_213 3 rfl 0 rfl ?_
                              refine v_bipush g dX8_blockOf_214 (v := nI 64) (by decide +kernel) ?_
                              refine v_icmp_geN g 264 dX8_blockOf_216 (by decide) (by omega) (by omega) (fun h24 => ?_) (fun h24 => ?_)
                              · skip
                                exact v_ret g R dX8_blockOf_264 (by decide) (by decide) ⟨_, _, ba, rfl, rfl, hv0⟩
                              · skip
                                exact absurd h24 (by omega)
                          exact L213_21 0 (by omega) t_a0_block (fun j hj => absurd hj (by omega))
                        · skip
                          exact absurd h21 (by omega)
                    exact L140_16 0 (by omega) xa rfl
                  · skip
                    exact absurd h16 (by omega)
              exact L114_13 0 (by omega) t_a0_x (fun j hj => absurd hj (by omega))
            · skip
              exact absurd h13 (by omega)
        exact L82_9 0 (by omega) t9 hfb
      · skip
        exact absurd h8 (by omega)
  exact L38_4 0 (by omega) t4 hf
