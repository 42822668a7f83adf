theorem dX8_shield_0 : decode cX8_shield 0 = .ok (.aload_n 0, 1) := by decide +kernel
theorem dX8_shield_1 : decode cX8_shield 1 = .ok (.iload_n 1, 1) := by decide +kernel
theorem dX8_shield_2 : decode cX8_shield 2 = .ok (.iconst 4, 1) := by decide +kernel
theorem dX8_shield_3 : decode cX8_shield 3 = .ok (.invokestatic 221, 3) := by decide +kernel
theorem dX8_shield_6 : decode cX8_shield 6 = .ok (.ifCond .ne 19, 3) := by decide +kernel
theorem dX8_shield_9 : decode cX8_shield 9 = .ok (.iload_n 2, 1) := by decide +kernel
theorem dX8_shield_10 : decode cX8_shield 10 = .ok (.iconst 1, 1) := by decide +kernel
theorem dX8_shield_11 : decode cX8_shield 11 = .ok (.if_icmp .lt 14, 3) := by decide +kernel
theorem dX8_shield_14 : decode cX8_shield 14 = .ok (.iload_n 2, 1) := by decide +kernel
theorem dX8_shield_15 : decode cX8_shield 15 = .ok (.aload_n 0, 1) := by decide +kernel
theorem dX8_shield_16 : decode cX8_shield 16 = .ok (.getfield 215, 3) := by decide +kernel
theorem dX8_shield_19 : decode cX8_shield 19 = .ok (.bipush 20, 2) := by decide +kernel
theorem dX8_shield_21 : decode cX8_shield 21 = .ok (.isub, 1) := by decide +kernel
theorem dX8_shield_22 : decode cX8_shield 22 = .ok (.if_icmp .le 7, 3) := by decide +kernel
theorem dX8_shield_25 : decode cX8_shield 25 = .ok (.iconst 1, 1) := by decide +kernel
theorem dX8_shield_26 : decode cX8_shield 26 = .ok (.goto 4, 3) := by decide +kernel
theorem dX8_shield_29 : decode cX8_shield 29 = .ok (.iconst 0, 1) := by decide +kernel
theorem dX8_shield_30 : decode cX8_shield 30 = .ok (.iconst 1, 1) := by decide +kernel
theorem dX8_shield_31 : decode cX8_shield 31 = .ok (.invokevirtual 211, 3) := by decide +kernel
theorem dX8_shield_34 : decode cX8_shield 34 = .ok (.ifCond .ne 25, 3) := by decide +kernel
theorem dX8_shield_37 : decode cX8_shield 37 = .ok (.aload_n 0, 1) := by decide +kernel
theorem dX8_shield_38 : decode cX8_shield 38 = .ok (.aload_n 0, 1) := by decide +kernel
theorem dX8_shield_39 : decode cX8_shield 39 = .ok (.getfield 22, 3) := by decide +kernel
theorem dX8_shield_42 : decode cX8_shield 42 = .ok (.iload_n 1, 1) := by decide +kernel
theorem dX8_shield_43 : decode cX8_shield 43 = .ok (.iaload, 1) := by decide +kernel
theorem dX8_shield_44 : decode cX8_shield 44 = .ok (.ifCond .ge 7, 3) := by decide +kernel
theorem dX8_shield_47 : decode cX8_shield 47 = .ok (.iconst 1, 1) := by decide +kernel
theorem dX8_shield_48 : decode cX8_shield 48 = .ok (.goto 4, 3) := by decide +kernel
theorem dX8_shield_51 : decode cX8_shield 51 = .ok (.iconst 0, 1) := by decide +kernel
theorem dX8_shield_52 : decode cX8_shield 52 = .ok (.iconst 2, 1) := by decide +kernel
theorem dX8_shield_53 : decode cX8_shield 53 = .ok (.invokevirtual 211, 3) := by decide +kernel
theorem dX8_shield_56 : decode cX8_shield 56 = .ok (.ifCond .eq 5, 3) := by decide +kernel
theorem dX8_shield_59 : decode cX8_shield 59 = .ok (.iconst 0, 1) := by decide +kernel
theorem dX8_shield_60 : decode cX8_shield 60 = .ok (.ireturn, 1) := by decide +kernel
theorem dX8_shield_61 : decode cX8_shield 61 = .ok (.iconst 0, 1) := by decide +kernel
theorem dX8_shield_62 : decode cX8_shield 62 = .ok (.istore 4, 2) := by decide +kernel
theorem dX8_shield_64 : decode cX8_shield 64 = .ok (.iload 4, 2) := by decide +kernel
theorem dX8_shield_66 : decode cX8_shield 66 = .ok (.bipush 32, 2) := by decide +kernel
theorem dX8_shield_68 : decode cX8_shield 68 = .ok (.if_icmp .ge 28, 3) := by decide +kernel
theorem dX8_shield_71 : decode cX8_shield 71 = .ok (.aload_n 0, 1) := by decide +kernel
theorem dX8_shield_72 : decode cX8_shield 72 = .ok (.getfield 77, 3) := by decide +kernel
theorem dX8_shield_75 : decode cX8_shield 75 = .ok (.iload 4, 2) := by decide +kernel
theorem dX8_shield_77 : decode cX8_shield 77 = .ok (.aload_n 0, 1) := by decide +kernel
theorem dX8_shield_78 : decode cX8_shield 78 = .ok (.getfield 31, 3) := by decide +kernel
theorem dX8_shield_81 : decode cX8_shield 81 = .ok (.bipush 32, 2) := by decide +kernel
theorem dX8_shield_83 : decode cX8_shield 83 = .ok (.iload_n 1, 1) := by decide +kernel
theorem dX8_shield_84 : decode cX8_shield 84 = .ok (.imul, 1) := by decide +kernel
theorem dX8_shield_85 : decode cX8_shield 85 = .ok (.iload 4, 2) := by decide +kernel
theorem dX8_shield_87 : decode cX8_shield 87 = .ok (.iadd, 1) := by decide +kernel
theorem dX8_shield_88 : decode cX8_shield 88 = .ok (.iaload, 1) := by decide +kernel
theorem dX8_shield_89 : decode cX8_shield 89 = .ok (.iastore, 1) := by decide +kernel
theorem dX8_shield_90 : decode cX8_shield 90 = .ok (.iinc 4 1, 3) := by decide +kernel
theorem dX8_shield_93 : decode cX8_shield 93 = .ok (.goto (-29), 3) := by decide +kernel
theorem dX8_shield_96 : decode cX8_shield 96 = .ok (.iconst 0, 1) := by decide +kernel
theorem dX8_shield_97 : decode cX8_shield 97 = .ok (.istore 4, 2) := by decide +kernel
theorem dX8_shield_99 : decode cX8_shield 99 = .ok (.iload 4, 2) := by decide +kernel
theorem dX8_shield_101 : decode cX8_shield 101 = .ok (.bipush 12, 2) := by decide +kernel
theorem dX8_shield_103 : decode cX8_shield 103 = .ok (.if_icmp .ge 28, 3) := by decide +kernel
theorem dX8_shield_106 : decode cX8_shield 106 = .ok (.aload_n 0, 1) := by decide +kernel
theorem dX8_shield_107 : decode cX8_shield 107 = .ok (.getfield 80, 3) := by decide +kernel
theorem dX8_shield_110 : decode cX8_shield 110 = .ok (.iload 4, 2) := by decide +kernel
theorem dX8_shield_112 : decode cX8_shield 112 = .ok (.aload_n 0, 1) := by decide +kernel
theorem dX8_shield_113 : decode cX8_shield 113 = .ok (.getfield 7, 3) := by decide +kernel
theorem dX8_shield_116 : decode cX8_shield 116 = .ok (.iload_n 2, 1) := by decide +kernel
theorem dX8_shield_117 : decode cX8_shield 117 = .ok (.bipush 8, 2) := by decide +kernel
theorem dX8_shield_119 : decode cX8_shield 119 = .ok (.iadd, 1) := by decide +kernel
theorem dX8_shield_120 : decode cX8_shield 120 = .ok (.iload 4, 2) := by decide +kernel
theorem dX8_shield_122 : decode cX8_shield 122 = .ok (.iadd, 1) := by decide +kernel
theorem dX8_shield_123 : decode cX8_shield 123 = .ok (.iaload, 1) := by decide +kernel
theorem dX8_shield_124 : decode cX8_shield 124 = .ok (.iastore, 1) := by decide +kernel
theorem dX8_shield_125 : decode cX8_shield 125 = .ok (.iinc 4 1, 3) := by decide +kernel
theorem dX8_shield_128 : decode cX8_shield 128 = .ok (.goto (-29), 3) := by decide +kernel
theorem dX8_shield_131 : decode cX8_shield 131 = .ok (.aload_n 0, 1) := by decide +kernel
theorem dX8_shield_132 : decode cX8_shield 132 = .ok (.aload_n 0, 1) := by decide +kernel
theorem dX8_shield_133 : decode cX8_shield 133 = .ok (.getfield 7, 3) := by decide +kernel
theorem dX8_shield_136 : decode cX8_shield 136 = .ok (.iload_n 2, 1) := by decide +kernel
theorem dX8_shield_137 : decode cX8_shield 137 = .ok (.iconst 4, 1) := by decide +kernel
theorem dX8_shield_138 : decode cX8_shield 138 = .ok (.iadd, 1) := by decide +kernel
theorem dX8_shield_139 : decode cX8_shield 139 = .ok (.invokestatic 201, 3) := by decide +kernel
theorem dX8_shield_142 : decode cX8_shield 142 = .ok (.invokevirtual 240, 3) := by decide +kernel
theorem dX8_shield_145 : decode cX8_shield 145 = .ok (.aload_n 0, 1) := by decide +kernel
theorem dX8_shield_146 : decode cX8_shield 146 = .ok (.getfield 7, 3) := by decide +kernel
theorem dX8_shield_149 : decode cX8_shield 149 = .ok (.iconst 0, 1) := by decide +kernel
theorem dX8_shield_150 : decode cX8_shield 150 = .ok (.iaload, 1) := by decide +kernel
theorem dX8_shield_151 : decode cX8_shield 151 = .ok (.aload_n 0, 1) := by decide +kernel
theorem dX8_shield_152 : decode cX8_shield 152 = .ok (.getfield 89, 3) := by decide +kernel
theorem dX8_shield_155 : decode cX8_shield 155 = .ok (.iconst 0, 1) := by decide +kernel
theorem dX8_shield_156 : decode cX8_shield 156 = .ok (.iaload, 1) := by decide +kernel
theorem dX8_shield_157 : decode cX8_shield 157 = .ok (.aload_n 0, 1) := by decide +kernel
theorem dX8_shield_158 : decode cX8_shield 158 = .ok (.getfield 7, 3) := by decide +kernel
theorem dX8_shield_161 : decode cX8_shield 161 = .ok (.iconst 0, 1) := by decide +kernel
theorem dX8_shield_162 : decode cX8_shield 162 = .ok (.iaload, 1) := by decide +kernel
theorem dX8_shield_163 : decode cX8_shield 163 = .ok (.bipush 127, 2) := by decide +kernel
theorem dX8_shield_165 : decode cX8_shield 165 = .ok (.if_icmp .le 8, 3) := by decide +kernel
theorem dX8_shield_168 : decode cX8_shield 168 = .ok (.bipush 15, 2) := by decide +kernel
theorem dX8_shield_170 : decode cX8_shield 170 = .ok (.goto 5, 3) := by decide +kernel
theorem dX8_shield_173 : decode cX8_shield 173 = .ok (.bipush 31, 2) := by decide +kernel
theorem dX8_shield_175 : decode cX8_shield 175 = .ok (.iand, 1) := by decide +kernel
theorem dX8_shield_176 : decode cX8_shield 176 = .ok (.ixor, 1) := by decide +kernel
theorem dX8_shield_177 : decode cX8_shield 177 = .ok (.istore 4, 2) := by decide +kernel
theorem dX8_shield_179 : decode cX8_shield 179 = .ok (.iload_n 3, 1) := by decide +kernel
theorem dX8_shield_180 : decode cX8_shield 180 = .ok (.ifCond .eq 12, 3) := by decide +kernel
theorem dX8_shield_183 : decode cX8_shield 183 = .ok (.aload_n 0, 1) := by decide +kernel
theorem dX8_shield_184 : decode cX8_shield 184 = .ok (.getfield 7, 3) := by decide +kernel
theorem dX8_shield_187 : decode cX8_shield 187 = .ok (.iconst 0, 1) := by decide +kernel
theorem dX8_shield_188 : decode cX8_shield 188 = .ok (.iaload, 1) := by decide +kernel
theorem dX8_shield_189 : decode cX8_shield 189 = .ok (.goto 5, 3) := by decide +kernel
theorem dX8_shield_192 : decode cX8_shield 192 = .ok (.iload 4, 2) := by decide +kernel
theorem dX8_shield_194 : decode cX8_shield 194 = .ok (.iconst 3, 1) := by decide +kernel
theorem dX8_shield_195 : decode cX8_shield 195 = .ok (.iand, 1) := by decide +kernel
theorem dX8_shield_196 : decode cX8_shield 196 = .ok (.iconst 1, 1) := by decide +kernel
theorem dX8_shield_197 : decode cX8_shield 197 = .ok (.iadd, 1) := by decide +kernel
theorem dX8_shield_198 : decode cX8_shield 198 = .ok (.istore 5, 2) := by decide +kernel
theorem dX8_shield_200 : decode cX8_shield 200 = .ok (.iconst 0, 1) := by decide +kernel
theorem dX8_shield_201 : decode cX8_shield 201 = .ok (.istore 6, 2) := by decide +kernel
theorem dX8_shield_203 : decode cX8_shield 203 = .ok (.iload 6, 2) := by decide +kernel
theorem dX8_shield_205 : decode cX8_shield 205 = .ok (.iload 5, 2) := by decide +kernel
theorem dX8_shield_207 : decode cX8_shield 207 = .ok (.if_icmp .ge 37, 3) := by decide +kernel
theorem dX8_shield_210 : decode cX8_shield 210 = .ok (.aload_n 0, 1) := by decide +kernel
theorem dX8_shield_211 : decode cX8_shield 211 = .ok (.getfield 7, 3) := by decide +kernel
theorem dX8_shield_214 : decode cX8_shield 214 = .ok (.iload_n 2, 1) := by decide +kernel
theorem dX8_shield_215 : decode cX8_shield 215 = .ok (.iload 6, 2) := by decide +kernel
theorem dX8_shield_217 : decode cX8_shield 217 = .ok (.iadd, 1) := by decide +kernel
theorem dX8_shield_218 : decode cX8_shield 218 = .ok (.aload_n 0, 1) := by decide +kernel
theorem dX8_shield_219 : decode cX8_shield 219 = .ok (.getfield 7, 3) := by decide +kernel
theorem dX8_shield_222 : decode cX8_shield 222 = .ok (.iload_n 2, 1) := by decide +kernel
theorem dX8_shield_223 : decode cX8_shield 223 = .ok (.iload 6, 2) := by decide +kernel
theorem dX8_shield_225 : decode cX8_shield 225 = .ok (.iadd, 1) := by decide +kernel
theorem dX8_shield_226 : decode cX8_shield 226 = .ok (.iaload, 1) := by decide +kernel
theorem dX8_shield_227 : decode cX8_shield 227 = .ok (.aload_n 0, 1) := by decide +kernel
theorem dX8_shield_228 : decode cX8_shield 228 = .ok (.getfield 89, 3) := by decide +kernel
theorem dX8_shield_231 : decode cX8_shield 231 = .ok (.iconst 1, 1) := by decide +kernel
theorem dX8_shield_232 : decode cX8_shield 232 = .ok (.iload 6, 2) := by decide +kernel
theorem dX8_shield_234 : decode cX8_shield 234 = .ok (.iadd, 1) := by decide +kernel
theorem dX8_shield_235 : decode cX8_shield 235 = .ok (.iaload, 1) := by decide +kernel
theorem dX8_shield_236 : decode cX8_shield 236 = .ok (.ixor, 1) := by decide +kernel
theorem dX8_shield_237 : decode cX8_shield 237 = .ok (.iastore, 1) := by decide +kernel
theorem dX8_shield_238 : decode cX8_shield 238 = .ok (.iinc 6 1, 3) := by decide +kernel
theorem dX8_shield_241 : decode cX8_shield 241 = .ok (.goto (-38), 3) := by decide +kernel
theorem dX8_shield_244 : decode cX8_shield 244 = .ok (.aload_n 0, 1) := by decide +kernel
theorem dX8_shield_245 : decode cX8_shield 245 = .ok (.getfield 7, 3) := by decide +kernel
theorem dX8_shield_248 : decode cX8_shield 248 = .ok (.iconst 0, 1) := by decide +kernel
theorem dX8_shield_249 : decode cX8_shield 249 = .ok (.iload 4, 2) := by decide +kernel
theorem dX8_shield_251 : decode cX8_shield 251 = .ok (.iastore, 1) := by decide +kernel
theorem dX8_shield_252 : decode cX8_shield 252 = .ok (.aload_n 0, 1) := by decide +kernel
theorem dX8_shield_253 : decode cX8_shield 253 = .ok (.aload_n 0, 1) := by decide +kernel
theorem dX8_shield_254 : decode cX8_shield 254 = .ok (.getfield 7, 3) := by decide +kernel
theorem dX8_shield_257 : decode cX8_shield 257 = .ok (.aload_n 0, 1) := by decide +kernel
theorem dX8_shield_258 : decode cX8_shield 258 = .ok (.getfield 215, 3) := by decide +kernel
theorem dX8_shield_261 : decode cX8_shield 261 = .ok (.invokevirtual 225, 3) := by decide +kernel
theorem dX8_shield_264 : decode cX8_shield 264 = .ok (.iload 5, 2) := by decide +kernel
theorem dX8_shield_266 : decode cX8_shield 266 = .ok (.ireturn, 1) := by decide +kernel
theorem dX8_out_0 : decode cX8_out 0 = .ok (.aload_n 0, 1) := by decide +kernel
theorem dX8_out_1 : decode cX8_out 1 = .ok (.iload_n 1, 1) := by decide +kernel
theorem dX8_out_2 : decode cX8_out 2 = .ok (.aload_n 0, 1) := by decide +kernel
theorem dX8_out_3 : decode cX8_out 3 = .ok (.getfield 218, 3) := by decide +kernel
theorem dX8_out_6 : decode cX8_out 6 = .ok (.invokestatic 221, 3) := by decide +kernel
theorem dX8_out_9 : decode cX8_out 9 = .ok (.iconst 1, 1) := by decide +kernel
theorem dX8_out_10 : decode cX8_out 10 = .ok (.invokevirtual 211, 3) := by decide +kernel
theorem dX8_out_13 : decode cX8_out 13 = .ok (.ifCond .eq 7, 3) := by decide +kernel
theorem dX8_out_16 : decode cX8_out 16 = .ok (.iconst 0, 1) := by decide +kernel
theorem dX8_out_17 : decode cX8_out 17 = .ok (.goto 9, 3) := by decide +kernel
theorem dX8_out_20 : decode cX8_out 20 = .ok (.aload_n 0, 1) := by decide +kernel
theorem dX8_out_21 : decode cX8_out 21 = .ok (.getfield 13, 3) := by decide +kernel
theorem dX8_out_24 : decode cX8_out 24 = .ok (.iload_n 1, 1) := by decide +kernel
theorem dX8_out_25 : decode cX8_out 25 = .ok (.iaload, 1) := by decide +kernel
theorem dX8_out_26 : decode cX8_out 26 = .ok (.ireturn, 1) := by decide +kernel
theorem dX8_outs_0 : decode cX8_outs 0 = .ok (.aload_n 0, 1) := by decide +kernel
theorem dX8_outs_1 : decode cX8_outs 1 = .ok (.iload_n 1, 1) := by decide +kernel
theorem dX8_outs_2 : decode cX8_outs 2 = .ok (.aload_n 0, 1) := by decide +kernel
theorem dX8_outs_3 : decode cX8_outs 3 = .ok (.getfield 218, 3) := by decide +kernel
theorem dX8_outs_6 : decode cX8_outs 6 = .ok (.invokestatic 221, 3) := by decide +kernel
theorem dX8_outs_9 : decode cX8_outs 9 = .ok (.iconst 1, 1) := by decide +kernel
theorem dX8_outs_10 : decode cX8_outs 10 = .ok (.invokevirtual 211, 3) := by decide +kernel
theorem dX8_outs_13 : decode cX8_outs 13 = .ok (.ifCond .eq 5, 3) := by decide +kernel
theorem dX8_outs_16 : decode cX8_outs 16 = .ok (.lconst 0, 1) := by decide +kernel
theorem dX8_outs_17 : decode cX8_outs 17 = .ok (.lreturn, 1) := by decide +kernel
theorem dX8_outs_18 : decode cX8_outs 18 = .ok (.lconst 0, 1) := by decide +kernel
theorem dX8_outs_19 : decode cX8_outs 19 = .ok (.lstore_n 2, 1) := by decide +kernel
theorem dX8_outs_20 : decode cX8_outs 20 = .ok (.iconst 0, 1) := by decide +kernel
theorem dX8_outs_21 : decode cX8_outs 21 = .ok (.istore 4, 2) := by decide +kernel
theorem dX8_outs_23 : decode cX8_outs 23 = .ok (.iload 4, 2) := by decide +kernel
theorem dX8_outs_25 : decode cX8_outs 25 = .ok (.bipush 8, 2) := by decide +kernel
theorem dX8_outs_27 : decode cX8_outs 27 = .ok (.if_icmp .ge 39, 3) := by decide +kernel
theorem dX8_outs_30 : decode cX8_outs 30 = .ok (.iload_n 1, 1) := by decide +kernel
theorem dX8_outs_31 : decode cX8_outs 31 = .ok (.iload 4, 2) := by decide +kernel
theorem dX8_outs_33 : decode cX8_outs 33 = .ok (.iadd, 1) := by decide +kernel
theorem dX8_outs_34 : decode cX8_outs 34 = .ok (.aload_n 0, 1) := by decide +kernel
theorem dX8_outs_35 : decode cX8_outs 35 = .ok (.getfield 218, 3) := by decide +kernel
theorem dX8_outs_38 : decode cX8_outs 38 = .ok (.if_icmp .ge 28, 3) := by decide +kernel
theorem dX8_outs_41 : decode cX8_outs 41 = .ok (.lload_n 2, 1) := by decide +kernel
theorem dX8_outs_42 : decode cX8_outs 42 = .ok (.aload_n 0, 1) := by decide +kernel
theorem dX8_outs_43 : decode cX8_outs 43 = .ok (.getfield 13, 3) := by decide +kernel
theorem dX8_outs_46 : decode cX8_outs 46 = .ok (.iload_n 1, 1) := by decide +kernel
theorem dX8_outs_47 : decode cX8_outs 47 = .ok (.iload 4, 2) := by decide +kernel
theorem dX8_outs_49 : decode cX8_outs 49 = .ok (.iadd, 1) := by decide +kernel
theorem dX8_outs_50 : decode cX8_outs 50 = .ok (.iaload, 1) := by decide +kernel
theorem dX8_outs_51 : decode cX8_outs 51 = .ok (.i2l, 1) := by decide +kernel
theorem dX8_outs_52 : decode cX8_outs 52 = .ok (.bipush 8, 2) := by decide +kernel
theorem dX8_outs_54 : decode cX8_outs 54 = .ok (.iload 4, 2) := by decide +kernel
theorem dX8_outs_56 : decode cX8_outs 56 = .ok (.imul, 1) := by decide +kernel
theorem dX8_outs_57 : decode cX8_outs 57 = .ok (.lshl, 1) := by decide +kernel
theorem dX8_outs_58 : decode cX8_outs 58 = .ok (.lor, 1) := by decide +kernel
theorem dX8_outs_59 : decode cX8_outs 59 = .ok (.lstore_n 2, 1) := by decide +kernel
theorem dX8_outs_60 : decode cX8_outs 60 = .ok (.iinc 4 1, 3) := by decide +kernel
theorem dX8_outs_63 : decode cX8_outs 63 = .ok (.goto (-40), 3) := by decide +kernel
theorem dX8_outs_66 : decode cX8_outs 66 = .ok (.lload_n 2, 1) := by decide +kernel
theorem dX8_outs_67 : decode cX8_outs 67 = .ok (.lreturn, 1) := by decide +kernel
theorem dX8_look_0 : decode cX8_look 0 = .ok (.aload_n 0, 1) := by decide +kernel
theorem dX8_look_1 : decode cX8_look 1 = .ok (.iload_n 1, 1) := by decide +kernel
theorem dX8_look_2 : decode cX8_look 2 = .ok (.bipush 14, 2) := by decide +kernel
theorem dX8_look_4 : decode cX8_look 4 = .ok (.invokestatic 221, 3) := by decide +kernel
theorem dX8_look_7 : decode cX8_look 7 = .ok (.iconst 1, 1) := by decide +kernel
theorem dX8_look_8 : decode cX8_look 8 = .ok (.invokevirtual 211, 3) := by decide +kernel
theorem dX8_look_11 : decode cX8_look 11 = .ok (.ifCond .eq 5, 3) := by decide +kernel
theorem dX8_look_14 : decode cX8_look 14 = .ok (.iconst 0, 1) := by decide +kernel
theorem dX8_look_15 : decode cX8_look 15 = .ok (.ireturn, 1) := by decide +kernel
theorem dX8_look_16 : decode cX8_look 16 = .ok (.iload_n 1, 1) := by decide +kernel
theorem dX8_look_17 : decode cX8_look 17 = .ok (.ifCond .ne 10, 3) := by decide +kernel
theorem dX8_look_20 : decode cX8_look 20 = .ok (.aload_n 0, 1) := by decide +kernel
theorem dX8_look_21 : decode cX8_look 21 = .ok (.getfield 215, 3) := by decide +kernel
theorem dX8_look_24 : decode cX8_look 24 = .ok (.goto 41, 3) := by decide +kernel
theorem dX8_look_27 : decode cX8_look 27 = .ok (.iload_n 1, 1) := by decide +kernel
theorem dX8_look_28 : decode cX8_look 28 = .ok (.iconst 1, 1) := by decide +kernel
theorem dX8_look_29 : decode cX8_look 29 = .ok (.if_icmp .ne 10, 3) := by decide +kernel
theorem dX8_look_32 : decode cX8_look 32 = .ok (.aload_n 0, 1) := by decide +kernel
theorem dX8_look_33 : decode cX8_look 33 = .ok (.getfield 218, 3) := by decide +kernel
theorem dX8_look_36 : decode cX8_look 36 = .ok (.goto 29, 3) := by decide +kernel
theorem dX8_look_39 : decode cX8_look 39 = .ok (.iload_n 1, 1) := by decide +kernel
theorem dX8_look_40 : decode cX8_look 40 = .ok (.bipush 10, 2) := by decide +kernel
theorem dX8_look_42 : decode cX8_look 42 = .ok (.if_icmp .ge 14, 3) := by decide +kernel
theorem dX8_look_45 : decode cX8_look 45 = .ok (.aload_n 0, 1) := by decide +kernel
theorem dX8_look_46 : decode cX8_look 46 = .ok (.getfield 19, 3) := by decide +kernel
theorem dX8_look_49 : decode cX8_look 49 = .ok (.iload_n 1, 1) := by decide +kernel
theorem dX8_look_50 : decode cX8_look 50 = .ok (.iconst 2, 1) := by decide +kernel
theorem dX8_look_51 : decode cX8_look 51 = .ok (.isub, 1) := by decide +kernel
theorem dX8_look_52 : decode cX8_look 52 = .ok (.iaload, 1) := by decide +kernel
theorem dX8_look_53 : decode cX8_look 53 = .ok (.goto 12, 3) := by decide +kernel
theorem dX8_look_56 : decode cX8_look 56 = .ok (.aload_n 0, 1) := by decide +kernel
theorem dX8_look_57 : decode cX8_look 57 = .ok (.getfield 22, 3) := by decide +kernel
theorem dX8_look_60 : decode cX8_look 60 = .ok (.iload_n 1, 1) := by decide +kernel
theorem dX8_look_61 : decode cX8_look 61 = .ok (.bipush 10, 2) := by decide +kernel
theorem dX8_look_63 : decode cX8_look 63 = .ok (.isub, 1) := by decide +kernel
theorem dX8_look_64 : decode cX8_look 64 = .ok (.iaload, 1) := by decide +kernel
theorem dX8_look_65 : decode cX8_look 65 = .ok (.ireturn, 1) := by decide +kernel
set_option maxHeartbeats 4000000 in
set_option maxRecDepth 100000 in
theorem m_shield (l : Launch) (D : va_G) (a0 : Nat) (p1 : Nat) (p2 : Nat) (p3 : Nat) (v_a0_thrown : Nat) (a0_tape : Nat) (v_a0_taped : Nat) (a0_out : Nat) (v_a0_outs : Nat) (a0_slots : Nat) (a0_kept : Nat) (a0_phase : Nat) (a0_secret : Nat) (a0_key : Nat) (a0_hide : Nat) (a0_iv : Nat) (a0_begin : Nat) (a0_each : Nat) (a0_root : Nat) (a0_power : Nat) (a0_work : Nat) (a0_w : Nat) (a0_h : Nat) (a0_state : Nat) (a0_sum : Nat) (a0_pad : Nat) (a0_text : Nat) (v_a0_texts : Nat) (a0_info : Nat) (v_a0_infos : Nat) (a0_made : Nat) (a0_blockKey : Nat) (a0_nonce : Nat) (a0_x : Nat) (a0_first : Nat) (a0_block : Nat) (a0_a : Nat) (a0_r : Nat) (a0_product : Nat) (a0_tag : Nat) (a0_sealed : Nat) (t_a0_blockKey : Nat → By) (t_a0_nonce : Nat → By) (t_a0_x : Nat → Wd) (t_a0_first : Nat → Wd) (t_a0_block : Nat → By) (t_a0_hide : Nat → By) (t_a0_phase : Nat → Wd) (t_a0_tape : Nat → By) (t_a0_out : Nat → By)  (hg1 : p1 < 4) (hT : v_a0_taped ≤ 2048) (h1 : ¬ wI (t_a0_phase p1) < 0) (h2 : 1 ≤ p2) (h3 : p2 + 20 ≤ v_a0_taped) (hz : p3 < 2 ^ 31) : vM l D yX8_shield cX8_shield 7 (some .int) { frames := 4, cells := 0, slots := 0, locals := 95 } [.ref a0, .int (nI p1), .int (nI p2), .int (nI p3)] [(a0, .inr (8, [.int (nI v_a0_thrown), .ref a0_tape, .int (nI v_a0_taped), .ref a0_out, .int (nI v_a0_outs), .ref a0_slots, .ref a0_kept, .ref a0_phase, .ref a0_secret, .ref a0_key, .ref a0_hide, .ref a0_iv, .ref a0_begin, .ref a0_each, .ref a0_root, .ref a0_power, .ref a0_work, .ref a0_w, .ref a0_h, .ref a0_state, .ref a0_sum, .ref a0_pad, .ref a0_text, .int (nI v_a0_texts), .ref a0_info, .int (nI v_a0_infos), .ref a0_made, .ref a0_blockKey, .ref a0_nonce, .ref a0_x, .ref a0_first, .ref a0_block, .ref a0_a, .ref a0_r, .ref a0_product, .ref a0_tag, .ref a0_sealed])), (a0_blockKey, aY D 32 t_a0_blockKey), (a0_nonce, aY D 12 t_a0_nonce), (a0_x, aM D 16 t_a0_x), (a0_first, aM D 16 t_a0_first), (a0_block, aY D 64 t_a0_block), (a0_hide, aY D 128 t_a0_hide), (a0_phase, aW D 4 t_a0_phase), (a0_tape, aY D 2048 t_a0_tape), (a0_out, aY D 2064 t_a0_out)] (fun r wo => ∃ (bx : Nat → Wd) (bf : Nat → Wd) (bb : Nat → By) (bk : Nat → By) (bn : Nat → By) (tt : Nat → By) (ot : Nat → By), r = some (.int (nI (hdN (fun j => t_a0_hide (32 * p1 + j)) t_a0_tape p2 p3))) ∧ wo = [(a0, .inr (8, [.int (nI 0), .ref a0_tape, .int (nI 0), .ref a0_out, .int (nI v_a0_taped), .ref a0_slots, .ref a0_kept, .ref a0_phase, .ref a0_secret, .ref a0_key, .ref a0_hide, .ref a0_iv, .ref a0_begin, .ref a0_each, .ref a0_root, .ref a0_power, .ref a0_work, .ref a0_w, .ref a0_h, .ref a0_state, .ref a0_sum, .ref a0_pad, .ref a0_text, .int (nI v_a0_texts), .ref a0_info, .int (nI v_a0_infos), .ref a0_made, .ref a0_blockKey, .ref a0_nonce, .ref a0_x, .ref a0_first, .ref a0_block, .ref a0_a, .ref a0_r, .ref a0_product, .ref a0_tag, .ref a0_sealed])), (a0_blockKey, aY D 32 bk), (a0_nonce, aY D 12 bn), (a0_x, aM D 16 bx), (a0_first, aM D 16 bf), (a0_block, aY D 64 bb), (a0_hide, aY D 128 t_a0_hide), (a0_phase, aW D 4 t_a0_phase), (a0_tape, aY D 2048 tt), (a0_out, aY D 2064 ot)] ∧ (∀ j, j < v_a0_taped → ot j = hdF (fun j => t_a0_hide (32 * p1 + j)) t_a0_tape p2 (hdN (fun j => t_a0_hide (32 * p1 + j)) t_a0_tape p2 p3) j)) := by
  refine vM.of (by decide) (Nat.le_of_ble_eq_true rfl) (fun C hCl hCD g R => ?_)
  subst hCl; subst hCD
  show VJ C 0 0 0 [(0, .ref a0), (1, .int (nI p1)), (2, .int (nI p2)), (3, .int (nI p3))] [] [(a0, .inr (8, [.int (nI v_a0_thrown), .ref a0_tape, .int (nI v_a0_taped), .ref a0_out, .int (nI v_a0_outs), .ref a0_slots, .ref a0_kept, .ref a0_phase, .ref a0_secret, .ref a0_key, .ref a0_hide, .ref a0_iv, .ref a0_begin, .ref a0_each, .ref a0_root, .ref a0_power, .ref a0_work, .ref a0_w, .ref a0_h, .ref a0_state, .ref a0_sum, .ref a0_pad, .ref a0_text, .int (nI v_a0_texts), .ref a0_info, .int (nI v_a0_infos), .ref a0_made, .ref a0_blockKey, .ref a0_nonce, .ref a0_x, .ref a0_first, .ref a0_block, .ref a0_a, .ref a0_r, .ref a0_product, .ref a0_tag, .ref a0_sealed])), (a0_blockKey, aY C.D 32 t_a0_blockKey), (a0_nonce, aY C.D 12 t_a0_nonce), (a0_x, aM C.D 16 t_a0_x), (a0_first, aM C.D 16 t_a0_first), (a0_block, aY C.D 64 t_a0_block), (a0_hide, aY C.D 128 t_a0_hide), (a0_phase, aW C.D 4 t_a0_phase), (a0_tape, aY C.D 2048 t_a0_tape), (a0_out, aY C.D 2064 t_a0_out)]
  refine v_aload_n g dX8_shield_0 0 rfl 0 rfl ?_
  refine v_iload_n g dX8_shield_1 1 rfl 1 rfl ?_
  refine v_iconst g dX8_shield_2 (v := nI 4) (by decide +kernel) ?_
  refine v_callS (As := [.int (nI p1), .int (nI 4)]) (rest := [.ref a0]) (wr := [(a0, .inr (8, [.int (nI v_a0_thrown), .ref a0_tape, .int (nI v_a0_taped), .ref a0_out, .int (nI v_a0_outs), .ref a0_slots, .ref a0_kept, .ref a0_phase, .ref a0_secret, .ref a0_key, .ref a0_hide, .ref a0_iv, .ref a0_begin, .ref a0_each, .ref a0_root, .ref a0_power, .ref a0_work, .ref a0_w, .ref a0_h, .ref a0_state, .ref a0_sum, .ref a0_pad, .ref a0_text, .int (nI v_a0_texts), .ref a0_info, .int (nI v_a0_infos), .ref a0_made, .ref a0_blockKey, .ref a0_nonce, .ref a0_x, .ref a0_first, .ref a0_block, .ref a0_a, .ref a0_r, .ref a0_product, .ref a0_tag, .ref a0_sealed])), (a0_blockKey, aY C.D 32 t_a0_blockKey), (a0_nonce, aY C.D 12 t_a0_nonce), (a0_x, aM C.D 16 t_a0_x), (a0_first, aM C.D 16 t_a0_first), (a0_block, aY C.D 64 t_a0_block), (a0_hide, aY C.D 128 t_a0_hide), (a0_phase, aW C.D 4 t_a0_phase), (a0_tape, aY C.D 2048 t_a0_tape), (a0_out, aY C.D 2064 t_a0_out)]) cw_X8_221 (hy_X8_beyond) g (c_R_bey0 C.l C.D p1 4 (by omega) (by omega)) dX8_shield_3 rfl (by decide) (by decide) (Nat.le_of_ble_eq_true rfl) [] [0, 1, 2, 3, 4, 5, 6, 7, 8, 9] rfl rfl (by decide) rfl (by decide) (by decide) _ rfl (fun r wo hp1 => ?_)
  obtain ⟨rfl, rfl⟩ := hp1
  show VJ C 0 0 6 [(0, .ref a0), (1, .int (nI p1)), (2, .int (nI p2)), (3, .int (nI p3))] [.int (nI 0), .ref a0] [(a0, .inr (8, [.int (nI v_a0_thrown), .ref a0_tape, .int (nI v_a0_taped), .ref a0_out, .int (nI v_a0_outs), .ref a0_slots, .ref a0_kept, .ref a0_phase, .ref a0_secret, .ref a0_key, .ref a0_hide, .ref a0_iv, .ref a0_begin, .ref a0_each, .ref a0_root, .ref a0_power, .ref a0_work, .ref a0_w, .ref a0_h, .ref a0_state, .ref a0_sum, .ref a0_pad, .ref a0_text, .int (nI v_a0_texts), .ref a0_info, .int (nI v_a0_infos), .ref a0_made, .ref a0_blockKey, .ref a0_nonce, .ref a0_x, .ref a0_first, .ref a0_block, .ref a0_a, .ref a0_r, .ref a0_product, .ref a0_tag, .ref a0_sealed])), (a0_blockKey, aY C.D 32 t_a0_blockKey), (a0_nonce, aY C.D 12 t_a0_nonce), (a0_x, aM C.D 16 t_a0_x), (a0_first, aM C.D 16 t_a0_first), (a0_block, aY C.D 64 t_a0_block), (a0_hide, aY C.D 128 t_a0_hide), (a0_phase, aW C.D 4 t_a0_phase), (a0_tape, aY C.D 2048 t_a0_tape), (a0_out, aY C.D 2064 t_a0_out)]
  refine v_if_neN g 25 dX8_shield_6 (by decide) (by decide) (fun h => absurd h (by decide)) (fun _ => ?_)
  refine v_iload_n g dX8_shield_9 2 rfl 2 rfl ?_
  refine v_iconst g dX8_shield_10 (v := nI 1) (by decide +kernel) ?_
  refine v_icmp_ltN g 25 dX8_shield_11 (by decide) (by omega) (by omega) (fun h => absurd h (by omega)) (fun _ => ?_)
  refine v_iload_n g dX8_shield_14 2 rfl 2 rfl ?_
  refine v_aload_n g dX8_shield_15 0 rfl 0 rfl ?_
  refine gf_X8_215 g dX8_shield_16 0 rfl rfl ?_
  refine v_bipush g dX8_shield_19 (v := nI 20) (by decide +kernel) ?_
  refine v_isubN g dX8_shield_21 (by omega) ?_
  refine v_icmp_leN g 29 dX8_shield_22 (by decide) (by omega) (by omega) (fun _ => ?_) (fun h => absurd h (by omega))
  refine v_iconst g dX8_shield_29 (v := nI 0) (by decide +kernel) ?_
  refine v_iconst g dX8_shield_30 (v := nI 1) (by decide +kernel) ?_
  refine v_callV (As := [.int (nI 0), .int (nI 1)]) (rest := []) (wr := [(a0_blockKey, aY C.D 32 t_a0_blockKey), (a0_nonce, aY C.D 12 t_a0_nonce), (a0_x, aM C.D 16 t_a0_x), (a0_first, aM C.D 16 t_a0_first), (a0_block, aY C.D 64 t_a0_block), (a0_hide, aY C.D 128 t_a0_hide), (a0_phase, aW C.D 4 t_a0_phase), (a0_tape, aY C.D 2048 t_a0_tape), (a0_out, aY C.D 2064 t_a0_out)]) cw_X8_211 (hy_X8_fails) g (c_R_fail0 C.l C.D a0 1 v_a0_thrown a0_tape v_a0_taped a0_out v_a0_outs a0_slots a0_kept a0_phase a0_secret a0_key a0_hide a0_iv a0_begin a0_each a0_root a0_power a0_work a0_w a0_h a0_state a0_sum a0_pad a0_text v_a0_texts a0_info v_a0_infos a0_made a0_blockKey a0_nonce a0_x a0_first a0_block a0_a a0_r a0_product a0_tag a0_sealed ) dX8_shield_31 0 rfl rfl rfl (by decide) (by decide) (Nat.le_of_ble_eq_true rfl) [0] [1, 2, 3, 4, 5, 6, 7, 8, 9] rfl rfl (by decide) rfl (by decide) (by decide) _ rfl (fun r wo hp2 => ?_)
  obtain ⟨rfl, rfl⟩ := hp2
  refine v_perm [9, 0, 1, 2, 3, 4, 5, 6, 7, 8] [(a0, .inr (8, [.int (nI 0), .ref a0_tape, .int (nI v_a0_taped), .ref a0_out, .int (nI v_a0_outs), .ref a0_slots, .ref a0_kept, .ref a0_phase, .ref a0_secret, .ref a0_key, .ref a0_hide, .ref a0_iv, .ref a0_begin, .ref a0_each, .ref a0_root, .ref a0_power, .ref a0_work, .ref a0_w, .ref a0_h, .ref a0_state, .ref a0_sum, .ref a0_pad, .ref a0_text, .int (nI v_a0_texts), .ref a0_info, .int (nI v_a0_infos), .ref a0_made, .ref a0_blockKey, .ref a0_nonce, .ref a0_x, .ref a0_first, .ref a0_block, .ref a0_a, .ref a0_r, .ref a0_product, .ref a0_tag, .ref a0_sealed])), (a0_blockKey, aY C.D 32 t_a0_blockKey), (a0_nonce, aY C.D 12 t_a0_nonce), (a0_x, aM C.D 16 t_a0_x), (a0_first, aM C.D 16 t_a0_first), (a0_block, aY C.D 64 t_a0_block), (a0_hide, aY C.D 128 t_a0_hide), (a0_phase, aW C.D 4 t_a0_phase), (a0_tape, aY C.D 2048 t_a0_tape), (a0_out, aY C.D 2064 t_a0_out)] (by decide) rfl rfl ?_
  show VJ C 0 0 34 [(0, .ref a0), (1, .int (nI p1)), (2, .int (nI p2)), (3, .int (nI p3))] [.int (nI 0)] [(a0, .inr (8, [.int (nI 0), .ref a0_tape, .int (nI v_a0_taped), .ref a0_out, .int (nI v_a0_outs), .ref a0_slots, .ref a0_kept, .ref a0_phase, .ref a0_secret, .ref a0_key, .ref a0_hide, .ref a0_iv, .ref a0_begin, .ref a0_each, .ref a0_root, .ref a0_power, .ref a0_work, .ref a0_w, .ref a0_h, .ref a0_state, .ref a0_sum, .ref a0_pad, .ref a0_text, .int (nI v_a0_texts), .ref a0_info, .int (nI v_a0_infos), .ref a0_made, .ref a0_blockKey, .ref a0_nonce, .ref a0_x, .ref a0_first, .ref a0_block, .ref a0_a, .ref a0_r, .ref a0_product, .ref a0_tag, .ref a0_sealed])), (a0_blockKey, aY C.D 32 t_a0_blockKey), (a0_nonce, aY C.D 12 t_a0_nonce), (a0_x, aM C.D 16 t_a0_x), (a0_first, aM C.D 16 t_a0_first), (a0_block, aY C.D 64 t_a0_block), (a0_hide, aY C.D 128 t_a0_hide), (a0_phase, aW C.D 4 t_a0_phase), (a0_tape, aY C.D 2048 t_a0_tape), (a0_out, aY C.D 2064 t_a0_out)]
  refine v_if_neN g 59 dX8_shield_34 (by decide) (by decide) (fun h => absurd h (by decide)) (fun _ => ?_)
  refine v_aload_n g dX8_shield_37 0 rfl 0 rfl ?_
  refine v_aload_n g dX8_shield_38 0 rfl 0 rfl ?_
  refine gf_X8_22 g dX8_shield_39 0 rfl rfl ?_
  refine v_iload_n g dX8_shield_42 1 rfl 1 rfl ?_
  refine v_ialdW g 7 rfl (by omega) (by decide) dX8_shield_43 ?_
  refine v_if_ge g 51 dX8_shield_44 (by decide) (fun _ => ?_) (fun h => absurd (Int32.not_lt.mp h1) h)
  refine v_iconst g dX8_shield_51 (v := nI 0) (by decide +kernel) ?_
  refine v_iconst g dX8_shield_52 (v := nI 2) (by decide +kernel) ?_
  refine v_callV (As := [.int (nI 0), .int (nI 2)]) (rest := []) (wr := [(a0_blockKey, aY C.D 32 t_a0_blockKey), (a0_nonce, aY C.D 12 t_a0_nonce), (a0_x, aM C.D 16 t_a0_x), (a0_first, aM C.D 16 t_a0_first), (a0_block, aY C.D 64 t_a0_block), (a0_hide, aY C.D 128 t_a0_hide), (a0_phase, aW C.D 4 t_a0_phase), (a0_tape, aY C.D 2048 t_a0_tape), (a0_out, aY C.D 2064 t_a0_out)]) cw_X8_211 (hy_X8_fails) g (c_R_fail0 C.l C.D a0 2 0 a0_tape v_a0_taped a0_out v_a0_outs a0_slots a0_kept a0_phase a0_secret a0_key a0_hide a0_iv a0_begin a0_each a0_root a0_power a0_work a0_w a0_h a0_state a0_sum a0_pad a0_text v_a0_texts a0_info v_a0_infos a0_made a0_blockKey a0_nonce a0_x a0_first a0_block a0_a a0_r a0_product a0_tag a0_sealed ) dX8_shield_53 0 rfl rfl rfl (by decide) (by decide) (Nat.le_of_ble_eq_true rfl) [0] [1, 2, 3, 4, 5, 6, 7, 8, 9] rfl rfl (by decide) rfl (by decide) (by decide) _ rfl (fun r wo hp3 => ?_)
  obtain ⟨rfl, rfl⟩ := hp3
  refine v_perm [9, 0, 1, 2, 3, 4, 5, 6, 7, 8] [(a0, .inr (8, [.int (nI 0), .ref a0_tape, .int (nI v_a0_taped), .ref a0_out, .int (nI v_a0_outs), .ref a0_slots, .ref a0_kept, .ref a0_phase, .ref a0_secret, .ref a0_key, .ref a0_hide, .ref a0_iv, .ref a0_begin, .ref a0_each, .ref a0_root, .ref a0_power, .ref a0_work, .ref a0_w, .ref a0_h, .ref a0_state, .ref a0_sum, .ref a0_pad, .ref a0_text, .int (nI v_a0_texts), .ref a0_info, .int (nI v_a0_infos), .ref a0_made, .ref a0_blockKey, .ref a0_nonce, .ref a0_x, .ref a0_first, .ref a0_block, .ref a0_a, .ref a0_r, .ref a0_product, .ref a0_tag, .ref a0_sealed])), (a0_blockKey, aY C.D 32 t_a0_blockKey), (a0_nonce, aY C.D 12 t_a0_nonce), (a0_x, aM C.D 16 t_a0_x), (a0_first, aM C.D 16 t_a0_first), (a0_block, aY C.D 64 t_a0_block), (a0_hide, aY C.D 128 t_a0_hide), (a0_phase, aW C.D 4 t_a0_phase), (a0_tape, aY C.D 2048 t_a0_tape), (a0_out, aY C.D 2064 t_a0_out)] (by decide) rfl rfl ?_
  show VJ C 0 0 56 [(0, .ref a0), (1, .int (nI p1)), (2, .int (nI p2)), (3, .int (nI p3))] [.int (nI 0)] [(a0, .inr (8, [.int (nI 0), .ref a0_tape, .int (nI v_a0_taped), .ref a0_out, .int (nI v_a0_outs), .ref a0_slots, .ref a0_kept, .ref a0_phase, .ref a0_secret, .ref a0_key, .ref a0_hide, .ref a0_iv, .ref a0_begin, .ref a0_each, .ref a0_root, .ref a0_power, .ref a0_work, .ref a0_w, .ref a0_h, .ref a0_state, .ref a0_sum, .ref a0_pad, .ref a0_text, .int (nI v_a0_texts), .ref a0_info, .int (nI v_a0_infos), .ref a0_made, .ref a0_blockKey, .ref a0_nonce, .ref a0_x, .ref a0_first, .ref a0_block, .ref a0_a, .ref a0_r, .ref a0_product, .ref a0_tag, .ref a0_sealed])), (a0_blockKey, aY C.D 32 t_a0_blockKey), (a0_nonce, aY C.D 12 t_a0_nonce), (a0_x, aM C.D 16 t_a0_x), (a0_first, aM C.D 16 t_a0_first), (a0_block, aY C.D 64 t_a0_block), (a0_hide, aY C.D 128 t_a0_hide), (a0_phase, aW C.D 4 t_a0_phase), (a0_tape, aY C.D 2048 t_a0_tape), (a0_out, aY C.D 2064 t_a0_out)]
  refine v_if_eqN g 61 dX8_shield_56 (by decide) (by decide) (fun _ => ?_) (fun h => absurd h (by decide))
  refine v_iconst g dX8_shield_61 (v := nI 0) (by decide +kernel) ?_
  refine v_istore g [(4, .int (nI 0)), (0, .ref a0), (1, .int (nI p1)), (2, .int (nI p2)), (3, .int (nI p3))] dX8_shield_62 (by decide) rfl ?_
  have L64_3 : ∀ i : Nat, i ≤ 32 → ∀ (bk0 : Nat → By), (bk0 = cpo t_a0_blockKey 0 i (fun j => t_a0_hide (32 * p1 + j))) → VJ C 0 0 64 [(4, .int (nI i)), (0, .ref a0), (1, .int (nI p1)), (2, .int (nI p2)), (3, .int (nI p3))] [] [(a0, .inr (8, [.int (nI 0), .ref a0_tape, .int (nI v_a0_taped), .ref a0_out, .int (nI v_a0_outs), .ref a0_slots, .ref a0_kept, .ref a0_phase, .ref a0_secret, .ref a0_key, .ref a0_hide, .ref a0_iv, .ref a0_begin, .ref a0_each, .ref a0_root, .ref a0_power, .ref a0_work, .ref a0_w, .ref a0_h, .ref a0_state, .ref a0_sum, .ref a0_pad, .ref a0_text, .int (nI v_a0_texts), .ref a0_info, .int (nI v_a0_infos), .ref a0_made, .ref a0_blockKey, .ref a0_nonce, .ref a0_x, .ref a0_first, .ref a0_block, .ref a0_a, .ref a0_r, .ref a0_product, .ref a0_tag, .ref a0_sealed])), (a0_blockKey, aY C.D 32 bk0), (a0_nonce, aY C.D 12 t_a0_nonce), (a0_x, aM C.D 16 t_a0_x), (a0_first, aM C.D 16 t_a0_first), (a0_block, aY C.D 64 t_a0_block), (a0_hide, aY C.D 128 t_a0_hide), (a0_phase, aW C.D 4 t_a0_phase), (a0_tape, aY C.D 2048 t_a0_tape), (a0_out, aY C.D 2064 t_a0_out)] := by
    refine v_for (32) ?_ ?_
    · skip
      intro i hii ih bk0 hv0
      refine v_iload g dX8_shield_64 0 rfl ?_
      refine v_bipush g dX8_shield_66 (v := nI 32) (by decide +kernel) ?_
      refine v_icmp_geN g 96 dX8_shield_68 (by decide) (by omega) (by omega) (fun h4 => ?_) (fun h4 => ?_)
      · skip
        exact absurd h4 (by omega)
      · skip
        refine v_aload_n g dX8_shield_71 0 rfl 1 rfl ?_
        refine gf_X8_77 g dX8_shield_72 0 rfl rfl ?_
        refine v_iload g dX8_shield_75 0 rfl ?_
        refine v_aload_n g dX8_shield_77 0 rfl 1 rfl ?_
        refine gf_X8_31 g dX8_shield_78 0 rfl rfl ?_
        refine v_bipush g dX8_shield_81 (v := nI 32) (by decide +kernel) ?_
        refine v_iload_n g dX8_shield_83 1 rfl 2 rfl ?_
        refine v_imulN g dX8_shield_84 ?_
        refine v_iload g dX8_shield_85 0 rfl ?_
        refine v_iaddN g dX8_shield_87 ?_
        refine v_ialdY g 6 rfl (by omega) (by decide) dX8_shield_88 ?_
        obtain ⟨t5, ht5⟩ : ∃ z : Nat → By, z = va_up bk0 i (t_a0_hide ((32 * p1) + i)) := ⟨_, rfl⟩
        refine v_iastY g ((t_a0_hide ((32 * p1) + i))) rfl t5 ht5 1 [(a0, .inr (8, [.int (nI 0), .ref a0_tape, .int (nI v_a0_taped), .ref a0_out, .int (nI v_a0_outs), .ref a0_slots, .ref a0_kept, .ref a0_phase, .ref a0_secret, .ref a0_key, .ref a0_hide, .ref a0_iv, .ref a0_begin, .ref a0_each, .ref a0_root, .ref a0_power, .ref a0_work, .ref a0_w, .ref a0_h, .ref a0_state, .ref a0_sum, .ref a0_pad, .ref a0_text, .int (nI v_a0_texts), .ref a0_info, .int (nI v_a0_infos), .ref a0_made, .ref a0_blockKey, .ref a0_nonce, .ref a0_x, .ref a0_first, .ref a0_block, .ref a0_a, .ref a0_r, .ref a0_product, .ref a0_tag, .ref a0_sealed])), (a0_blockKey, aY C.D 32 t5), (a0_nonce, aY C.D 12 t_a0_nonce), (a0_x, aM C.D 16 t_a0_x), (a0_first, aM C.D 16 t_a0_first), (a0_block, aY C.D 64 t_a0_block), (a0_hide, aY C.D 128 t_a0_hide), (a0_phase, aW C.D 4 t_a0_phase), (a0_tape, aY C.D 2048 t_a0_tape), (a0_out, aY C.D 2064 t_a0_out)] rfl (by omega) (by decide) dX8_shield_89 rfl ?_
        refine v_iincN g 1 [(4, .int (nI (i + 1))), (0, .ref a0), (1, .int (nI p1)), (2, .int (nI p2)), (3, .int (nI p3))] dX8_shield_90 0 rfl (by decide +kernel) (by decide) rfl ?_
        refine v_goto g 64 dX8_shield_93 (by decide) ?_
        exact ih t5 (by show _ = cpo t_a0_blockKey 0 (i + 1) (fun j => t_a0_hide (32 * p1 + j)); rw [ht5, hv0, ← cpo_s t_a0_blockKey 0 i (fun j => t_a0_hide (32 * p1 + j)), Nat.zero_add])
    · skip
      intro bk0 hv0
      refine v_iload g dX8_shield_64 0 rfl ?_
      refine v_bipush g dX8_shield_66 (v := nI 32) (by decide +kernel) ?_
      refine v_icmp_geN g 96 dX8_shield_68 (by decide) (by omega) (by omega) (fun h6 => ?_) (fun h6 => ?_)
      · skip
        subst hv0
        show VJ C 0 0 96 [(4, .int (nI 32)), (0, .ref a0), (1, .int (nI p1)), (2, .int (nI p2)), (3, .int (nI p3))] [] [(a0, .inr (8, [.int (nI 0), .ref a0_tape, .int (nI v_a0_taped), .ref a0_out, .int (nI v_a0_outs), .ref a0_slots, .ref a0_kept, .ref a0_phase, .ref a0_secret, .ref a0_key, .ref a0_hide, .ref a0_iv, .ref a0_begin, .ref a0_each, .ref a0_root, .ref a0_power, .ref a0_work, .ref a0_w, .ref a0_h, .ref a0_state, .ref a0_sum, .ref a0_pad, .ref a0_text, .int (nI v_a0_texts), .ref a0_info, .int (nI v_a0_infos), .ref a0_made, .ref a0_blockKey, .ref a0_nonce, .ref a0_x, .ref a0_first, .ref a0_block, .ref a0_a, .ref a0_r, .ref a0_product, .ref a0_tag, .ref a0_sealed])), (a0_blockKey, aY C.D 32 (cpo t_a0_blockKey 0 32 (fun j => t_a0_hide (32 * p1 + j)))), (a0_nonce, aY C.D 12 t_a0_nonce), (a0_x, aM C.D 16 t_a0_x), (a0_first, aM C.D 16 t_a0_first), (a0_block, aY C.D 64 t_a0_block), (a0_hide, aY C.D 128 t_a0_hide), (a0_phase, aW C.D 4 t_a0_phase), (a0_tape, aY C.D 2048 t_a0_tape), (a0_out, aY C.D 2064 t_a0_out)]
        refine v_iconst g dX8_shield_96 (v := nI 0) (by decide +kernel) ?_
        refine v_istore g [(4, .int (nI 0)), (0, .ref a0), (1, .int (nI p1)), (2, .int (nI p2)), (3, .int (nI p3))] dX8_shield_97 (by decide) rfl ?_
        have L99_6 : ∀ i : Nat, i ≤ 12 → ∀ (bn0 : Nat → By), (bn0 = cpo t_a0_nonce 0 i (fun j => t_a0_tape (p2 + 8 + j))) → VJ C 0 0 99 [(4, .int (nI i)), (0, .ref a0), (1, .int (nI p1)), (2, .int (nI p2)), (3, .int (nI p3))] [] [(a0, .inr (8, [.int (nI 0), .ref a0_tape, .int (nI v_a0_taped), .ref a0_out, .int (nI v_a0_outs), .ref a0_slots, .ref a0_kept, .ref a0_phase, .ref a0_secret, .ref a0_key, .ref a0_hide, .ref a0_iv, .ref a0_begin, .ref a0_each, .ref a0_root, .ref a0_power, .ref a0_work, .ref a0_w, .ref a0_h, .ref a0_state, .ref a0_sum, .ref a0_pad, .ref a0_text, .int (nI v_a0_texts), .ref a0_info, .int (nI v_a0_infos), .ref a0_made, .ref a0_blockKey, .ref a0_nonce, .ref a0_x, .ref a0_first, .ref a0_block, .ref a0_a, .ref a0_r, .ref a0_product, .ref a0_tag, .ref a0_sealed])), (a0_blockKey, aY C.D 32 (cpo t_a0_blockKey 0 32 (fun j => t_a0_hide (32 * p1 + j)))), (a0_nonce, aY C.D 12 bn0), (a0_x, aM C.D 16 t_a0_x), (a0_first, aM C.D 16 t_a0_first), (a0_block, aY C.D 64 t_a0_block), (a0_hide, aY C.D 128 t_a0_hide), (a0_phase, aW C.D 4 t_a0_phase), (a0_tape, aY C.D 2048 t_a0_tape), (a0_out, aY C.D 2064 t_a0_out)] := by
          refine v_for (12) ?_ ?_
          · skip
            intro i hii ih bn0 hv0
            refine v_iload g dX8_shield_99 0 rfl ?_
            refine v_bipush g dX8_shield_101 (v := nI 12) (by decide +kernel) ?_
            refine v_icmp_geN g 131 dX8_shield_103 (by decide) (by omega) (by omega) (fun h7 => ?_) (fun h7 => ?_)
            · skip
              exact absurd h7 (by omega)
            · skip
              refine v_aload_n g dX8_shield_106 0 rfl 1 rfl ?_
              refine gf_X8_80 g dX8_shield_107 0 rfl rfl ?_
              refine v_iload g dX8_shield_110 0 rfl ?_
              refine v_aload_n g dX8_shield_112 0 rfl 1 rfl ?_
              refine gf_X8_7 g dX8_shield_113 0 rfl rfl ?_
              refine v_iload_n g dX8_shield_116 2 rfl 3 rfl ?_
              refine v_bipush g dX8_shield_117 (v := nI 8) (by decide +kernel) ?_
              refine v_iaddN g dX8_shield_119 ?_
              refine v_iload g dX8_shield_120 0 rfl ?_
              refine v_iaddN g dX8_shield_122 ?_
              refine v_ialdY g 8 rfl (by omega) (by decide) dX8_shield_123 ?_
              obtain ⟨t8, ht8⟩ : ∃ z : Nat → By, z = va_up bn0 i (t_a0_tape ((p2 + 8) + i)) := ⟨_, rfl⟩
              refine v_iastY g ((t_a0_tape ((p2 + 8) + i))) rfl t8 ht8 2 [(a0, .inr (8, [.int (nI 0), .ref a0_tape, .int (nI v_a0_taped), .ref a0_out, .int (nI v_a0_outs), .ref a0_slots, .ref a0_kept, .ref a0_phase, .ref a0_secret, .ref a0_key, .ref a0_hide, .ref a0_iv, .ref a0_begin, .ref a0_each, .ref a0_root, .ref a0_power, .ref a0_work, .ref a0_w, .ref a0_h, .ref a0_state, .ref a0_sum, .ref a0_pad, .ref a0_text, .int (nI v_a0_texts), .ref a0_info, .int (nI v_a0_infos), .ref a0_made, .ref a0_blockKey, .ref a0_nonce, .ref a0_x, .ref a0_first, .ref a0_block, .ref a0_a, .ref a0_r, .ref a0_product, .ref a0_tag, .ref a0_sealed])), (a0_blockKey, aY C.D 32 (cpo t_a0_blockKey 0 32 (fun j => t_a0_hide (32 * p1 + j)))), (a0_nonce, aY C.D 12 t8), (a0_x, aM C.D 16 t_a0_x), (a0_first, aM C.D 16 t_a0_first), (a0_block, aY C.D 64 t_a0_block), (a0_hide, aY C.D 128 t_a0_hide), (a0_phase, aW C.D 4 t_a0_phase), (a0_tape, aY C.D 2048 t_a0_tape), (a0_out, aY C.D 2064 t_a0_out)] rfl (by omega) (by decide) dX8_shield_124 rfl ?_
              refine v_iincN g 1 [(4, .int (nI (i + 1))), (0, .ref a0), (1, .int (nI p1)), (2, .int (nI p2)), (3, .int (nI p3))] dX8_shield_125 0 rfl (by decide +kernel) (by decide) rfl ?_
              refine v_goto g 99 dX8_shield_128 (by decide) ?_
              exact ih t8 (by show _ = cpo t_a0_nonce 0 (i + 1) (fun j => t_a0_tape (p2 + 8 + j)); rw [ht8, hv0, ← cpo_s t_a0_nonce 0 i (fun j => t_a0_tape (p2 + 8 + j)), Nat.zero_add])
          · skip
            intro bn0 hv0
            refine v_iload g dX8_shield_99 0 rfl ?_
            refine v_bipush g dX8_shield_101 (v := nI 12) (by decide +kernel) ?_
            refine v_icmp_geN g 131 dX8_shield_103 (by decide) (by omega) (by omega) (fun h9 => ?_) (fun h9 => ?_)
            · skip
              subst hv0
              show VJ C 0 0 131 [(4, .int (nI 12)), (0, .ref a0), (1, .int (nI p1)), (2, .int (nI p2)), (3, .int (nI p3))] [] [(a0, .inr (8, [.int (nI 0), .ref a0_tape, .int (nI v_a0_taped), .ref a0_out, .int (nI v_a0_outs), .ref a0_slots, .ref a0_kept, .ref a0_phase, .ref a0_secret, .ref a0_key, .ref a0_hide, .ref a0_iv, .ref a0_begin, .ref a0_each, .ref a0_root, .ref a0_power, .ref a0_work, .ref a0_w, .ref a0_h, .ref a0_state, .ref a0_sum, .ref a0_pad, .ref a0_text, .int (nI v_a0_texts), .ref a0_info, .int (nI v_a0_infos), .ref a0_made, .ref a0_blockKey, .ref a0_nonce, .ref a0_x, .ref a0_first, .ref a0_block, .ref a0_a, .ref a0_r, .ref a0_product, .ref a0_tag, .ref a0_sealed])), (a0_blockKey, aY C.D 32 (cpo t_a0_blockKey 0 32 (fun j => t_a0_hide (32 * p1 + j)))), (a0_nonce, aY C.D 12 (cpo t_a0_nonce 0 12 (fun j => t_a0_tape (p2 + 8 + j)))), (a0_x, aM C.D 16 t_a0_x), (a0_first, aM C.D 16 t_a0_first), (a0_block, aY C.D 64 t_a0_block), (a0_hide, aY C.D 128 t_a0_hide), (a0_phase, aW C.D 4 t_a0_phase), (a0_tape, aY C.D 2048 t_a0_tape), (a0_out, aY C.D 2064 t_a0_out)]
              refine v_aload_n g dX8_shield_131 0 rfl 1 rfl ?_
              refine v_aload_n g dX8_shield_132 0 rfl 1 rfl ?_
              refine gf_X8_7 g dX8_shield_133 0 rfl rfl ?_
              refine v_iload_n g dX8_shield_136 2 rfl 3 rfl ?_
              refine v_iconst g dX8_shield_137 (v := nI 4) (by decide +kernel) ?_
              refine v_iaddN g dX8_shield_138 ?_
              refine v_callS (As := [.ref a0_tape, .int (nI (p2 + 4))]) (rest := [.ref a0]) (wr := [(a0, .inr (8, [.int (nI 0), .ref a0_tape, .int (nI v_a0_taped), .ref a0_out, .int (nI v_a0_outs), .ref a0_slots, .ref a0_kept, .ref a0_phase, .ref a0_secret, .ref a0_key, .ref a0_hide, .ref a0_iv, .ref a0_begin, .ref a0_each, .ref a0_root, .ref a0_power, .ref a0_work, .ref a0_w, .ref a0_h, .ref a0_state, .ref a0_sum, .ref a0_pad, .ref a0_text, .int (nI v_a0_texts), .ref a0_info, .int (nI v_a0_infos), .ref a0_made, .ref a0_blockKey, .ref a0_nonce, .ref a0_x, .ref a0_first, .ref a0_block, .ref a0_a, .ref a0_r, .ref a0_product, .ref a0_tag, .ref a0_sealed])), (a0_blockKey, aY C.D 32 (cpo t_a0_blockKey 0 32 (fun j => t_a0_hide (32 * p1 + j)))), (a0_nonce, aY C.D 12 (cpo t_a0_nonce 0 12 (fun j => t_a0_tape (p2 + 8 + j)))), (a0_x, aM C.D 16 t_a0_x), (a0_first, aM C.D 16 t_a0_first), (a0_block, aY C.D 64 t_a0_block), (a0_hide, aY C.D 128 t_a0_hide), (a0_phase, aW C.D 4 t_a0_phase), (a0_out, aY C.D 2064 t_a0_out)]) cw_X8_201 (hy_X8_wordOf) g (c_wordOf C.l C.D a0_tape (p2 + 4) 2048 t_a0_tape (by omega) (by omega)) dX8_shield_139 rfl (by decide) (by decide) (Nat.le_of_ble_eq_true rfl) [8] [0, 1, 2, 3, 4, 5, 6, 7, 9] rfl rfl (by decide) rfl (by decide) (by decide) _ rfl (fun r wo hp10 => ?_)
              obtain ⟨rfl, rfl⟩ := hp10
              refine v_perm [0, 1, 2, 3, 4, 5, 6, 7, 9, 8] [(a0, .inr (8, [.int (nI 0), .ref a0_tape, .int (nI v_a0_taped), .ref a0_out, .int (nI v_a0_outs), .ref a0_slots, .ref a0_kept, .ref a0_phase, .ref a0_secret, .ref a0_key, .ref a0_hide, .ref a0_iv, .ref a0_begin, .ref a0_each, .ref a0_root, .ref a0_power, .ref a0_work, .ref a0_w, .ref a0_h, .ref a0_state, .ref a0_sum, .ref a0_pad, .ref a0_text, .int (nI v_a0_texts), .ref a0_info, .int (nI v_a0_infos), .ref a0_made, .ref a0_blockKey, .ref a0_nonce, .ref a0_x, .ref a0_first, .ref a0_block, .ref a0_a, .ref a0_r, .ref a0_product, .ref a0_tag, .ref a0_sealed])), (a0_blockKey, aY C.D 32 (cpo t_a0_blockKey 0 32 (fun j => t_a0_hide (32 * p1 + j)))), (a0_nonce, aY C.D 12 (cpo t_a0_nonce 0 12 (fun j => t_a0_tape (p2 + 8 + j)))), (a0_x, aM C.D 16 t_a0_x), (a0_first, aM C.D 16 t_a0_first), (a0_block, aY C.D 64 t_a0_block), (a0_hide, aY C.D 128 t_a0_hide), (a0_phase, aW C.D 4 t_a0_phase), (a0_tape, aY C.D 2048 t_a0_tape), (a0_out, aY C.D 2064 t_a0_out)] (by decide) rfl rfl ?_
              show VJ C 0 0 142 [(4, .int (nI 12)), (0, .ref a0), (1, .int (nI p1)), (2, .int (nI p2)), (3, .int (nI p3))] [.long (lN (le4 t_a0_tape (p2 + 4)).toNat), .ref a0] [(a0, .inr (8, [.int (nI 0), .ref a0_tape, .int (nI v_a0_taped), .ref a0_out, .int (nI v_a0_outs), .ref a0_slots, .ref a0_kept, .ref a0_phase, .ref a0_secret, .ref a0_key, .ref a0_hide, .ref a0_iv, .ref a0_begin, .ref a0_each, .ref a0_root, .ref a0_power, .ref a0_work, .ref a0_w, .ref a0_h, .ref a0_state, .ref a0_sum, .ref a0_pad, .ref a0_text, .int (nI v_a0_texts), .ref a0_info, .int (nI v_a0_infos), .ref a0_made, .ref a0_blockKey, .ref a0_nonce, .ref a0_x, .ref a0_first, .ref a0_block, .ref a0_a, .ref a0_r, .ref a0_product, .ref a0_tag, .ref a0_sealed])), (a0_blockKey, aY C.D 32 (cpo t_a0_blockKey 0 32 (fun j => t_a0_hide (32 * p1 + j)))), (a0_nonce, aY C.D 12 (cpo t_a0_nonce 0 12 (fun j => t_a0_tape (p2 + 8 + j)))), (a0_x, aM C.D 16 t_a0_x), (a0_first, aM C.D 16 t_a0_first), (a0_block, aY C.D 64 t_a0_block), (a0_hide, aY C.D 128 t_a0_hide), (a0_phase, aW C.D 4 t_a0_phase), (a0_tape, aY C.D 2048 t_a0_tape), (a0_out, aY C.D 2064 t_a0_out)]
              refine v_callV (As := [.long (lN (le4 t_a0_tape (p2 + 4)).toNat)]) (rest := []) (wr := [(a0_hide, aY C.D 128 t_a0_hide), (a0_phase, aW C.D 4 t_a0_phase), (a0_tape, aY C.D 2048 t_a0_tape), (a0_out, aY C.D 2064 t_a0_out)]) cw_X8_240 (hy_X8_blockOf) g (c_R_block C.l C.D a0 (BitVec.ofNat 64 (le4 t_a0_tape (p2 + 4)).toNat) 0 a0_tape v_a0_taped a0_out v_a0_outs a0_slots a0_kept a0_phase a0_secret a0_key a0_hide a0_iv a0_begin a0_each a0_root a0_power a0_work a0_w a0_h a0_state a0_sum a0_pad a0_text v_a0_texts a0_info v_a0_infos a0_made a0_blockKey a0_nonce a0_x a0_first a0_block a0_a a0_r a0_product a0_tag a0_sealed (cpo t_a0_blockKey 0 32 (fun j => t_a0_hide (32 * p1 + j))) (cpo t_a0_nonce 0 12 (fun j => t_a0_tape (p2 + 8 + j))) t_a0_x t_a0_first t_a0_block ) dX8_shield_142 0 rfl rfl rfl (by decide) (by decide) (Nat.le_of_ble_eq_true rfl) [0, 1, 2, 3, 4, 5] [6, 7, 8, 9] rfl rfl (by decide) rfl (by decide) (by decide) _ rfl (fun r wo hp11 => ?_)
              obtain ⟨bx, bf, bb, rfl, rfl, hbb⟩ := hp11
              refine v_perm [4, 5, 6, 7, 8, 9, 0, 1, 2, 3] [(a0, .inr (8, [.int (nI 0), .ref a0_tape, .int (nI v_a0_taped), .ref a0_out, .int (nI v_a0_outs), .ref a0_slots, .ref a0_kept, .ref a0_phase, .ref a0_secret, .ref a0_key, .ref a0_hide, .ref a0_iv, .ref a0_begin, .ref a0_each, .ref a0_root, .ref a0_power, .ref a0_work, .ref a0_w, .ref a0_h, .ref a0_state, .ref a0_sum, .ref a0_pad, .ref a0_text, .int (nI v_a0_texts), .ref a0_info, .int (nI v_a0_infos), .ref a0_made, .ref a0_blockKey, .ref a0_nonce, .ref a0_x, .ref a0_first, .ref a0_block, .ref a0_a, .ref a0_r, .ref a0_product, .ref a0_tag, .ref a0_sealed])), (a0_blockKey, aY C.D 32 (cpo t_a0_blockKey 0 32 (fun j => t_a0_hide (32 * p1 + j)))), (a0_nonce, aY C.D 12 (cpo t_a0_nonce 0 12 (fun j => t_a0_tape (p2 + 8 + j)))), (a0_x, aM C.D 16 bx), (a0_first, aM C.D 16 bf), (a0_block, aY C.D 64 bb), (a0_hide, aY C.D 128 t_a0_hide), (a0_phase, aW C.D 4 t_a0_phase), (a0_tape, aY C.D 2048 t_a0_tape), (a0_out, aY C.D 2064 t_a0_out)] (by decide) rfl rfl ?_
              show VJ C 0 0 145 [(4, .int (nI 12)), (0, .ref a0), (1, .int (nI p1)), (2, .int (nI p2)), (3, .int (nI p3))] [] [(a0, .inr (8, [.int (nI 0), .ref a0_tape, .int (nI v_a0_taped), .ref a0_out, .int (nI v_a0_outs), .ref a0_slots, .ref a0_kept, .ref a0_phase, .ref a0_secret, .ref a0_key, .ref a0_hide, .ref a0_iv, .ref a0_begin, .ref a0_each, .ref a0_root, .ref a0_power, .ref a0_work, .ref a0_w, .ref a0_h, .ref a0_state, .ref a0_sum, .ref a0_pad, .ref a0_text, .int (nI v_a0_texts), .ref a0_info, .int (nI v_a0_infos), .ref a0_made, .ref a0_blockKey, .ref a0_nonce, .ref a0_x, .ref a0_first, .ref a0_block, .ref a0_a, .ref a0_r, .ref a0_product, .ref a0_tag, .ref a0_sealed])), (a0_blockKey, aY C.D 32 (cpo t_a0_blockKey 0 32 (fun j => t_a0_hide (32 * p1 + j)))), (a0_nonce, aY C.D 12 (cpo t_a0_nonce 0 12 (fun j => t_a0_tape (p2 + 8 + j)))), (a0_x, aM C.D 16 bx), (a0_first, aM C.D 16 bf), (a0_block, aY C.D 64 bb), (a0_hide, aY C.D 128 t_a0_hide), (a0_phase, aW C.D 4 t_a0_phase), (a0_tape, aY C.D 2048 t_a0_tape), (a0_out, aY C.D 2064 t_a0_out)]
              have hM : ∀ j, j < 64 → bb j = hdM (fun j => t_a0_hide (32 * p1 + j)) t_a0_tape p2 j := fun j hj => by rw [hbb j hj, q64]; exact ccF_congr (fun q hq => cpo_z hq) (fun q hq => cpo_z hq) j hj
              have hb0 := (t_a0_tape 0).isLt
              refine v_aload_n g dX8_shield_145 0 rfl 1 rfl ?_
              refine gf_X8_7 g dX8_shield_146 0 rfl rfl ?_
              refine v_iconst g dX8_shield_149 (v := nI 0) (by decide +kernel) ?_
              refine v_ialdY g 8 rfl (by decide) (by decide) dX8_shield_150 ?_
              refine v_aload_n g dX8_shield_151 0 rfl 1 rfl ?_
              refine gf_X8_89 g dX8_shield_152 0 rfl rfl ?_
              refine v_iconst g dX8_shield_155 (v := nI 0) (by decide +kernel) ?_
              refine v_ialdY g 5 rfl (by decide) (by decide) dX8_shield_156 ?_
              refine v_aload_n g dX8_shield_157 0 rfl 1 rfl ?_
              refine gf_X8_7 g dX8_shield_158 0 rfl rfl ?_
              refine v_iconst g dX8_shield_161 (v := nI 0) (by decide +kernel) ?_
              refine v_ialdY g 8 rfl (by decide) (by decide) dX8_shield_162 ?_
              refine v_bipush g dX8_shield_163 (v := nI 127) (by decide +kernel) ?_
              have J177 : ∀ (sh : By), (sh = hd0 (fun j => t_a0_hide (32 * p1 + j)) t_a0_tape p2) → VJ C 0 0 177 [(0, .ref a0), (1, .int (nI p1)), (2, .int (nI p2)), (3, .int (nI p3))] [.int (nI sh.toNat)] [(a0, .inr (8, [.int (nI 0), .ref a0_tape, .int (nI v_a0_taped), .ref a0_out, .int (nI v_a0_outs), .ref a0_slots, .ref a0_kept, .ref a0_phase, .ref a0_secret, .ref a0_key, .ref a0_hide, .ref a0_iv, .ref a0_begin, .ref a0_each, .ref a0_root, .ref a0_power, .ref a0_work, .ref a0_w, .ref a0_h, .ref a0_state, .ref a0_sum, .ref a0_pad, .ref a0_text, .int (nI v_a0_texts), .ref a0_info, .int (nI v_a0_infos), .ref a0_made, .ref a0_blockKey, .ref a0_nonce, .ref a0_x, .ref a0_first, .ref a0_block, .ref a0_a, .ref a0_r, .ref a0_product, .ref a0_tag, .ref a0_sealed])), (a0_blockKey, aY C.D 32 (cpo t_a0_blockKey 0 32 (fun j => t_a0_hide (32 * p1 + j)))), (a0_nonce, aY C.D 12 (cpo t_a0_nonce 0 12 (fun j => t_a0_tape (p2 + 8 + j)))), (a0_x, aM C.D 16 bx), (a0_first, aM C.D 16 bf), (a0_block, aY C.D 64 bb), (a0_hide, aY C.D 128 t_a0_hide), (a0_phase, aW C.D 4 t_a0_phase), (a0_tape, aY C.D 2048 t_a0_tape), (a0_out, aY C.D 2064 t_a0_out)] := by
                intro sh hj0
                refine v_istore g [(4, .int (nI sh.toNat)), (0, .ref a0), (1, .int (nI p1)), (2, .int (nI p2)), (3, .int (nI p3))] dX8_shield_177 (by decide) rfl ?_
                subst hj0
                show VJ C 0 0 179 [(4, .int (nI ((hd0 (fun j => t_a0_hide (32 * p1 + j)) t_a0_tape p2).toNat))), (0, .ref a0), (1, .int (nI p1)), (2, .int (nI p2)), (3, .int (nI p3))] [] [(a0, .inr (8, [.int (nI 0), .ref a0_tape, .int (nI v_a0_taped), .ref a0_out, .int (nI v_a0_outs), .ref a0_slots, .ref a0_kept, .ref a0_phase, .ref a0_secret, .ref a0_key, .ref a0_hide, .ref a0_iv, .ref a0_begin, .ref a0_each, .ref a0_root, .ref a0_power, .ref a0_work, .ref a0_w, .ref a0_h, .ref a0_state, .ref a0_sum, .ref a0_pad, .ref a0_text, .int (nI v_a0_texts), .ref a0_info, .int (nI v_a0_infos), .ref a0_made, .ref a0_blockKey, .ref a0_nonce, .ref a0_x, .ref a0_first, .ref a0_block, .ref a0_a, .ref a0_r, .ref a0_product, .ref a0_tag, .ref a0_sealed])), (a0_blockKey, aY C.D 32 (cpo t_a0_blockKey 0 32 (fun j => t_a0_hide (32 * p1 + j)))), (a0_nonce, aY C.D 12 (cpo t_a0_nonce 0 12 (fun j => t_a0_tape (p2 + 8 + j)))), (a0_x, aM C.D 16 bx), (a0_first, aM C.D 16 bf), (a0_block, aY C.D 64 bb), (a0_hide, aY C.D 128 t_a0_hide), (a0_phase, aW C.D 4 t_a0_phase), (a0_tape, aY C.D 2048 t_a0_tape), (a0_out, aY C.D 2064 t_a0_out)]
                refine v_iload_n g dX8_shield_179 3 rfl 4 rfl ?_
                refine v_if_eqN g 192 dX8_shield_180 (by decide) (by omega) (fun h12 => ?_) (fun h12 => ?_)
                · skip
                  refine v_iload g dX8_shield_192 0 rfl ?_
                  refine v_iconst g dX8_shield_194 (v := nI 3) (by decide +kernel) ?_
                  refine v_iandN g dX8_shield_195 ?_
                  refine v_toi (nI ((hd0 (fun j => t_a0_hide (32 * p1 + j)) t_a0_tape p2) &&& 3#8).toNat) (congrArg nI (BitVec.toNat_and ((hd0 (fun j => t_a0_hide (32 * p1 + j)) t_a0_tape p2)) (3#8)).symm) ?_
                  refine v_iconst g dX8_shield_196 (v := nI 1) (by decide +kernel) ?_
                  refine v_iaddN g dX8_shield_197 ?_
                  refine v_toi (nI (hdN (fun j => t_a0_hide (32 * p1 + j)) t_a0_tape p2 p3)) (congrArg nI ((Nat.add_comm _ _).trans (by unfold hdN; rw [if_pos h12]))) ?_
                  refine v_istore g [(5, .int (nI (hdN (fun j => t_a0_hide (32 * p1 + j)) t_a0_tape p2 p3))), (4, .int (nI ((hd0 (fun j => t_a0_hide (32 * p1 + j)) t_a0_tape p2).toNat))), (0, .ref a0), (1, .int (nI p1)), (2, .int (nI p2)), (3, .int (nI p3))] dX8_shield_198 (by decide) rfl ?_
                  refine v_iconst g dX8_shield_200 (v := nI 0) (by decide +kernel) ?_
                  refine v_istore g [(6, .int (nI 0)), (5, .int (nI (hdN (fun j => t_a0_hide (32 * p1 + j)) t_a0_tape p2 p3))), (4, .int (nI ((hd0 (fun j => t_a0_hide (32 * p1 + j)) t_a0_tape p2).toNat))), (0, .ref a0), (1, .int (nI p1)), (2, .int (nI p2)), (3, .int (nI p3))] dX8_shield_201 (by decide) rfl ?_
                  have hle := hdN_le (fun j => t_a0_hide (32 * p1 + j)) t_a0_tape p2 p3
                  have L203_12 : ∀ i : Nat, i ≤ (hdN (fun j => t_a0_hide (32 * p1 + j)) t_a0_tape p2 p3) → ∀ (tw : Nat → By), (tw = hdP t_a0_tape bb p2 i) → VJ C 0 0 203 [(6, .int (nI i)), (5, .int (nI (hdN (fun j => t_a0_hide (32 * p1 + j)) t_a0_tape p2 p3))), (4, .int (nI ((hd0 (fun j => t_a0_hide (32 * p1 + j)) t_a0_tape p2).toNat))), (0, .ref a0), (1, .int (nI p1)), (2, .int (nI p2)), (3, .int (nI p3))] [] [(a0, .inr (8, [.int (nI 0), .ref a0_tape, .int (nI v_a0_taped), .ref a0_out, .int (nI v_a0_outs), .ref a0_slots, .ref a0_kept, .ref a0_phase, .ref a0_secret, .ref a0_key, .ref a0_hide, .ref a0_iv, .ref a0_begin, .ref a0_each, .ref a0_root, .ref a0_power, .ref a0_work, .ref a0_w, .ref a0_h, .ref a0_state, .ref a0_sum, .ref a0_pad, .ref a0_text, .int (nI v_a0_texts), .ref a0_info, .int (nI v_a0_infos), .ref a0_made, .ref a0_blockKey, .ref a0_nonce, .ref a0_x, .ref a0_first, .ref a0_block, .ref a0_a, .ref a0_r, .ref a0_product, .ref a0_tag, .ref a0_sealed])), (a0_blockKey, aY C.D 32 (cpo t_a0_blockKey 0 32 (fun j => t_a0_hide (32 * p1 + j)))), (a0_nonce, aY C.D 12 (cpo t_a0_nonce 0 12 (fun j => t_a0_tape (p2 + 8 + j)))), (a0_x, aM C.D 16 bx), (a0_first, aM C.D 16 bf), (a0_block, aY C.D 64 bb), (a0_hide, aY C.D 128 t_a0_hide), (a0_phase, aW C.D 4 t_a0_phase), (a0_tape, aY C.D 2048 tw), (a0_out, aY C.D 2064 t_a0_out)] := by
                    refine v_for ((hdN (fun j => t_a0_hide (32 * p1 + j)) t_a0_tape p2 p3)) ?_ ?_
                    · skip
                      intro i hii ih tw hv0
                      refine v_iload g dX8_shield_203 0 rfl ?_
                      refine v_iload g dX8_shield_205 1 rfl ?_
                      refine v_icmp_geN g 244 dX8_shield_207 (by decide) (by omega) (by omega) (fun h13 => ?_) (fun h13 => ?_)
                      · skip
                        exact absurd h13 (by omega)
                      · skip
                        refine v_aload_n g dX8_shield_210 0 rfl 3 rfl ?_
                        refine gf_X8_7 g dX8_shield_211 0 rfl rfl ?_
                        refine v_iload_n g dX8_shield_214 2 rfl 5 rfl ?_
                        refine v_iload g dX8_shield_215 0 rfl ?_
                        refine v_iaddN g dX8_shield_217 ?_
                        refine v_aload_n g dX8_shield_218 0 rfl 3 rfl ?_
                        refine gf_X8_7 g dX8_shield_219 0 rfl rfl ?_
                        refine v_iload_n g dX8_shield_222 2 rfl 5 rfl ?_
                        refine v_iload g dX8_shield_223 0 rfl ?_
                        refine v_iaddN g dX8_shield_225 ?_
                        refine v_ialdY g 8 rfl (by omega) (by decide) dX8_shield_226 ?_
                        refine v_aload_n g dX8_shield_227 0 rfl 3 rfl ?_
                        refine gf_X8_89 g dX8_shield_228 0 rfl rfl ?_
                        refine v_iconst g dX8_shield_231 (v := nI 1) (by decide +kernel) ?_
                        refine v_iload g dX8_shield_232 0 rfl ?_
                        refine v_iaddN g dX8_shield_234 ?_
                        refine v_ialdY g 5 rfl (by omega) (by decide) dX8_shield_235 ?_
                        refine v_ixorN g dX8_shield_236 ?_
                        refine v_toi (nI ((tw (p2 + i)) ^^^ (bb (1 + i))).toNat) (congrArg nI (BitVec.toNat_xor ((tw (p2 + i))) ((bb (1 + i)))).symm) ?_
                        obtain ⟨t14, ht14⟩ : ∃ z : Nat → By, z = va_up tw (p2 + i) ((tw (p2 + i)) ^^^ (bb (1 + i))) := ⟨_, rfl⟩
                        refine v_iastY g (((tw (p2 + i)) ^^^ (bb (1 + i)))) rfl t14 ht14 8 [(a0, .inr (8, [.int (nI 0), .ref a0_tape, .int (nI v_a0_taped), .ref a0_out, .int (nI v_a0_outs), .ref a0_slots, .ref a0_kept, .ref a0_phase, .ref a0_secret, .ref a0_key, .ref a0_hide, .ref a0_iv, .ref a0_begin, .ref a0_each, .ref a0_root, .ref a0_power, .ref a0_work, .ref a0_w, .ref a0_h, .ref a0_state, .ref a0_sum, .ref a0_pad, .ref a0_text, .int (nI v_a0_texts), .ref a0_info, .int (nI v_a0_infos), .ref a0_made, .ref a0_blockKey, .ref a0_nonce, .ref a0_x, .ref a0_first, .ref a0_block, .ref a0_a, .ref a0_r, .ref a0_product, .ref a0_tag, .ref a0_sealed])), (a0_blockKey, aY C.D 32 (cpo t_a0_blockKey 0 32 (fun j => t_a0_hide (32 * p1 + j)))), (a0_nonce, aY C.D 12 (cpo t_a0_nonce 0 12 (fun j => t_a0_tape (p2 + 8 + j)))), (a0_x, aM C.D 16 bx), (a0_first, aM C.D 16 bf), (a0_block, aY C.D 64 bb), (a0_hide, aY C.D 128 t_a0_hide), (a0_phase, aW C.D 4 t_a0_phase), (a0_tape, aY C.D 2048 t14), (a0_out, aY C.D 2064 t_a0_out)] rfl (by omega) (by decide) dX8_shield_237 rfl ?_
                        refine v_iincN g 1 [(6, .int (nI (i + 1))), (5, .int (nI (hdN (fun j => t_a0_hide (32 * p1 + j)) t_a0_tape p2 p3))), (4, .int (nI ((hd0 (fun j => t_a0_hide (32 * p1 + j)) t_a0_tape p2).toNat))), (0, .ref a0), (1, .int (nI p1)), (2, .int (nI p2)), (3, .int (nI p3))] dX8_shield_238 0 rfl (by decide +kernel) (by decide) rfl ?_
                        refine v_goto g 203 dX8_shield_241 (by decide) ?_
                        exact ih t14 (by rw [ht14, hv0]; exact hdP_s _ _ _ _)
                    · skip
                      intro tw hv0
                      refine v_iload g dX8_shield_203 0 rfl ?_
                      refine v_iload g dX8_shield_205 1 rfl ?_
                      refine v_icmp_geN g 244 dX8_shield_207 (by decide) (by omega) (by omega) (fun h15 => ?_) (fun h15 => ?_)
                      · skip
                        subst hv0
                        show VJ C 0 0 244 [(6, .int (nI (hdN (fun j => t_a0_hide (32 * p1 + j)) t_a0_tape p2 p3))), (5, .int (nI (hdN (fun j => t_a0_hide (32 * p1 + j)) t_a0_tape p2 p3))), (4, .int (nI ((hd0 (fun j => t_a0_hide (32 * p1 + j)) t_a0_tape p2).toNat))), (0, .ref a0), (1, .int (nI p1)), (2, .int (nI p2)), (3, .int (nI p3))] [] [(a0, .inr (8, [.int (nI 0), .ref a0_tape, .int (nI v_a0_taped), .ref a0_out, .int (nI v_a0_outs), .ref a0_slots, .ref a0_kept, .ref a0_phase, .ref a0_secret, .ref a0_key, .ref a0_hide, .ref a0_iv, .ref a0_begin, .ref a0_each, .ref a0_root, .ref a0_power, .ref a0_work, .ref a0_w, .ref a0_h, .ref a0_state, .ref a0_sum, .ref a0_pad, .ref a0_text, .int (nI v_a0_texts), .ref a0_info, .int (nI v_a0_infos), .ref a0_made, .ref a0_blockKey, .ref a0_nonce, .ref a0_x, .ref a0_first, .ref a0_block, .ref a0_a, .ref a0_r, .ref a0_product, .ref a0_tag, .ref a0_sealed])), (a0_blockKey, aY C.D 32 (cpo t_a0_blockKey 0 32 (fun j => t_a0_hide (32 * p1 + j)))), (a0_nonce, aY C.D 12 (cpo t_a0_nonce 0 12 (fun j => t_a0_tape (p2 + 8 + j)))), (a0_x, aM C.D 16 bx), (a0_first, aM C.D 16 bf), (a0_block, aY C.D 64 bb), (a0_hide, aY C.D 128 t_a0_hide), (a0_phase, aW C.D 4 t_a0_phase), (a0_tape, aY C.D 2048 (hdP t_a0_tape bb p2 (hdN (fun j => t_a0_hide (32 * p1 + j)) t_a0_tape p2 p3))), (a0_out, aY C.D 2064 t_a0_out)]
                        refine v_aload_n g dX8_shield_244 0 rfl 3 rfl ?_
                        refine gf_X8_7 g dX8_shield_245 0 rfl rfl ?_
                        refine v_iconst g dX8_shield_248 (v := nI 0) (by decide +kernel) ?_
                        refine v_iload g dX8_shield_249 2 rfl ?_
                        obtain ⟨t16, ht16⟩ : ∃ z : Nat → By, z = va_up (hdP t_a0_tape bb p2 (hdN (fun j => t_a0_hide (32 * p1 + j)) t_a0_tape p2 p3)) 0 (hd0 (fun j => t_a0_hide (32 * p1 + j)) t_a0_tape p2) := ⟨_, rfl⟩
                        refine v_iastY g ((hd0 (fun j => t_a0_hide (32 * p1 + j)) t_a0_tape p2)) rfl t16 ht16 8 [(a0, .inr (8, [.int (nI 0), .ref a0_tape, .int (nI v_a0_taped), .ref a0_out, .int (nI v_a0_outs), .ref a0_slots, .ref a0_kept, .ref a0_phase, .ref a0_secret, .ref a0_key, .ref a0_hide, .ref a0_iv, .ref a0_begin, .ref a0_each, .ref a0_root, .ref a0_power, .ref a0_work, .ref a0_w, .ref a0_h, .ref a0_state, .ref a0_sum, .ref a0_pad, .ref a0_text, .int (nI v_a0_texts), .ref a0_info, .int (nI v_a0_infos), .ref a0_made, .ref a0_blockKey, .ref a0_nonce, .ref a0_x, .ref a0_first, .ref a0_block, .ref a0_a, .ref a0_r, .ref a0_product, .ref a0_tag, .ref a0_sealed])), (a0_blockKey, aY C.D 32 (cpo t_a0_blockKey 0 32 (fun j => t_a0_hide (32 * p1 + j)))), (a0_nonce, aY C.D 12 (cpo t_a0_nonce 0 12 (fun j => t_a0_tape (p2 + 8 + j)))), (a0_x, aM C.D 16 bx), (a0_first, aM C.D 16 bf), (a0_block, aY C.D 64 bb), (a0_hide, aY C.D 128 t_a0_hide), (a0_phase, aW C.D 4 t_a0_phase), (a0_tape, aY C.D 2048 t16), (a0_out, aY C.D 2064 t_a0_out)] rfl (by decide) (by decide) dX8_shield_251 rfl ?_
                        refine v_aload_n g dX8_shield_252 0 rfl 3 rfl ?_
                        refine v_aload_n g dX8_shield_253 0 rfl 3 rfl ?_
                        refine gf_X8_7 g dX8_shield_254 0 rfl rfl ?_
                        refine v_aload_n g dX8_shield_257 0 rfl 3 rfl ?_
                        refine gf_X8_215 g dX8_shield_258 0 rfl rfl ?_
                        refine v_callV (As := [.ref a0_tape, .int (nI v_a0_taped)]) (rest := []) (wr := [(a0_blockKey, aY C.D 32 (cpo t_a0_blockKey 0 32 (fun j => t_a0_hide (32 * p1 + j)))), (a0_nonce, aY C.D 12 (cpo t_a0_nonce 0 12 (fun j => t_a0_tape (p2 + 8 + j)))), (a0_x, aM C.D 16 bx), (a0_first, aM C.D 16 bf), (a0_block, aY C.D 64 bb), (a0_hide, aY C.D 128 t_a0_hide), (a0_phase, aW C.D 4 t_a0_phase)]) cw_X8_225 (hy_X8_answer) g (c_R_ans C.l C.D a0 a0_tape v_a0_taped 0 a0_tape v_a0_taped a0_out v_a0_outs a0_slots a0_kept a0_phase a0_secret a0_key a0_hide a0_iv a0_begin a0_each a0_root a0_power a0_work a0_w a0_h a0_state a0_sum a0_pad a0_text v_a0_texts a0_info v_a0_infos a0_made a0_blockKey a0_nonce a0_x a0_first a0_block a0_a a0_r a0_product a0_tag a0_sealed t_a0_out 2048 t16 (by omega) (by omega) (by omega)) dX8_shield_261 0 rfl rfl rfl (by decide) (by decide) (Nat.le_of_ble_eq_true rfl) [0, 9, 8] [1, 2, 3, 4, 5, 6, 7] rfl rfl (by decide) rfl (by decide) (by decide) _ rfl (fun r wo hp17 => ?_)
                        obtain ⟨rfl, rfl⟩ := hp17
                        refine v_perm [7, 0, 1, 2, 3, 4, 5, 6, 9, 8] [(a0, .inr (8, [.int (nI 0), .ref a0_tape, .int (nI 0), .ref a0_out, .int (nI v_a0_taped), .ref a0_slots, .ref a0_kept, .ref a0_phase, .ref a0_secret, .ref a0_key, .ref a0_hide, .ref a0_iv, .ref a0_begin, .ref a0_each, .ref a0_root, .ref a0_power, .ref a0_work, .ref a0_w, .ref a0_h, .ref a0_state, .ref a0_sum, .ref a0_pad, .ref a0_text, .int (nI v_a0_texts), .ref a0_info, .int (nI v_a0_infos), .ref a0_made, .ref a0_blockKey, .ref a0_nonce, .ref a0_x, .ref a0_first, .ref a0_block, .ref a0_a, .ref a0_r, .ref a0_product, .ref a0_tag, .ref a0_sealed])), (a0_blockKey, aY C.D 32 (cpo t_a0_blockKey 0 32 (fun j => t_a0_hide (32 * p1 + j)))), (a0_nonce, aY C.D 12 (cpo t_a0_nonce 0 12 (fun j => t_a0_tape (p2 + 8 + j)))), (a0_x, aM C.D 16 bx), (a0_first, aM C.D 16 bf), (a0_block, aY C.D 64 bb), (a0_hide, aY C.D 128 t_a0_hide), (a0_phase, aW C.D 4 t_a0_phase), (a0_tape, aY C.D 2048 t16), (a0_out, aY C.D 2064 (cpo t_a0_out 0 v_a0_taped t16))] (by decide) rfl rfl ?_
                        show VJ C 0 0 264 [(6, .int (nI (hdN (fun j => t_a0_hide (32 * p1 + j)) t_a0_tape p2 p3))), (5, .int (nI (hdN (fun j => t_a0_hide (32 * p1 + j)) t_a0_tape p2 p3))), (4, .int (nI ((hd0 (fun j => t_a0_hide (32 * p1 + j)) t_a0_tape p2).toNat))), (0, .ref a0), (1, .int (nI p1)), (2, .int (nI p2)), (3, .int (nI p3))] [] [(a0, .inr (8, [.int (nI 0), .ref a0_tape, .int (nI 0), .ref a0_out, .int (nI v_a0_taped), .ref a0_slots, .ref a0_kept, .ref a0_phase, .ref a0_secret, .ref a0_key, .ref a0_hide, .ref a0_iv, .ref a0_begin, .ref a0_each, .ref a0_root, .ref a0_power, .ref a0_work, .ref a0_w, .ref a0_h, .ref a0_state, .ref a0_sum, .ref a0_pad, .ref a0_text, .int (nI v_a0_texts), .ref a0_info, .int (nI v_a0_infos), .ref a0_made, .ref a0_blockKey, .ref a0_nonce, .ref a0_x, .ref a0_first, .ref a0_block, .ref a0_a, .ref a0_r, .ref a0_product, .ref a0_tag, .ref a0_sealed])), (a0_blockKey, aY C.D 32 (cpo t_a0_blockKey 0 32 (fun j => t_a0_hide (32 * p1 + j)))), (a0_nonce, aY C.D 12 (cpo t_a0_nonce 0 12 (fun j => t_a0_tape (p2 + 8 + j)))), (a0_x, aM C.D 16 bx), (a0_first, aM C.D 16 bf), (a0_block, aY C.D 64 bb), (a0_hide, aY C.D 128 t_a0_hide), (a0_phase, aW C.D 4 t_a0_phase), (a0_tape, aY C.D 2048 t16), (a0_out, aY C.D 2064 (cpo t_a0_out 0 v_a0_taped t16))]
                        refine v_iload g dX8_shield_264 1 rfl ?_
                        exact v_iret g R dX8_shield_266 (by decide) (by decide) ⟨bx, bf, bb, _, _, t16, _, rfl, rfl, (fun j hj => by rw [cpo_z hj, ht16, hdP_e hM h2 hle])⟩
                      · skip
                        exact absurd h15 (by omega)
                  exact L203_12 0 (by omega) t_a0_tape ((hdP_0 _ _ _).symm)
                · skip
                  refine v_aload_n g dX8_shield_183 0 rfl 1 rfl ?_
                  refine gf_X8_7 g dX8_shield_184 0 rfl rfl ?_
                  refine v_iconst g dX8_shield_187 (v := nI 0) (by decide +kernel) ?_
                  refine v_ialdY g 8 rfl (by decide) (by decide) dX8_shield_188 ?_
                  refine v_goto g 194 dX8_shield_189 (by decide) ?_
                  refine v_iconst g dX8_shield_194 (v := nI 3) (by decide +kernel) ?_
                  refine v_iandN g dX8_shield_195 ?_
                  refine v_toi (nI ((t_a0_tape 0) &&& 3#8).toNat) (congrArg nI (BitVec.toNat_and ((t_a0_tape 0)) (3#8)).symm) ?_
                  refine v_iconst g dX8_shield_196 (v := nI 1) (by decide +kernel) ?_
                  refine v_iaddN g dX8_shield_197 ?_
                  refine v_toi (nI (hdN (fun j => t_a0_hide (32 * p1 + j)) t_a0_tape p2 p3)) (congrArg nI ((Nat.add_comm _ _).trans (by unfold hdN; rw [if_neg h12]))) ?_
                  refine v_istore g [(5, .int (nI (hdN (fun j => t_a0_hide (32 * p1 + j)) t_a0_tape p2 p3))), (4, .int (nI ((hd0 (fun j => t_a0_hide (32 * p1 + j)) t_a0_tape p2).toNat))), (0, .ref a0), (1, .int (nI p1)), (2, .int (nI p2)), (3, .int (nI p3))] dX8_shield_198 (by decide) rfl ?_
                  refine v_iconst g dX8_shield_200 (v := nI 0) (by decide +kernel) ?_
                  refine v_istore g [(6, .int (nI 0)), (5, .int (nI (hdN (fun j => t_a0_hide (32 * p1 + j)) t_a0_tape p2 p3))), (4, .int (nI ((hd0 (fun j => t_a0_hide (32 * p1 + j)) t_a0_tape p2).toNat))), (0, .ref a0), (1, .int (nI p1)), (2, .int (nI p2)), (3, .int (nI p3))] dX8_shield_201 (by decide) rfl ?_
                  have hle := hdN_le (fun j => t_a0_hide (32 * p1 + j)) t_a0_tape p2 p3
                  have L203_17 : ∀ i : Nat, i ≤ (hdN (fun j => t_a0_hide (32 * p1 + j)) t_a0_tape p2 p3) → ∀ (tw : Nat → By), (tw = hdP t_a0_tape bb p2 i) → VJ C 0 0 203 [(6, .int (nI i)), (5, .int (nI (hdN (fun j => t_a0_hide (32 * p1 + j)) t_a0_tape p2 p3))), (4, .int (nI ((hd0 (fun j => t_a0_hide (32 * p1 + j)) t_a0_tape p2).toNat))), (0, .ref a0), (1, .int (nI p1)), (2, .int (nI p2)), (3, .int (nI p3))] [] [(a0, .inr (8, [.int (nI 0), .ref a0_tape, .int (nI v_a0_taped), .ref a0_out, .int (nI v_a0_outs), .ref a0_slots, .ref a0_kept, .ref a0_phase, .ref a0_secret, .ref a0_key, .ref a0_hide, .ref a0_iv, .ref a0_begin, .ref a0_each, .ref a0_root, .ref a0_power, .ref a0_work, .ref a0_w, .ref a0_h, .ref a0_state, .ref a0_sum, .ref a0_pad, .ref a0_text, .int (nI v_a0_texts), .ref a0_info, .int (nI v_a0_infos), .ref a0_made, .ref a0_blockKey, .ref a0_nonce, .ref a0_x, .ref a0_first, .ref a0_block, .ref a0_a, .ref a0_r, .ref a0_product, .ref a0_tag, .ref a0_sealed])), (a0_blockKey, aY C.D 32 (cpo t_a0_blockKey 0 32 (fun j => t_a0_hide (32 * p1 + j)))), (a0_nonce, aY C.D 12 (cpo t_a0_nonce 0 12 (fun j => t_a0_tape (p2 + 8 + j)))), (a0_x, aM C.D 16 bx), (a0_first, aM C.D 16 bf), (a0_block, aY C.D 64 bb), (a0_hide, aY C.D 128 t_a0_hide), (a0_phase, aW C.D 4 t_a0_phase), (a0_tape, aY C.D 2048 tw), (a0_out, aY C.D 2064 t_a0_out)] := by
                    refine v_for ((hdN (fun j => t_a0_hide (32 * p1 + j)) t_a0_tape p2 p3)) ?_ ?_
                    · skip
                      intro i hii ih tw hv0
                      refine v_iload g dX8_shield_203 0 rfl ?_
                      refine v_iload g dX8_shield_205 1 rfl ?_
                      refine v_icmp_geN g 244 dX8_shield_207 (by decide) (by omega) (by omega) (fun h18 => ?_) (fun h18 => ?_)
                      · skip
                        exact absurd h18 (by omega)
                      · skip
                        refine v_aload_n g dX8_shield_210 0 rfl 3 rfl ?_
                        refine gf_X8_7 g dX8_shield_211 0 rfl rfl ?_
                        refine v_iload_n g dX8_shield_214 2 rfl 5 rfl ?_
                        refine v_iload g dX8_shield_215 0 rfl ?_
                        refine v_iaddN g dX8_shield_217 ?_
                        refine v_aload_n g dX8_shield_218 0 rfl 3 rfl ?_
                        refine gf_X8_7 g dX8_shield_219 0 rfl rfl ?_
                        refine v_iload_n g dX8_shield_222 2 rfl 5 rfl ?_
                        refine v_iload g dX8_shield_223 0 rfl ?_
                        refine v_iaddN g dX8_shield_225 ?_
                        refine v_ialdY g 8 rfl (by omega) (by decide) dX8_shield_226 ?_
                        refine v_aload_n g dX8_shield_227 0 rfl 3 rfl ?_
                        refine gf_X8_89 g dX8_shield_228 0 rfl rfl ?_
                        refine v_iconst g dX8_shield_231 (v := nI 1) (by decide +kernel) ?_
                        refine v_iload g dX8_shield_232 0 rfl ?_
                        refine v_iaddN g dX8_shield_234 ?_
                        refine v_ialdY g 5 rfl (by omega) (by decide) dX8_shield_235 ?_
                        refine v_ixorN g dX8_shield_236 ?_
                        refine v_toi (nI ((tw (p2 + i)) ^^^ (bb (1 + i))).toNat) (congrArg nI (BitVec.toNat_xor ((tw (p2 + i))) ((bb (1 + i)))).symm) ?_
                        obtain ⟨t19, ht19⟩ : ∃ z : Nat → By, z = va_up tw (p2 + i) ((tw (p2 + i)) ^^^ (bb (1 + i))) := ⟨_, rfl⟩
                        refine v_iastY g (((tw (p2 + i)) ^^^ (bb (1 + i)))) rfl t19 ht19 8 [(a0, .inr (8, [.int (nI 0), .ref a0_tape, .int (nI v_a0_taped), .ref a0_out, .int (nI v_a0_outs), .ref a0_slots, .ref a0_kept, .ref a0_phase, .ref a0_secret, .ref a0_key, .ref a0_hide, .ref a0_iv, .ref a0_begin, .ref a0_each, .ref a0_root, .ref a0_power, .ref a0_work, .ref a0_w, .ref a0_h, .ref a0_state, .ref a0_sum, .ref a0_pad, .ref a0_text, .int (nI v_a0_texts), .ref a0_info, .int (nI v_a0_infos), .ref a0_made, .ref a0_blockKey, .ref a0_nonce, .ref a0_x, .ref a0_first, .ref a0_block, .ref a0_a, .ref a0_r, .ref a0_product, .ref a0_tag, .ref a0_sealed])), (a0_blockKey, aY C.D 32 (cpo t_a0_blockKey 0 32 (fun j => t_a0_hide (32 * p1 + j)))), (a0_nonce, aY C.D 12 (cpo t_a0_nonce 0 12 (fun j => t_a0_tape (p2 + 8 + j)))), (a0_x, aM C.D 16 bx), (a0_first, aM C.D 16 bf), (a0_block, aY C.D 64 bb), (a0_hide, aY C.D 128 t_a0_hide), (a0_phase, aW C.D 4 t_a0_phase), (a0_tape, aY C.D 2048 t19), (a0_out, aY C.D 2064 t_a0_out)] rfl (by omega) (by decide) dX8_shield_237 rfl ?_
                        refine v_iincN g 1 [(6, .int (nI (i + 1))), (5, .int (nI (hdN (fun j => t_a0_hide (32 * p1 + j)) t_a0_tape p2 p3))), (4, .int (nI ((hd0 (fun j => t_a0_hide (32 * p1 + j)) t_a0_tape p2).toNat))), (0, .ref a0), (1, .int (nI p1)), (2, .int (nI p2)), (3, .int (nI p3))] dX8_shield_238 0 rfl (by decide +kernel) (by decide) rfl ?_
                        refine v_goto g 203 dX8_shield_241 (by decide) ?_
                        exact ih t19 (by rw [ht19, hv0]; exact hdP_s _ _ _ _)
                    · skip
                      intro tw hv0
                      refine v_iload g dX8_shield_203 0 rfl ?_
                      refine v_iload g dX8_shield_205 1 rfl ?_
                      refine v_icmp_geN g 244 dX8_shield_207 (by decide) (by omega) (by omega) (fun h20 => ?_) (fun h20 => ?_)
                      · skip
                        subst hv0
                        show VJ C 0 0 244 [(6, .int (nI (hdN (fun j => t_a0_hide (32 * p1 + j)) t_a0_tape p2 p3))), (5, .int (nI (hdN (fun j => t_a0_hide (32 * p1 + j)) t_a0_tape p2 p3))), (4, .int (nI ((hd0 (fun j => t_a0_hide (32 * p1 + j)) t_a0_tape p2).toNat))), (0, .ref a0), (1, .int (nI p1)), (2, .int (nI p2)), (3, .int (nI p3))] [] [(a0, .inr (8, [.int (nI 0), .ref a0_tape, .int (nI v_a0_taped), .ref a0_out, .int (nI v_a0_outs), .ref a0_slots, .ref a0_kept, .ref a0_phase, .ref a0_secret, .ref a0_key, .ref a0_hide, .ref a0_iv, .ref a0_begin, .ref a0_each, .ref a0_root, .ref a0_power, .ref a0_work, .ref a0_w, .ref a0_h, .ref a0_state, .ref a0_sum, .ref a0_pad, .ref a0_text, .int (nI v_a0_texts), .ref a0_info, .int (nI v_a0_infos), .ref a0_made, .ref a0_blockKey, .ref a0_nonce, .ref a0_x, .ref a0_first, .ref a0_block, .ref a0_a, .ref a0_r, .ref a0_product, .ref a0_tag, .ref a0_sealed])), (a0_blockKey, aY C.D 32 (cpo t_a0_blockKey 0 32 (fun j => t_a0_hide (32 * p1 + j)))), (a0_nonce, aY C.D 12 (cpo t_a0_nonce 0 12 (fun j => t_a0_tape (p2 + 8 + j)))), (a0_x, aM C.D 16 bx), (a0_first, aM C.D 16 bf), (a0_block, aY C.D 64 bb), (a0_hide, aY C.D 128 t_a0_hide), (a0_phase, aW C.D 4 t_a0_phase), (a0_tape, aY C.D 2048 (hdP t_a0_tape bb p2 (hdN (fun j => t_a0_hide (32 * p1 + j)) t_a0_tape p2 p3))), (a0_out, aY C.D 2064 t_a0_out)]
                        refine v_aload_n g dX8_shield_244 0 rfl 3 rfl ?_
                        refine gf_X8_7 g dX8_shield_245 0 rfl rfl ?_
                        refine v_iconst g dX8_shield_248 (v := nI 0) (by decide +kernel) ?_
                        refine v_iload g dX8_shield_249 2 rfl ?_
                        obtain ⟨t21, ht21⟩ : ∃ z : Nat → By, z = va_up (hdP t_a0_tape bb p2 (hdN (fun j => t_a0_hide (32 * p1 + j)) t_a0_tape p2 p3)) 0 (hd0 (fun j => t_a0_hide (32 * p1 + j)) t_a0_tape p2) := ⟨_, rfl⟩
                        refine v_iastY g ((hd0 (fun j => t_a0_hide (32 * p1 + j)) t_a0_tape p2)) rfl t21 ht21 8 [(a0, .inr (8, [.int (nI 0), .ref a0_tape, .int (nI v_a0_taped), .ref a0_out, .int (nI v_a0_outs), .ref a0_slots, .ref a0_kept, .ref a0_phase, .ref a0_secret, .ref a0_key, .ref a0_hide, .ref a0_iv, .ref a0_begin, .ref a0_each, .ref a0_root, .ref a0_power, .ref a0_work, .ref a0_w, .ref a0_h, .ref a0_state, .ref a0_sum, .ref a0_pad, .ref a0_text, .int (nI v_a0_texts), .ref a0_info, .int (nI v_a0_infos), .ref a0_made, .ref a0_blockKey, .ref a0_nonce, .ref a0_x, .ref a0_first, .ref a0_block, .ref a0_a, .ref a0_r, .ref a0_product, .ref a0_tag, .ref a0_sealed])), (a0_blockKey, aY C.D 32 (cpo t_a0_blockKey 0 32 (fun j => t_a0_hide (32 * p1 + j)))), (a0_nonce, aY C.D 12 (cpo t_a0_nonce 0 12 (fun j => t_a0_tape (p2 + 8 + j)))), (a0_x, aM C.D 16 bx), (a0_first, aM C.D 16 bf), (a0_block, aY C.D 64 bb), (a0_hide, aY C.D 128 t_a0_hide), (a0_phase, aW C.D 4 t_a0_phase), (a0_tape, aY C.D 2048 t21), (a0_out, aY C.D 2064 t_a0_out)] rfl (by decide) (by decide) dX8_shield_251 rfl ?_
                        refine v_aload_n g dX8_shield_252 0 rfl 3 rfl ?_
                        refine v_aload_n g dX8_shield_253 0 rfl 3 rfl ?_
                        refine gf_X8_7 g dX8_shield_254 0 rfl rfl ?_
                        refine v_aload_n g dX8_shield_257 0 rfl 3 rfl ?_
                        refine gf_X8_215 g dX8_shield_258 0 rfl rfl ?_
                        refine v_callV (As := [.ref a0_tape, .int (nI v_a0_taped)]) (rest := []) (wr := [(a0_blockKey, aY C.D 32 (cpo t_a0_blockKey 0 32 (fun j => t_a0_hide (32 * p1 + j)))), (a0_nonce, aY C.D 12 (cpo t_a0_nonce 0 12 (fun j => t_a0_tape (p2 + 8 + j)))), (a0_x, aM C.D 16 bx), (a0_first, aM C.D 16 bf), (a0_block, aY C.D 64 bb), (a0_hide, aY C.D 128 t_a0_hide), (a0_phase, aW C.D 4 t_a0_phase)]) cw_X8_225 (hy_X8_answer) g (c_R_ans C.l C.D a0 a0_tape v_a0_taped 0 a0_tape v_a0_taped a0_out v_a0_outs a0_slots a0_kept a0_phase a0_secret a0_key a0_hide a0_iv a0_begin a0_each a0_root a0_power a0_work a0_w a0_h a0_state a0_sum a0_pad a0_text v_a0_texts a0_info v_a0_infos a0_made a0_blockKey a0_nonce a0_x a0_first a0_block a0_a a0_r a0_product a0_tag a0_sealed t_a0_out 2048 t21 (by omega) (by omega) (by omega)) dX8_shield_261 0 rfl rfl rfl (by decide) (by decide) (Nat.le_of_ble_eq_true rfl) [0, 9, 8] [1, 2, 3, 4, 5, 6, 7] rfl rfl (by decide) rfl (by decide) (by decide) _ rfl (fun r wo hp22 => ?_)
                        obtain ⟨rfl, rfl⟩ := hp22
                        refine v_perm [7, 0, 1, 2, 3, 4, 5, 6, 9, 8] [(a0, .inr (8, [.int (nI 0), .ref a0_tape, .int (nI 0), .ref a0_out, .int (nI v_a0_taped), .ref a0_slots, .ref a0_kept, .ref a0_phase, .ref a0_secret, .ref a0_key, .ref a0_hide, .ref a0_iv, .ref a0_begin, .ref a0_each, .ref a0_root, .ref a0_power, .ref a0_work, .ref a0_w, .ref a0_h, .ref a0_state, .ref a0_sum, .ref a0_pad, .ref a0_text, .int (nI v_a0_texts), .ref a0_info, .int (nI v_a0_infos), .ref a0_made, .ref a0_blockKey, .ref a0_nonce, .ref a0_x, .ref a0_first, .ref a0_block, .ref a0_a, .ref a0_r, .ref a0_product, .ref a0_tag, .ref a0_sealed])), (a0_blockKey, aY C.D 32 (cpo t_a0_blockKey 0 32 (fun j => t_a0_hide (32 * p1 + j)))), (a0_nonce, aY C.D 12 (cpo t_a0_nonce 0 12 (fun j => t_a0_tape (p2 + 8 + j)))), (a0_x, aM C.D 16 bx), (a0_first, aM C.D 16 bf), (a0_block, aY C.D 64 bb), (a0_hide, aY C.D 128 t_a0_hide), (a0_phase, aW C.D 4 t_a0_phase), (a0_tape, aY C.D 2048 t21), (a0_out, aY C.D 2064 (cpo t_a0_out 0 v_a0_taped t21))] (by decide) rfl rfl ?_
                        show VJ C 0 0 264 [(6, .int (nI (hdN (fun j => t_a0_hide (32 * p1 + j)) t_a0_tape p2 p3))), (5, .int (nI (hdN (fun j => t_a0_hide (32 * p1 + j)) t_a0_tape p2 p3))), (4, .int (nI ((hd0 (fun j => t_a0_hide (32 * p1 + j)) t_a0_tape p2).toNat))), (0, .ref a0), (1, .int (nI p1)), (2, .int (nI p2)), (3, .int (nI p3))] [] [(a0, .inr (8, [.int (nI 0), .ref a0_tape, .int (nI 0), .ref a0_out, .int (nI v_a0_taped), .ref a0_slots, .ref a0_kept, .ref a0_phase, .ref a0_secret, .ref a0_key, .ref a0_hide, .ref a0_iv, .ref a0_begin, .ref a0_each, .ref a0_root, .ref a0_power, .ref a0_work, .ref a0_w, .ref a0_h, .ref a0_state, .ref a0_sum, .ref a0_pad, .ref a0_text, .int (nI v_a0_texts), .ref a0_info, .int (nI v_a0_infos), .ref a0_made, .ref a0_blockKey, .ref a0_nonce, .ref a0_x, .ref a0_first, .ref a0_block, .ref a0_a, .ref a0_r, .ref a0_product, .ref a0_tag, .ref a0_sealed])), (a0_blockKey, aY C.D 32 (cpo t_a0_blockKey 0 32 (fun j => t_a0_hide (32 * p1 + j)))), (a0_nonce, aY C.D 12 (cpo t_a0_nonce 0 12 (fun j => t_a0_tape (p2 + 8 + j)))), (a0_x, aM C.D 16 bx), (a0_first, aM C.D 16 bf), (a0_block, aY C.D 64 bb), (a0_hide, aY C.D 128 t_a0_hide), (a0_phase, aW C.D 4 t_a0_phase), (a0_tape, aY C.D 2048 t21), (a0_out, aY C.D 2064 (cpo t_a0_out 0 v_a0_taped t21))]
                        refine v_iload g dX8_shield_264 1 rfl ?_
                        exact v_iret g R dX8_shield_266 (by decide) (by decide) ⟨bx, bf, bb, _, _, t21, _, rfl, rfl, (fun j hj => by rw [cpo_z hj, ht21, hdP_e hM h2 hle])⟩
                      · skip
                        exact absurd h20 (by omega)
                  exact L203_17 0 (by omega) t_a0_tape ((hdP_0 _ _ _).symm)
              refine v_icmp_leN g 173 dX8_shield_165 (by decide) (by omega) (by omega) (fun h23 => ?_) (fun h23 => ?_)
              · skip
                refine v_bipush g dX8_shield_173 (v := nI 31) (by decide +kernel) ?_
                refine v_iandN g dX8_shield_175 ?_
                refine v_toi (nI ((bb 0) &&& 31#8).toNat) (congrArg nI (BitVec.toNat_and ((bb 0)) (31#8)).symm) ?_
                refine v_ixorN g dX8_shield_176 ?_
                refine v_toi (nI ((t_a0_tape 0) ^^^ ((bb 0) &&& 31#8)).toNat) (congrArg nI (BitVec.toNat_xor ((t_a0_tape 0)) (((bb 0) &&& 31#8))).symm) ?_
                refine v_lpick [1, 2, 3, 4] [(0, .ref a0), (1, .int (nI p1)), (2, .int (nI p2)), (3, .int (nI p3))] rfl ?_
                exact J177 ((t_a0_tape 0) ^^^ ((bb 0) &&& 31#8)) (hd0_lo (hM 0 (by decide)) h23)
              · skip
                refine v_bipush g dX8_shield_168 (v := nI 15) (by decide +kernel) ?_
                refine v_goto g 175 dX8_shield_170 (by decide) ?_
                refine v_iandN g dX8_shield_175 ?_
                refine v_toi (nI ((bb 0) &&& 15#8).toNat) (congrArg nI (BitVec.toNat_and ((bb 0)) (15#8)).symm) ?_
                refine v_ixorN g dX8_shield_176 ?_
                refine v_toi (nI ((t_a0_tape 0) ^^^ ((bb 0) &&& 15#8)).toNat) (congrArg nI (BitVec.toNat_xor ((t_a0_tape 0)) (((bb 0) &&& 15#8))).symm) ?_
                refine v_lpick [1, 2, 3, 4] [(0, .ref a0), (1, .int (nI p1)), (2, .int (nI p2)), (3, .int (nI p3))] rfl ?_
                exact J177 ((t_a0_tape 0) ^^^ ((bb 0) &&& 15#8)) (hd0_hi (hM 0 (by decide)) h23)
            · skip
              exact absurd h9 (by omega)
        exact L99_6 0 (by omega) t_a0_nonce ((cpo_0 _ _ _).symm)
      · skip
        exact absurd h6 (by omega)
  exact L64_3 0 (by omega) t_a0_blockKey ((cpo_0 _ _ _).symm)
set_option maxHeartbeats 4000000 in
set_option maxRecDepth 100000 in
theorem f_shield1 (l : Launch) (D : va_G) (a0 : Nat) (p1 : Int32) (p2 : Int32) (p3 : Int32) (v_a0_thrown : Nat) (a0_tape : Nat) (v_a0_taped : Nat) (a0_out : Nat) (v_a0_outs : Nat) (a0_slots : Nat) (a0_kept : Nat) (a0_phase : Nat) (a0_secret : Nat) (a0_key : Nat) (a0_hide : Nat) (a0_iv : Nat) (a0_begin : Nat) (a0_each : Nat) (a0_root : Nat) (a0_power : Nat) (a0_work : Nat) (a0_w : Nat) (a0_h : Nat) (a0_state : Nat) (a0_sum : Nat) (a0_pad : Nat) (a0_text : Nat) (v_a0_texts : Nat) (a0_info : Nat) (v_a0_infos : Nat) (a0_made : Nat) (a0_blockKey : Nat) (a0_nonce : Nat) (a0_x : Nat) (a0_first : Nat) (a0_block : Nat) (a0_a : Nat) (a0_r : Nat) (a0_product : Nat) (a0_tag : Nat) (a0_sealed : Nat)  (h0 : p1 < 0 ∨ nI 4 ≤ p1) : vM l D yX8_shield cX8_shield 7 (some .int) { frames := 1, cells := 0, slots := 0, locals := 22 } [.ref a0, .int p1, .int p2, .int p3] [(a0, .inr (8, [.int (nI v_a0_thrown), .ref a0_tape, .int (nI v_a0_taped), .ref a0_out, .int (nI v_a0_outs), .ref a0_slots, .ref a0_kept, .ref a0_phase, .ref a0_secret, .ref a0_key, .ref a0_hide, .ref a0_iv, .ref a0_begin, .ref a0_each, .ref a0_root, .ref a0_power, .ref a0_work, .ref a0_w, .ref a0_h, .ref a0_state, .ref a0_sum, .ref a0_pad, .ref a0_text, .int (nI v_a0_texts), .ref a0_info, .int (nI v_a0_infos), .ref a0_made, .ref a0_blockKey, .ref a0_nonce, .ref a0_x, .ref a0_first, .ref a0_block, .ref a0_a, .ref a0_r, .ref a0_product, .ref a0_tag, .ref a0_sealed]))] (fun r wo => r = some (.int (nI 0)) ∧ wo = [(a0, .inr (8, [.int (nI 1), .ref a0_tape, .int (nI v_a0_taped), .ref a0_out, .int (nI v_a0_outs), .ref a0_slots, .ref a0_kept, .ref a0_phase, .ref a0_secret, .ref a0_key, .ref a0_hide, .ref a0_iv, .ref a0_begin, .ref a0_each, .ref a0_root, .ref a0_power, .ref a0_work, .ref a0_w, .ref a0_h, .ref a0_state, .ref a0_sum, .ref a0_pad, .ref a0_text, .int (nI v_a0_texts), .ref a0_info, .int (nI v_a0_infos), .ref a0_made, .ref a0_blockKey, .ref a0_nonce, .ref a0_x, .ref a0_first, .ref a0_block, .ref a0_a, .ref a0_r, .ref a0_product, .ref a0_tag, .ref a0_sealed]))]) := by
  refine vM.of (by decide) (Nat.le_of_ble_eq_true rfl) (fun C hCl hCD g R => ?_)
  subst hCl; subst hCD
  show VJ C 0 0 0 [(0, .ref a0), (1, .int p1), (2, .int p2), (3, .int p3)] [] [(a0, .inr (8, [.int (nI v_a0_thrown), .ref a0_tape, .int (nI v_a0_taped), .ref a0_out, .int (nI v_a0_outs), .ref a0_slots, .ref a0_kept, .ref a0_phase, .ref a0_secret, .ref a0_key, .ref a0_hide, .ref a0_iv, .ref a0_begin, .ref a0_each, .ref a0_root, .ref a0_power, .ref a0_work, .ref a0_w, .ref a0_h, .ref a0_state, .ref a0_sum, .ref a0_pad, .ref a0_text, .int (nI v_a0_texts), .ref a0_info, .int (nI v_a0_infos), .ref a0_made, .ref a0_blockKey, .ref a0_nonce, .ref a0_x, .ref a0_first, .ref a0_block, .ref a0_a, .ref a0_r, .ref a0_product, .ref a0_tag, .ref a0_sealed]))]
  refine v_aload_n g dX8_shield_0 0 rfl 0 rfl ?_
  refine v_iload_n g dX8_shield_1 1 rfl 1 rfl ?_
  refine v_iconst g dX8_shield_2 (v := nI 4) (by decide +kernel) ?_
  refine v_callS (As := [.int p1, .int (nI 4)]) (rest := [.ref a0]) (wr := [(a0, .inr (8, [.int (nI v_a0_thrown), .ref a0_tape, .int (nI v_a0_taped), .ref a0_out, .int (nI v_a0_outs), .ref a0_slots, .ref a0_kept, .ref a0_phase, .ref a0_secret, .ref a0_key, .ref a0_hide, .ref a0_iv, .ref a0_begin, .ref a0_each, .ref a0_root, .ref a0_power, .ref a0_work, .ref a0_w, .ref a0_h, .ref a0_state, .ref a0_sum, .ref a0_pad, .ref a0_text, .int (nI v_a0_texts), .ref a0_info, .int (nI v_a0_infos), .ref a0_made, .ref a0_blockKey, .ref a0_nonce, .ref a0_x, .ref a0_first, .ref a0_block, .ref a0_a, .ref a0_r, .ref a0_product, .ref a0_tag, .ref a0_sealed]))]) cw_X8_221 (hy_X8_beyond) g (c_R_bey1 C.l C.D p1 4 h0) dX8_shield_3 rfl (by decide) (by decide) (Nat.le_of_ble_eq_true rfl) [] [0] rfl rfl (by decide) rfl (by decide) (by decide) _ rfl (fun r wo hp1 => ?_)
  obtain ⟨rfl, rfl⟩ := hp1
  show VJ C 0 0 6 [(0, .ref a0), (1, .int p1), (2, .int p2), (3, .int p3)] [.int (nI 1), .ref a0] [(a0, .inr (8, [.int (nI v_a0_thrown), .ref a0_tape, .int (nI v_a0_taped), .ref a0_out, .int (nI v_a0_outs), .ref a0_slots, .ref a0_kept, .ref a0_phase, .ref a0_secret, .ref a0_key, .ref a0_hide, .ref a0_iv, .ref a0_begin, .ref a0_each, .ref a0_root, .ref a0_power, .ref a0_work, .ref a0_w, .ref a0_h, .ref a0_state, .ref a0_sum, .ref a0_pad, .ref a0_text, .int (nI v_a0_texts), .ref a0_info, .int (nI v_a0_infos), .ref a0_made, .ref a0_blockKey, .ref a0_nonce, .ref a0_x, .ref a0_first, .ref a0_block, .ref a0_a, .ref a0_r, .ref a0_product, .ref a0_tag, .ref a0_sealed]))]
  refine v_if_neN g 25 dX8_shield_6 (by decide) (by decide) (fun _ => ?_) (fun h => absurd h (by decide))
  refine v_iconst g dX8_shield_25 (v := nI 1) (by decide +kernel) ?_
  refine v_goto g 30 dX8_shield_26 (by decide) ?_
  refine v_iconst g dX8_shield_30 (v := nI 1) (by decide +kernel) ?_
  refine v_callV (As := [.int (nI 1), .int (nI 1)]) (rest := []) (wr := []) cw_X8_211 (hy_X8_fails) g (c_R_fail1 C.l C.D a0 1 v_a0_thrown a0_tape v_a0_taped a0_out v_a0_outs a0_slots a0_kept a0_phase a0_secret a0_key a0_hide a0_iv a0_begin a0_each a0_root a0_power a0_work a0_w a0_h a0_state a0_sum a0_pad a0_text v_a0_texts a0_info v_a0_infos a0_made a0_blockKey a0_nonce a0_x a0_first a0_block a0_a a0_r a0_product a0_tag a0_sealed ) dX8_shield_31 0 rfl rfl rfl (by decide) (by decide) (Nat.le_of_ble_eq_true rfl) [0] [] rfl rfl (by decide) rfl (by decide) (by decide) _ rfl (fun r wo hp2 => ?_)
  obtain ⟨rfl, rfl⟩ := hp2
  show VJ C 0 0 34 [(0, .ref a0), (1, .int p1), (2, .int p2), (3, .int p3)] [.int (nI 1)] [(a0, .inr (8, [.int (nI 1), .ref a0_tape, .int (nI v_a0_taped), .ref a0_out, .int (nI v_a0_outs), .ref a0_slots, .ref a0_kept, .ref a0_phase, .ref a0_secret, .ref a0_key, .ref a0_hide, .ref a0_iv, .ref a0_begin, .ref a0_each, .ref a0_root, .ref a0_power, .ref a0_work, .ref a0_w, .ref a0_h, .ref a0_state, .ref a0_sum, .ref a0_pad, .ref a0_text, .int (nI v_a0_texts), .ref a0_info, .int (nI v_a0_infos), .ref a0_made, .ref a0_blockKey, .ref a0_nonce, .ref a0_x, .ref a0_first, .ref a0_block, .ref a0_a, .ref a0_r, .ref a0_product, .ref a0_tag, .ref a0_sealed]))]
  refine v_if_neN g 59 dX8_shield_34 (by decide) (by decide) (fun _ => ?_) (fun h => absurd h (by decide))
  refine v_iconst g dX8_shield_59 (v := nI 0) (by decide +kernel) ?_
  exact v_iret g R dX8_shield_60 (by decide) (by decide) ⟨rfl, rfl⟩
set_option maxHeartbeats 4000000 in
set_option maxRecDepth 100000 in
theorem f_shield2 (l : Launch) (D : va_G) (a0 : Nat) (p1 : Nat) (p2 : Int32) (p3 : Int32) (v_a0_thrown : Nat) (a0_tape : Nat) (v_a0_taped : Nat) (a0_out : Nat) (v_a0_outs : Nat) (a0_slots : Nat) (a0_kept : Nat) (a0_phase : Nat) (a0_secret : Nat) (a0_key : Nat) (a0_hide : Nat) (a0_iv : Nat) (a0_begin : Nat) (a0_each : Nat) (a0_root : Nat) (a0_power : Nat) (a0_work : Nat) (a0_w : Nat) (a0_h : Nat) (a0_state : Nat) (a0_sum : Nat) (a0_pad : Nat) (a0_text : Nat) (v_a0_texts : Nat) (a0_info : Nat) (v_a0_infos : Nat) (a0_made : Nat) (a0_blockKey : Nat) (a0_nonce : Nat) (a0_x : Nat) (a0_first : Nat) (a0_block : Nat) (a0_a : Nat) (a0_r : Nat) (a0_product : Nat) (a0_tag : Nat) (a0_sealed : Nat)  (hg1 : p1 < 4) (h0 : p2 < nI 1 ∨ nI v_a0_taped - nI 20 < p2) : vM l D yX8_shield cX8_shield 7 (some .int) { frames := 1, cells := 0, slots := 0, locals := 22 } [.ref a0, .int (nI p1), .int p2, .int p3] [(a0, .inr (8, [.int (nI v_a0_thrown), .ref a0_tape, .int (nI v_a0_taped), .ref a0_out, .int (nI v_a0_outs), .ref a0_slots, .ref a0_kept, .ref a0_phase, .ref a0_secret, .ref a0_key, .ref a0_hide, .ref a0_iv, .ref a0_begin, .ref a0_each, .ref a0_root, .ref a0_power, .ref a0_work, .ref a0_w, .ref a0_h, .ref a0_state, .ref a0_sum, .ref a0_pad, .ref a0_text, .int (nI v_a0_texts), .ref a0_info, .int (nI v_a0_infos), .ref a0_made, .ref a0_blockKey, .ref a0_nonce, .ref a0_x, .ref a0_first, .ref a0_block, .ref a0_a, .ref a0_r, .ref a0_product, .ref a0_tag, .ref a0_sealed]))] (fun r wo => r = some (.int (nI 0)) ∧ wo = [(a0, .inr (8, [.int (nI 1), .ref a0_tape, .int (nI v_a0_taped), .ref a0_out, .int (nI v_a0_outs), .ref a0_slots, .ref a0_kept, .ref a0_phase, .ref a0_secret, .ref a0_key, .ref a0_hide, .ref a0_iv, .ref a0_begin, .ref a0_each, .ref a0_root, .ref a0_power, .ref a0_work, .ref a0_w, .ref a0_h, .ref a0_state, .ref a0_sum, .ref a0_pad, .ref a0_text, .int (nI v_a0_texts), .ref a0_info, .int (nI v_a0_infos), .ref a0_made, .ref a0_blockKey, .ref a0_nonce, .ref a0_x, .ref a0_first, .ref a0_block, .ref a0_a, .ref a0_r, .ref a0_product, .ref a0_tag, .ref a0_sealed]))]) := by
  refine vM.of (by decide) (Nat.le_of_ble_eq_true rfl) (fun C hCl hCD g R => ?_)
  subst hCl; subst hCD
  show VJ C 0 0 0 [(0, .ref a0), (1, .int (nI p1)), (2, .int p2), (3, .int p3)] [] [(a0, .inr (8, [.int (nI v_a0_thrown), .ref a0_tape, .int (nI v_a0_taped), .ref a0_out, .int (nI v_a0_outs), .ref a0_slots, .ref a0_kept, .ref a0_phase, .ref a0_secret, .ref a0_key, .ref a0_hide, .ref a0_iv, .ref a0_begin, .ref a0_each, .ref a0_root, .ref a0_power, .ref a0_work, .ref a0_w, .ref a0_h, .ref a0_state, .ref a0_sum, .ref a0_pad, .ref a0_text, .int (nI v_a0_texts), .ref a0_info, .int (nI v_a0_infos), .ref a0_made, .ref a0_blockKey, .ref a0_nonce, .ref a0_x, .ref a0_first, .ref a0_block, .ref a0_a, .ref a0_r, .ref a0_product, .ref a0_tag, .ref a0_sealed]))]
  refine v_aload_n g dX8_shield_0 0 rfl 0 rfl ?_
  refine v_iload_n g dX8_shield_1 1 rfl 1 rfl ?_
  refine v_iconst g dX8_shield_2 (v := nI 4) (by decide +kernel) ?_
  refine v_callS (As := [.int (nI p1), .int (nI 4)]) (rest := [.ref a0]) (wr := [(a0, .inr (8, [.int (nI v_a0_thrown), .ref a0_tape, .int (nI v_a0_taped), .ref a0_out, .int (nI v_a0_outs), .ref a0_slots, .ref a0_kept, .ref a0_phase, .ref a0_secret, .ref a0_key, .ref a0_hide, .ref a0_iv, .ref a0_begin, .ref a0_each, .ref a0_root, .ref a0_power, .ref a0_work, .ref a0_w, .ref a0_h, .ref a0_state, .ref a0_sum, .ref a0_pad, .ref a0_text, .int (nI v_a0_texts), .ref a0_info, .int (nI v_a0_infos), .ref a0_made, .ref a0_blockKey, .ref a0_nonce, .ref a0_x, .ref a0_first, .ref a0_block, .ref a0_a, .ref a0_r, .ref a0_product, .ref a0_tag, .ref a0_sealed]))]) cw_X8_221 (hy_X8_beyond) g (c_R_bey0 C.l C.D p1 4 (by omega) (by omega)) dX8_shield_3 rfl (by decide) (by decide) (Nat.le_of_ble_eq_true rfl) [] [0] rfl rfl (by decide) rfl (by decide) (by decide) _ rfl (fun r wo hp1 => ?_)
  obtain ⟨rfl, rfl⟩ := hp1
  show VJ C 0 0 6 [(0, .ref a0), (1, .int (nI p1)), (2, .int p2), (3, .int p3)] [.int (nI 0), .ref a0] [(a0, .inr (8, [.int (nI v_a0_thrown), .ref a0_tape, .int (nI v_a0_taped), .ref a0_out, .int (nI v_a0_outs), .ref a0_slots, .ref a0_kept, .ref a0_phase, .ref a0_secret, .ref a0_key, .ref a0_hide, .ref a0_iv, .ref a0_begin, .ref a0_each, .ref a0_root, .ref a0_power, .ref a0_work, .ref a0_w, .ref a0_h, .ref a0_state, .ref a0_sum, .ref a0_pad, .ref a0_text, .int (nI v_a0_texts), .ref a0_info, .int (nI v_a0_infos), .ref a0_made, .ref a0_blockKey, .ref a0_nonce, .ref a0_x, .ref a0_first, .ref a0_block, .ref a0_a, .ref a0_r, .ref a0_product, .ref a0_tag, .ref a0_sealed]))]
  refine v_if_neN g 25 dX8_shield_6 (by decide) (by decide) (fun h => absurd h (by decide)) (fun _ => ?_)
  refine v_iload_n g dX8_shield_9 2 rfl 2 rfl ?_
  refine v_iconst g dX8_shield_10 (v := nI 1) (by decide +kernel) ?_
  refine v_icmp_lt g 25 dX8_shield_11 (by decide) (fun h2 => ?_) (fun h2 => ?_)
  · skip
    refine v_iconst g dX8_shield_25 (v := nI 1) (by decide +kernel) ?_
    refine v_goto g 30 dX8_shield_26 (by decide) ?_
    refine v_iconst g dX8_shield_30 (v := nI 1) (by decide +kernel) ?_
    refine v_callV (As := [.int (nI 1), .int (nI 1)]) (rest := []) (wr := []) cw_X8_211 (hy_X8_fails) g (c_R_fail1 C.l C.D a0 1 v_a0_thrown a0_tape v_a0_taped a0_out v_a0_outs a0_slots a0_kept a0_phase a0_secret a0_key a0_hide a0_iv a0_begin a0_each a0_root a0_power a0_work a0_w a0_h a0_state a0_sum a0_pad a0_text v_a0_texts a0_info v_a0_infos a0_made a0_blockKey a0_nonce a0_x a0_first a0_block a0_a a0_r a0_product a0_tag a0_sealed ) dX8_shield_31 0 rfl rfl rfl (by decide) (by decide) (Nat.le_of_ble_eq_true rfl) [0] [] rfl rfl (by decide) rfl (by decide) (by decide) _ rfl (fun r wo hp3 => ?_)
    obtain ⟨rfl, rfl⟩ := hp3
    show VJ C 0 0 34 [(0, .ref a0), (1, .int (nI p1)), (2, .int p2), (3, .int p3)] [.int (nI 1)] [(a0, .inr (8, [.int (nI 1), .ref a0_tape, .int (nI v_a0_taped), .ref a0_out, .int (nI v_a0_outs), .ref a0_slots, .ref a0_kept, .ref a0_phase, .ref a0_secret, .ref a0_key, .ref a0_hide, .ref a0_iv, .ref a0_begin, .ref a0_each, .ref a0_root, .ref a0_power, .ref a0_work, .ref a0_w, .ref a0_h, .ref a0_state, .ref a0_sum, .ref a0_pad, .ref a0_text, .int (nI v_a0_texts), .ref a0_info, .int (nI v_a0_infos), .ref a0_made, .ref a0_blockKey, .ref a0_nonce, .ref a0_x, .ref a0_first, .ref a0_block, .ref a0_a, .ref a0_r, .ref a0_product, .ref a0_tag, .ref a0_sealed]))]
    refine v_if_neN g 59 dX8_shield_34 (by decide) (by decide) (fun _ => ?_) (fun h => absurd h (by decide))
    refine v_iconst g dX8_shield_59 (v := nI 0) (by decide +kernel) ?_
    exact v_iret g R dX8_shield_60 (by decide) (by decide) ⟨rfl, rfl⟩
  · skip
    refine v_iload_n g dX8_shield_14 2 rfl 2 rfl ?_
    refine v_aload_n g dX8_shield_15 0 rfl 0 rfl ?_
    refine gf_X8_215 g dX8_shield_16 0 rfl rfl ?_
    refine v_bipush g dX8_shield_19 (v := nI 20) (by decide +kernel) ?_
    refine v_isub g dX8_shield_21 ?_
    refine v_icmp_le g 29 dX8_shield_22 (by decide) (fun h4 => ?_) (fun h4 => ?_)
    · skip
      exact absurd h4 (h0.elim (fun q => absurd q h2) i_lt_nle)
    · skip
      refine v_iconst g dX8_shield_25 (v := nI 1) (by decide +kernel) ?_
      refine v_goto g 30 dX8_shield_26 (by decide) ?_
      refine v_iconst g dX8_shield_30 (v := nI 1) (by decide +kernel) ?_
      refine v_callV (As := [.int (nI 1), .int (nI 1)]) (rest := []) (wr := []) cw_X8_211 (hy_X8_fails) g (c_R_fail1 C.l C.D a0 1 v_a0_thrown a0_tape v_a0_taped a0_out v_a0_outs a0_slots a0_kept a0_phase a0_secret a0_key a0_hide a0_iv a0_begin a0_each a0_root a0_power a0_work a0_w a0_h a0_state a0_sum a0_pad a0_text v_a0_texts a0_info v_a0_infos a0_made a0_blockKey a0_nonce a0_x a0_first a0_block a0_a a0_r a0_product a0_tag a0_sealed ) dX8_shield_31 0 rfl rfl rfl (by decide) (by decide) (Nat.le_of_ble_eq_true rfl) [0] [] rfl rfl (by decide) rfl (by decide) (by decide) _ rfl (fun r wo hp5 => ?_)
      obtain ⟨rfl, rfl⟩ := hp5
      show VJ C 0 0 34 [(0, .ref a0), (1, .int (nI p1)), (2, .int p2), (3, .int p3)] [.int (nI 1)] [(a0, .inr (8, [.int (nI 1), .ref a0_tape, .int (nI v_a0_taped), .ref a0_out, .int (nI v_a0_outs), .ref a0_slots, .ref a0_kept, .ref a0_phase, .ref a0_secret, .ref a0_key, .ref a0_hide, .ref a0_iv, .ref a0_begin, .ref a0_each, .ref a0_root, .ref a0_power, .ref a0_work, .ref a0_w, .ref a0_h, .ref a0_state, .ref a0_sum, .ref a0_pad, .ref a0_text, .int (nI v_a0_texts), .ref a0_info, .int (nI v_a0_infos), .ref a0_made, .ref a0_blockKey, .ref a0_nonce, .ref a0_x, .ref a0_first, .ref a0_block, .ref a0_a, .ref a0_r, .ref a0_product, .ref a0_tag, .ref a0_sealed]))]
      refine v_if_neN g 59 dX8_shield_34 (by decide) (by decide) (fun _ => ?_) (fun h => absurd h (by decide))
      refine v_iconst g dX8_shield_59 (v := nI 0) (by decide +kernel) ?_
      exact v_iret g R dX8_shield_60 (by decide) (by decide) ⟨rfl, rfl⟩
set_option maxHeartbeats 4000000 in
set_option maxRecDepth 100000 in
theorem f_shield3 (l : Launch) (D : va_G) (a0 : Nat) (p1 : Nat) (p2 : Nat) (p3 : Int32) (v_a0_thrown : Nat) (a0_tape : Nat) (v_a0_taped : Nat) (a0_out : Nat) (v_a0_outs : Nat) (a0_slots : Nat) (a0_kept : Nat) (a0_phase : Nat) (a0_secret : Nat) (a0_key : Nat) (a0_hide : Nat) (a0_iv : Nat) (a0_begin : Nat) (a0_each : Nat) (a0_root : Nat) (a0_power : Nat) (a0_work : Nat) (a0_w : Nat) (a0_h : Nat) (a0_state : Nat) (a0_sum : Nat) (a0_pad : Nat) (a0_text : Nat) (v_a0_texts : Nat) (a0_info : Nat) (v_a0_infos : Nat) (a0_made : Nat) (a0_blockKey : Nat) (a0_nonce : Nat) (a0_x : Nat) (a0_first : Nat) (a0_block : Nat) (a0_a : Nat) (a0_r : Nat) (a0_product : Nat) (a0_tag : Nat) (a0_sealed : Nat) (t_a0_phase : Nat → Wd)  (hg1 : p1 < 4) (hT : v_a0_taped ≤ 2048) (h2 : 1 ≤ p2) (h3 : p2 + 20 ≤ v_a0_taped) (h1 : wI (t_a0_phase p1) < 0) : vM l D yX8_shield cX8_shield 7 (some .int) { frames := 1, cells := 0, slots := 0, locals := 22 } [.ref a0, .int (nI p1), .int (nI p2), .int p3] [(a0, .inr (8, [.int (nI v_a0_thrown), .ref a0_tape, .int (nI v_a0_taped), .ref a0_out, .int (nI v_a0_outs), .ref a0_slots, .ref a0_kept, .ref a0_phase, .ref a0_secret, .ref a0_key, .ref a0_hide, .ref a0_iv, .ref a0_begin, .ref a0_each, .ref a0_root, .ref a0_power, .ref a0_work, .ref a0_w, .ref a0_h, .ref a0_state, .ref a0_sum, .ref a0_pad, .ref a0_text, .int (nI v_a0_texts), .ref a0_info, .int (nI v_a0_infos), .ref a0_made, .ref a0_blockKey, .ref a0_nonce, .ref a0_x, .ref a0_first, .ref a0_block, .ref a0_a, .ref a0_r, .ref a0_product, .ref a0_tag, .ref a0_sealed])), (a0_phase, aW D 4 t_a0_phase)] (fun r wo => r = some (.int (nI 0)) ∧ wo = [(a0, .inr (8, [.int (nI 2), .ref a0_tape, .int (nI v_a0_taped), .ref a0_out, .int (nI v_a0_outs), .ref a0_slots, .ref a0_kept, .ref a0_phase, .ref a0_secret, .ref a0_key, .ref a0_hide, .ref a0_iv, .ref a0_begin, .ref a0_each, .ref a0_root, .ref a0_power, .ref a0_work, .ref a0_w, .ref a0_h, .ref a0_state, .ref a0_sum, .ref a0_pad, .ref a0_text, .int (nI v_a0_texts), .ref a0_info, .int (nI v_a0_infos), .ref a0_made, .ref a0_blockKey, .ref a0_nonce, .ref a0_x, .ref a0_first, .ref a0_block, .ref a0_a, .ref a0_r, .ref a0_product, .ref a0_tag, .ref a0_sealed])), (a0_phase, aW D 4 t_a0_phase)]) := by
  refine vM.of (by decide) (Nat.le_of_ble_eq_true rfl) (fun C hCl hCD g R => ?_)
  subst hCl; subst hCD
  show VJ C 0 0 0 [(0, .ref a0), (1, .int (nI p1)), (2, .int (nI p2)), (3, .int p3)] [] [(a0, .inr (8, [.int (nI v_a0_thrown), .ref a0_tape, .int (nI v_a0_taped), .ref a0_out, .int (nI v_a0_outs), .ref a0_slots, .ref a0_kept, .ref a0_phase, .ref a0_secret, .ref a0_key, .ref a0_hide, .ref a0_iv, .ref a0_begin, .ref a0_each, .ref a0_root, .ref a0_power, .ref a0_work, .ref a0_w, .ref a0_h, .ref a0_state, .ref a0_sum, .ref a0_pad, .ref a0_text, .int (nI v_a0_texts), .ref a0_info, .int (nI v_a0_infos), .ref a0_made, .ref a0_blockKey, .ref a0_nonce, .ref a0_x, .ref a0_first, .ref a0_block, .ref a0_a, .ref a0_r, .ref a0_product, .ref a0_tag, .ref a0_sealed])), (a0_phase, aW C.D 4 t_a0_phase)]
  refine v_aload_n g dX8_shield_0 0 rfl 0 rfl ?_
  refine v_iload_n g dX8_shield_1 1 rfl 1 rfl ?_
  refine v_iconst g dX8_shield_2 (v := nI 4) (by decide +kernel) ?_
  refine v_callS (As := [.int (nI p1), .int (nI 4)]) (rest := [.ref a0]) (wr := [(a0, .inr (8, [.int (nI v_a0_thrown), .ref a0_tape, .int (nI v_a0_taped), .ref a0_out, .int (nI v_a0_outs), .ref a0_slots, .ref a0_kept, .ref a0_phase, .ref a0_secret, .ref a0_key, .ref a0_hide, .ref a0_iv, .ref a0_begin, .ref a0_each, .ref a0_root, .ref a0_power, .ref a0_work, .ref a0_w, .ref a0_h, .ref a0_state, .ref a0_sum, .ref a0_pad, .ref a0_text, .int (nI v_a0_texts), .ref a0_info, .int (nI v_a0_infos), .ref a0_made, .ref a0_blockKey, .ref a0_nonce, .ref a0_x, .ref a0_first, .ref a0_block, .ref a0_a, .ref a0_r, .ref a0_product, .ref a0_tag, .ref a0_sealed])), (a0_phase, aW C.D 4 t_a0_phase)]) cw_X8_221 (hy_X8_beyond) g (c_R_bey0 C.l C.D p1 4 (by omega) (by omega)) dX8_shield_3 rfl (by decide) (by decide) (Nat.le_of_ble_eq_true rfl) [] [0, 1] rfl rfl (by decide) rfl (by decide) (by decide) _ rfl (fun r wo hp1 => ?_)
  obtain ⟨rfl, rfl⟩ := hp1
  show VJ C 0 0 6 [(0, .ref a0), (1, .int (nI p1)), (2, .int (nI p2)), (3, .int p3)] [.int (nI 0), .ref a0] [(a0, .inr (8, [.int (nI v_a0_thrown), .ref a0_tape, .int (nI v_a0_taped), .ref a0_out, .int (nI v_a0_outs), .ref a0_slots, .ref a0_kept, .ref a0_phase, .ref a0_secret, .ref a0_key, .ref a0_hide, .ref a0_iv, .ref a0_begin, .ref a0_each, .ref a0_root, .ref a0_power, .ref a0_work, .ref a0_w, .ref a0_h, .ref a0_state, .ref a0_sum, .ref a0_pad, .ref a0_text, .int (nI v_a0_texts), .ref a0_info, .int (nI v_a0_infos), .ref a0_made, .ref a0_blockKey, .ref a0_nonce, .ref a0_x, .ref a0_first, .ref a0_block, .ref a0_a, .ref a0_r, .ref a0_product, .ref a0_tag, .ref a0_sealed])), (a0_phase, aW C.D 4 t_a0_phase)]
  refine v_if_neN g 25 dX8_shield_6 (by decide) (by decide) (fun h => absurd h (by decide)) (fun _ => ?_)
  refine v_iload_n g dX8_shield_9 2 rfl 2 rfl ?_
  refine v_iconst g dX8_shield_10 (v := nI 1) (by decide +kernel) ?_
  refine v_icmp_ltN g 25 dX8_shield_11 (by decide) (by omega) (by omega) (fun h => absurd h (by omega)) (fun _ => ?_)
  refine v_iload_n g dX8_shield_14 2 rfl 2 rfl ?_
  refine v_aload_n g dX8_shield_15 0 rfl 0 rfl ?_
  refine gf_X8_215 g dX8_shield_16 0 rfl rfl ?_
  refine v_bipush g dX8_shield_19 (v := nI 20) (by decide +kernel) ?_
  refine v_isubN g dX8_shield_21 (by omega) ?_
  refine v_icmp_leN g 29 dX8_shield_22 (by decide) (by omega) (by omega) (fun _ => ?_) (fun h => absurd h (by omega))
  refine v_iconst g dX8_shield_29 (v := nI 0) (by decide +kernel) ?_
  refine v_iconst g dX8_shield_30 (v := nI 1) (by decide +kernel) ?_
  refine v_callV (As := [.int (nI 0), .int (nI 1)]) (rest := []) (wr := [(a0_phase, aW C.D 4 t_a0_phase)]) cw_X8_211 (hy_X8_fails) g (c_R_fail0 C.l C.D a0 1 v_a0_thrown a0_tape v_a0_taped a0_out v_a0_outs a0_slots a0_kept a0_phase a0_secret a0_key a0_hide a0_iv a0_begin a0_each a0_root a0_power a0_work a0_w a0_h a0_state a0_sum a0_pad a0_text v_a0_texts a0_info v_a0_infos a0_made a0_blockKey a0_nonce a0_x a0_first a0_block a0_a a0_r a0_product a0_tag a0_sealed ) dX8_shield_31 0 rfl rfl rfl (by decide) (by decide) (Nat.le_of_ble_eq_true rfl) [0] [1] rfl rfl (by decide) rfl (by decide) (by decide) _ rfl (fun r wo hp2 => ?_)
  obtain ⟨rfl, rfl⟩ := hp2
  refine v_perm [1, 0] [(a0, .inr (8, [.int (nI 0), .ref a0_tape, .int (nI v_a0_taped), .ref a0_out, .int (nI v_a0_outs), .ref a0_slots, .ref a0_kept, .ref a0_phase, .ref a0_secret, .ref a0_key, .ref a0_hide, .ref a0_iv, .ref a0_begin, .ref a0_each, .ref a0_root, .ref a0_power, .ref a0_work, .ref a0_w, .ref a0_h, .ref a0_state, .ref a0_sum, .ref a0_pad, .ref a0_text, .int (nI v_a0_texts), .ref a0_info, .int (nI v_a0_infos), .ref a0_made, .ref a0_blockKey, .ref a0_nonce, .ref a0_x, .ref a0_first, .ref a0_block, .ref a0_a, .ref a0_r, .ref a0_product, .ref a0_tag, .ref a0_sealed])), (a0_phase, aW C.D 4 t_a0_phase)] (by decide) rfl rfl ?_
  show VJ C 0 0 34 [(0, .ref a0), (1, .int (nI p1)), (2, .int (nI p2)), (3, .int p3)] [.int (nI 0)] [(a0, .inr (8, [.int (nI 0), .ref a0_tape, .int (nI v_a0_taped), .ref a0_out, .int (nI v_a0_outs), .ref a0_slots, .ref a0_kept, .ref a0_phase, .ref a0_secret, .ref a0_key, .ref a0_hide, .ref a0_iv, .ref a0_begin, .ref a0_each, .ref a0_root, .ref a0_power, .ref a0_work, .ref a0_w, .ref a0_h, .ref a0_state, .ref a0_sum, .ref a0_pad, .ref a0_text, .int (nI v_a0_texts), .ref a0_info, .int (nI v_a0_infos), .ref a0_made, .ref a0_blockKey, .ref a0_nonce, .ref a0_x, .ref a0_first, .ref a0_block, .ref a0_a, .ref a0_r, .ref a0_product, .ref a0_tag, .ref a0_sealed])), (a0_phase, aW C.D 4 t_a0_phase)]
  refine v_if_neN g 59 dX8_shield_34 (by decide) (by decide) (fun h => absurd h (by decide)) (fun _ => ?_)
  refine v_aload_n g dX8_shield_37 0 rfl 0 rfl ?_
  refine v_aload_n g dX8_shield_38 0 rfl 0 rfl ?_
  refine gf_X8_22 g dX8_shield_39 0 rfl rfl ?_
  refine v_iload_n g dX8_shield_42 1 rfl 1 rfl ?_
  refine v_ialdW g 1 rfl (by omega) (by decide) dX8_shield_43 ?_
  refine v_if_ge g 51 dX8_shield_44 (by decide) (fun h => absurd h1 (Int32.not_lt.mpr h)) (fun _ => ?_)
  refine v_iconst g dX8_shield_47 (v := nI 1) (by decide +kernel) ?_
  refine v_goto g 52 dX8_shield_48 (by decide) ?_
  refine v_iconst g dX8_shield_52 (v := nI 2) (by decide +kernel) ?_
  refine v_callV (As := [.int (nI 1), .int (nI 2)]) (rest := []) (wr := [(a0_phase, aW C.D 4 t_a0_phase)]) cw_X8_211 (hy_X8_fails) g (c_R_fail1 C.l C.D a0 2 0 a0_tape v_a0_taped a0_out v_a0_outs a0_slots a0_kept a0_phase a0_secret a0_key a0_hide a0_iv a0_begin a0_each a0_root a0_power a0_work a0_w a0_h a0_state a0_sum a0_pad a0_text v_a0_texts a0_info v_a0_infos a0_made a0_blockKey a0_nonce a0_x a0_first a0_block a0_a a0_r a0_product a0_tag a0_sealed ) dX8_shield_53 0 rfl rfl rfl (by decide) (by decide) (Nat.le_of_ble_eq_true rfl) [0] [1] rfl rfl (by decide) rfl (by decide) (by decide) _ rfl (fun r wo hp3 => ?_)
  obtain ⟨rfl, rfl⟩ := hp3
  refine v_perm [1, 0] [(a0, .inr (8, [.int (nI 2), .ref a0_tape, .int (nI v_a0_taped), .ref a0_out, .int (nI v_a0_outs), .ref a0_slots, .ref a0_kept, .ref a0_phase, .ref a0_secret, .ref a0_key, .ref a0_hide, .ref a0_iv, .ref a0_begin, .ref a0_each, .ref a0_root, .ref a0_power, .ref a0_work, .ref a0_w, .ref a0_h, .ref a0_state, .ref a0_sum, .ref a0_pad, .ref a0_text, .int (nI v_a0_texts), .ref a0_info, .int (nI v_a0_infos), .ref a0_made, .ref a0_blockKey, .ref a0_nonce, .ref a0_x, .ref a0_first, .ref a0_block, .ref a0_a, .ref a0_r, .ref a0_product, .ref a0_tag, .ref a0_sealed])), (a0_phase, aW C.D 4 t_a0_phase)] (by decide) rfl rfl ?_
  show VJ C 0 0 56 [(0, .ref a0), (1, .int (nI p1)), (2, .int (nI p2)), (3, .int p3)] [.int (nI 1)] [(a0, .inr (8, [.int (nI 2), .ref a0_tape, .int (nI v_a0_taped), .ref a0_out, .int (nI v_a0_outs), .ref a0_slots, .ref a0_kept, .ref a0_phase, .ref a0_secret, .ref a0_key, .ref a0_hide, .ref a0_iv, .ref a0_begin, .ref a0_each, .ref a0_root, .ref a0_power, .ref a0_work, .ref a0_w, .ref a0_h, .ref a0_state, .ref a0_sum, .ref a0_pad, .ref a0_text, .int (nI v_a0_texts), .ref a0_info, .int (nI v_a0_infos), .ref a0_made, .ref a0_blockKey, .ref a0_nonce, .ref a0_x, .ref a0_first, .ref a0_block, .ref a0_a, .ref a0_r, .ref a0_product, .ref a0_tag, .ref a0_sealed])), (a0_phase, aW C.D 4 t_a0_phase)]
  refine v_if_eqN g 61 dX8_shield_56 (by decide) (by decide) (fun h => absurd h (by decide)) (fun _ => ?_)
  refine v_iconst g dX8_shield_59 (v := nI 0) (by decide +kernel) ?_
  exact v_iret g R dX8_shield_60 (by decide) (by decide) ⟨rfl, rfl⟩
set_option maxHeartbeats 4000000 in
set_option maxRecDepth 100000 in
theorem m_out (l : Launch) (D : va_G) (a0 : Nat) (p1 : Nat) (v_a0_thrown : Nat) (a0_tape : Nat) (v_a0_taped : Nat) (a0_out : Nat) (v_a0_outs : Nat) (a0_slots : Nat) (a0_kept : Nat) (a0_phase : Nat) (a0_secret : Nat) (a0_key : Nat) (a0_hide : Nat) (a0_iv : Nat) (a0_begin : Nat) (a0_each : Nat) (a0_root : Nat) (a0_power : Nat) (a0_work : Nat) (a0_w : Nat) (a0_h : Nat) (a0_state : Nat) (a0_sum : Nat) (a0_pad : Nat) (a0_text : Nat) (v_a0_texts : Nat) (a0_info : Nat) (v_a0_infos : Nat) (a0_made : Nat) (a0_blockKey : Nat) (a0_nonce : Nat) (a0_x : Nat) (a0_first : Nat) (a0_block : Nat) (a0_a : Nat) (a0_r : Nat) (a0_product : Nat) (a0_tag : Nat) (a0_sealed : Nat) (t_a0_out : Nat → By)  (hO : v_a0_outs ≤ 2064) (h1 : p1 < v_a0_outs) : vM l D yX8_out cX8_out 2 (some .int) { frames := 1, cells := 0, slots := 0, locals := 22 } [.ref a0, .int (nI p1)] [(a0, .inr (8, [.int (nI v_a0_thrown), .ref a0_tape, .int (nI v_a0_taped), .ref a0_out, .int (nI v_a0_outs), .ref a0_slots, .ref a0_kept, .ref a0_phase, .ref a0_secret, .ref a0_key, .ref a0_hide, .ref a0_iv, .ref a0_begin, .ref a0_each, .ref a0_root, .ref a0_power, .ref a0_work, .ref a0_w, .ref a0_h, .ref a0_state, .ref a0_sum, .ref a0_pad, .ref a0_text, .int (nI v_a0_texts), .ref a0_info, .int (nI v_a0_infos), .ref a0_made, .ref a0_blockKey, .ref a0_nonce, .ref a0_x, .ref a0_first, .ref a0_block, .ref a0_a, .ref a0_r, .ref a0_product, .ref a0_tag, .ref a0_sealed])), (a0_out, aY D 2064 t_a0_out)] (fun r wo => r = some (.int (nI ((t_a0_out p1).toNat))) ∧ wo = [(a0, .inr (8, [.int (nI 0), .ref a0_tape, .int (nI v_a0_taped), .ref a0_out, .int (nI v_a0_outs), .ref a0_slots, .ref a0_kept, .ref a0_phase, .ref a0_secret, .ref a0_key, .ref a0_hide, .ref a0_iv, .ref a0_begin, .ref a0_each, .ref a0_root, .ref a0_power, .ref a0_work, .ref a0_w, .ref a0_h, .ref a0_state, .ref a0_sum, .ref a0_pad, .ref a0_text, .int (nI v_a0_texts), .ref a0_info, .int (nI v_a0_infos), .ref a0_made, .ref a0_blockKey, .ref a0_nonce, .ref a0_x, .ref a0_first, .ref a0_block, .ref a0_a, .ref a0_r, .ref a0_product, .ref a0_tag, .ref a0_sealed])), (a0_out, aY D 2064 t_a0_out)]) := by
  refine vM.of (by decide) (Nat.le_of_ble_eq_true rfl) (fun C hCl hCD g R => ?_)
  subst hCl; subst hCD
  show VJ C 0 0 0 [(0, .ref a0), (1, .int (nI p1))] [] [(a0, .inr (8, [.int (nI v_a0_thrown), .ref a0_tape, .int (nI v_a0_taped), .ref a0_out, .int (nI v_a0_outs), .ref a0_slots, .ref a0_kept, .ref a0_phase, .ref a0_secret, .ref a0_key, .ref a0_hide, .ref a0_iv, .ref a0_begin, .ref a0_each, .ref a0_root, .ref a0_power, .ref a0_work, .ref a0_w, .ref a0_h, .ref a0_state, .ref a0_sum, .ref a0_pad, .ref a0_text, .int (nI v_a0_texts), .ref a0_info, .int (nI v_a0_infos), .ref a0_made, .ref a0_blockKey, .ref a0_nonce, .ref a0_x, .ref a0_first, .ref a0_block, .ref a0_a, .ref a0_r, .ref a0_product, .ref a0_tag, .ref a0_sealed])), (a0_out, aY C.D 2064 t_a0_out)]
  refine v_aload_n g dX8_out_0 0 rfl 0 rfl ?_
  refine v_iload_n g dX8_out_1 1 rfl 1 rfl ?_
  refine v_aload_n g dX8_out_2 0 rfl 0 rfl ?_
  refine gf_X8_218 g dX8_out_3 0 rfl rfl ?_
  refine v_callS (As := [.int (nI p1), .int (nI v_a0_outs)]) (rest := [.ref a0]) (wr := [(a0, .inr (8, [.int (nI v_a0_thrown), .ref a0_tape, .int (nI v_a0_taped), .ref a0_out, .int (nI v_a0_outs), .ref a0_slots, .ref a0_kept, .ref a0_phase, .ref a0_secret, .ref a0_key, .ref a0_hide, .ref a0_iv, .ref a0_begin, .ref a0_each, .ref a0_root, .ref a0_power, .ref a0_work, .ref a0_w, .ref a0_h, .ref a0_state, .ref a0_sum, .ref a0_pad, .ref a0_text, .int (nI v_a0_texts), .ref a0_info, .int (nI v_a0_infos), .ref a0_made, .ref a0_blockKey, .ref a0_nonce, .ref a0_x, .ref a0_first, .ref a0_block, .ref a0_a, .ref a0_r, .ref a0_product, .ref a0_tag, .ref a0_sealed])), (a0_out, aY C.D 2064 t_a0_out)]) cw_X8_221 (hy_X8_beyond) g (c_R_bey0 C.l C.D p1 v_a0_outs (by omega) (by omega)) dX8_out_6 rfl (by decide) (by decide) (Nat.le_of_ble_eq_true rfl) [] [0, 1] rfl rfl (by decide) rfl (by decide) (by decide) _ rfl (fun r wo hp1 => ?_)
  obtain ⟨rfl, rfl⟩ := hp1
  show VJ C 0 0 9 [(0, .ref a0), (1, .int (nI p1))] [.int (nI 0), .ref a0] [(a0, .inr (8, [.int (nI v_a0_thrown), .ref a0_tape, .int (nI v_a0_taped), .ref a0_out, .int (nI v_a0_outs), .ref a0_slots, .ref a0_kept, .ref a0_phase, .ref a0_secret, .ref a0_key, .ref a0_hide, .ref a0_iv, .ref a0_begin, .ref a0_each, .ref a0_root, .ref a0_power, .ref a0_work, .ref a0_w, .ref a0_h, .ref a0_state, .ref a0_sum, .ref a0_pad, .ref a0_text, .int (nI v_a0_texts), .ref a0_info, .int (nI v_a0_infos), .ref a0_made, .ref a0_blockKey, .ref a0_nonce, .ref a0_x, .ref a0_first, .ref a0_block, .ref a0_a, .ref a0_r, .ref a0_product, .ref a0_tag, .ref a0_sealed])), (a0_out, aY C.D 2064 t_a0_out)]
  refine v_iconst g dX8_out_9 (v := nI 1) (by decide +kernel) ?_
  refine v_callV (As := [.int (nI 0), .int (nI 1)]) (rest := []) (wr := [(a0_out, aY C.D 2064 t_a0_out)]) cw_X8_211 (hy_X8_fails) g (c_R_fail0 C.l C.D a0 1 v_a0_thrown a0_tape v_a0_taped a0_out v_a0_outs a0_slots a0_kept a0_phase a0_secret a0_key a0_hide a0_iv a0_begin a0_each a0_root a0_power a0_work a0_w a0_h a0_state a0_sum a0_pad a0_text v_a0_texts a0_info v_a0_infos a0_made a0_blockKey a0_nonce a0_x a0_first a0_block a0_a a0_r a0_product a0_tag a0_sealed ) dX8_out_10 0 rfl rfl rfl (by decide) (by decide) (Nat.le_of_ble_eq_true rfl) [0] [1] rfl rfl (by decide) rfl (by decide) (by decide) _ rfl (fun r wo hp2 => ?_)
  obtain ⟨rfl, rfl⟩ := hp2
  refine v_perm [1, 0] [(a0, .inr (8, [.int (nI 0), .ref a0_tape, .int (nI v_a0_taped), .ref a0_out, .int (nI v_a0_outs), .ref a0_slots, .ref a0_kept, .ref a0_phase, .ref a0_secret, .ref a0_key, .ref a0_hide, .ref a0_iv, .ref a0_begin, .ref a0_each, .ref a0_root, .ref a0_power, .ref a0_work, .ref a0_w, .ref a0_h, .ref a0_state, .ref a0_sum, .ref a0_pad, .ref a0_text, .int (nI v_a0_texts), .ref a0_info, .int (nI v_a0_infos), .ref a0_made, .ref a0_blockKey, .ref a0_nonce, .ref a0_x, .ref a0_first, .ref a0_block, .ref a0_a, .ref a0_r, .ref a0_product, .ref a0_tag, .ref a0_sealed])), (a0_out, aY C.D 2064 t_a0_out)] (by decide) rfl rfl ?_
  show VJ C 0 0 13 [(0, .ref a0), (1, .int (nI p1))] [.int (nI 0)] [(a0, .inr (8, [.int (nI 0), .ref a0_tape, .int (nI v_a0_taped), .ref a0_out, .int (nI v_a0_outs), .ref a0_slots, .ref a0_kept, .ref a0_phase, .ref a0_secret, .ref a0_key, .ref a0_hide, .ref a0_iv, .ref a0_begin, .ref a0_each, .ref a0_root, .ref a0_power, .ref a0_work, .ref a0_w, .ref a0_h, .ref a0_state, .ref a0_sum, .ref a0_pad, .ref a0_text, .int (nI v_a0_texts), .ref a0_info, .int (nI v_a0_infos), .ref a0_made, .ref a0_blockKey, .ref a0_nonce, .ref a0_x, .ref a0_first, .ref a0_block, .ref a0_a, .ref a0_r, .ref a0_product, .ref a0_tag, .ref a0_sealed])), (a0_out, aY C.D 2064 t_a0_out)]
  refine v_if_eqN g 20 dX8_out_13 (by decide) (by decide) (fun _ => ?_) (fun h => absurd h (by decide))
  refine v_aload_n g dX8_out_20 0 rfl 0 rfl ?_
  refine gf_X8_13 g dX8_out_21 0 rfl rfl ?_
  refine v_iload_n g dX8_out_24 1 rfl 1 rfl ?_
  refine v_ialdY g 1 rfl (by omega) (by decide) dX8_out_25 ?_
  exact v_iret g R dX8_out_26 (by decide) (by decide) ⟨rfl, rfl⟩
set_option maxHeartbeats 4000000 in
set_option maxRecDepth 100000 in
theorem f_out (l : Launch) (D : va_G) (a0 : Nat) (p1 : Int32) (v_a0_thrown : Nat) (a0_tape : Nat) (v_a0_taped : Nat) (a0_out : Nat) (v_a0_outs : Nat) (a0_slots : Nat) (a0_kept : Nat) (a0_phase : Nat) (a0_secret : Nat) (a0_key : Nat) (a0_hide : Nat) (a0_iv : Nat) (a0_begin : Nat) (a0_each : Nat) (a0_root : Nat) (a0_power : Nat) (a0_work : Nat) (a0_w : Nat) (a0_h : Nat) (a0_state : Nat) (a0_sum : Nat) (a0_pad : Nat) (a0_text : Nat) (v_a0_texts : Nat) (a0_info : Nat) (v_a0_infos : Nat) (a0_made : Nat) (a0_blockKey : Nat) (a0_nonce : Nat) (a0_x : Nat) (a0_first : Nat) (a0_block : Nat) (a0_a : Nat) (a0_r : Nat) (a0_product : Nat) (a0_tag : Nat) (a0_sealed : Nat)  (h0 : p1 < 0 ∨ nI v_a0_outs ≤ p1) : vM l D yX8_out cX8_out 2 (some .int) { frames := 1, cells := 0, slots := 0, locals := 22 } [.ref a0, .int p1] [(a0, .inr (8, [.int (nI v_a0_thrown), .ref a0_tape, .int (nI v_a0_taped), .ref a0_out, .int (nI v_a0_outs), .ref a0_slots, .ref a0_kept, .ref a0_phase, .ref a0_secret, .ref a0_key, .ref a0_hide, .ref a0_iv, .ref a0_begin, .ref a0_each, .ref a0_root, .ref a0_power, .ref a0_work, .ref a0_w, .ref a0_h, .ref a0_state, .ref a0_sum, .ref a0_pad, .ref a0_text, .int (nI v_a0_texts), .ref a0_info, .int (nI v_a0_infos), .ref a0_made, .ref a0_blockKey, .ref a0_nonce, .ref a0_x, .ref a0_first, .ref a0_block, .ref a0_a, .ref a0_r, .ref a0_product, .ref a0_tag, .ref a0_sealed]))] (fun r wo => r = some (.int (nI 0)) ∧ wo = [(a0, .inr (8, [.int (nI 1), .ref a0_tape, .int (nI v_a0_taped), .ref a0_out, .int (nI v_a0_outs), .ref a0_slots, .ref a0_kept, .ref a0_phase, .ref a0_secret, .ref a0_key, .ref a0_hide, .ref a0_iv, .ref a0_begin, .ref a0_each, .ref a0_root, .ref a0_power, .ref a0_work, .ref a0_w, .ref a0_h, .ref a0_state, .ref a0_sum, .ref a0_pad, .ref a0_text, .int (nI v_a0_texts), .ref a0_info, .int (nI v_a0_infos), .ref a0_made, .ref a0_blockKey, .ref a0_nonce, .ref a0_x, .ref a0_first, .ref a0_block, .ref a0_a, .ref a0_r, .ref a0_product, .ref a0_tag, .ref a0_sealed]))]) := by
  refine vM.of (by decide) (Nat.le_of_ble_eq_true rfl) (fun C hCl hCD g R => ?_)
  subst hCl; subst hCD
  show VJ C 0 0 0 [(0, .ref a0), (1, .int p1)] [] [(a0, .inr (8, [.int (nI v_a0_thrown), .ref a0_tape, .int (nI v_a0_taped), .ref a0_out, .int (nI v_a0_outs), .ref a0_slots, .ref a0_kept, .ref a0_phase, .ref a0_secret, .ref a0_key, .ref a0_hide, .ref a0_iv, .ref a0_begin, .ref a0_each, .ref a0_root, .ref a0_power, .ref a0_work, .ref a0_w, .ref a0_h, .ref a0_state, .ref a0_sum, .ref a0_pad, .ref a0_text, .int (nI v_a0_texts), .ref a0_info, .int (nI v_a0_infos), .ref a0_made, .ref a0_blockKey, .ref a0_nonce, .ref a0_x, .ref a0_first, .ref a0_block, .ref a0_a, .ref a0_r, .ref a0_product, .ref a0_tag, .ref a0_sealed]))]
  refine v_aload_n g dX8_out_0 0 rfl 0 rfl ?_
  refine v_iload_n g dX8_out_1 1 rfl 1 rfl ?_
  refine v_aload_n g dX8_out_2 0 rfl 0 rfl ?_
  refine gf_X8_218 g dX8_out_3 0 rfl rfl ?_
  refine v_callS (As := [.int p1, .int (nI v_a0_outs)]) (rest := [.ref a0]) (wr := [(a0, .inr (8, [.int (nI v_a0_thrown), .ref a0_tape, .int (nI v_a0_taped), .ref a0_out, .int (nI v_a0_outs), .ref a0_slots, .ref a0_kept, .ref a0_phase, .ref a0_secret, .ref a0_key, .ref a0_hide, .ref a0_iv, .ref a0_begin, .ref a0_each, .ref a0_root, .ref a0_power, .ref a0_work, .ref a0_w, .ref a0_h, .ref a0_state, .ref a0_sum, .ref a0_pad, .ref a0_text, .int (nI v_a0_texts), .ref a0_info, .int (nI v_a0_infos), .ref a0_made, .ref a0_blockKey, .ref a0_nonce, .ref a0_x, .ref a0_first, .ref a0_block, .ref a0_a, .ref a0_r, .ref a0_product, .ref a0_tag, .ref a0_sealed]))]) cw_X8_221 (hy_X8_beyond) g (c_R_bey1 C.l C.D p1 v_a0_outs h0) dX8_out_6 rfl (by decide) (by decide) (Nat.le_of_ble_eq_true rfl) [] [0] rfl rfl (by decide) rfl (by decide) (by decide) _ rfl (fun r wo hp1 => ?_)
  obtain ⟨rfl, rfl⟩ := hp1
  show VJ C 0 0 9 [(0, .ref a0), (1, .int p1)] [.int (nI 1), .ref a0] [(a0, .inr (8, [.int (nI v_a0_thrown), .ref a0_tape, .int (nI v_a0_taped), .ref a0_out, .int (nI v_a0_outs), .ref a0_slots, .ref a0_kept, .ref a0_phase, .ref a0_secret, .ref a0_key, .ref a0_hide, .ref a0_iv, .ref a0_begin, .ref a0_each, .ref a0_root, .ref a0_power, .ref a0_work, .ref a0_w, .ref a0_h, .ref a0_state, .ref a0_sum, .ref a0_pad, .ref a0_text, .int (nI v_a0_texts), .ref a0_info, .int (nI v_a0_infos), .ref a0_made, .ref a0_blockKey, .ref a0_nonce, .ref a0_x, .ref a0_first, .ref a0_block, .ref a0_a, .ref a0_r, .ref a0_product, .ref a0_tag, .ref a0_sealed]))]
  refine v_iconst g dX8_out_9 (v := nI 1) (by decide +kernel) ?_
  refine v_callV (As := [.int (nI 1), .int (nI 1)]) (rest := []) (wr := []) cw_X8_211 (hy_X8_fails) g (c_R_fail1 C.l C.D a0 1 v_a0_thrown a0_tape v_a0_taped a0_out v_a0_outs a0_slots a0_kept a0_phase a0_secret a0_key a0_hide a0_iv a0_begin a0_each a0_root a0_power a0_work a0_w a0_h a0_state a0_sum a0_pad a0_text v_a0_texts a0_info v_a0_infos a0_made a0_blockKey a0_nonce a0_x a0_first a0_block a0_a a0_r a0_product a0_tag a0_sealed ) dX8_out_10 0 rfl rfl rfl (by decide) (by decide) (Nat.le_of_ble_eq_true rfl) [0] [] rfl rfl (by decide) rfl (by decide) (by decide) _ rfl (fun r wo hp2 => ?_)
  obtain ⟨rfl, rfl⟩ := hp2
  show VJ C 0 0 13 [(0, .ref a0), (1, .int p1)] [.int (nI 1)] [(a0, .inr (8, [.int (nI 1), .ref a0_tape, .int (nI v_a0_taped), .ref a0_out, .int (nI v_a0_outs), .ref a0_slots, .ref a0_kept, .ref a0_phase, .ref a0_secret, .ref a0_key, .ref a0_hide, .ref a0_iv, .ref a0_begin, .ref a0_each, .ref a0_root, .ref a0_power, .ref a0_work, .ref a0_w, .ref a0_h, .ref a0_state, .ref a0_sum, .ref a0_pad, .ref a0_text, .int (nI v_a0_texts), .ref a0_info, .int (nI v_a0_infos), .ref a0_made, .ref a0_blockKey, .ref a0_nonce, .ref a0_x, .ref a0_first, .ref a0_block, .ref a0_a, .ref a0_r, .ref a0_product, .ref a0_tag, .ref a0_sealed]))]
  refine v_if_eqN g 20 dX8_out_13 (by decide) (by decide) (fun h => absurd h (by decide)) (fun _ => ?_)
  refine v_iconst g dX8_out_16 (v := nI 0) (by decide +kernel) ?_
  refine v_goto g 26 dX8_out_17 (by decide) ?_
  exact v_iret g R dX8_out_26 (by decide) (by decide) ⟨rfl, rfl⟩
set_option maxHeartbeats 4000000 in
set_option maxRecDepth 100000 in
theorem m_outs (l : Launch) (D : va_G) (a0 : Nat) (p1 : Nat) (v_a0_thrown : Nat) (a0_tape : Nat) (v_a0_taped : Nat) (a0_out : Nat) (v_a0_outs : Nat) (a0_slots : Nat) (a0_kept : Nat) (a0_phase : Nat) (a0_secret : Nat) (a0_key : Nat) (a0_hide : Nat) (a0_iv : Nat) (a0_begin : Nat) (a0_each : Nat) (a0_root : Nat) (a0_power : Nat) (a0_work : Nat) (a0_w : Nat) (a0_h : Nat) (a0_state : Nat) (a0_sum : Nat) (a0_pad : Nat) (a0_text : Nat) (v_a0_texts : Nat) (a0_info : Nat) (v_a0_infos : Nat) (a0_made : Nat) (a0_blockKey : Nat) (a0_nonce : Nat) (a0_x : Nat) (a0_first : Nat) (a0_block : Nat) (a0_a : Nat) (a0_r : Nat) (a0_product : Nat) (a0_tag : Nat) (a0_sealed : Nat) (t_a0_out : Nat → By)  (hO : v_a0_outs ≤ 2064) (h1 : p1 < v_a0_outs) : vM l D yX8_outs cX8_outs 5 (some .long) { frames := 1, cells := 0, slots := 0, locals := 22 } [.ref a0, .int (nI p1)] [(a0, .inr (8, [.int (nI v_a0_thrown), .ref a0_tape, .int (nI v_a0_taped), .ref a0_out, .int (nI v_a0_outs), .ref a0_slots, .ref a0_kept, .ref a0_phase, .ref a0_secret, .ref a0_key, .ref a0_hide, .ref a0_iv, .ref a0_begin, .ref a0_each, .ref a0_root, .ref a0_power, .ref a0_work, .ref a0_w, .ref a0_h, .ref a0_state, .ref a0_sum, .ref a0_pad, .ref a0_text, .int (nI v_a0_texts), .ref a0_info, .int (nI v_a0_infos), .ref a0_made, .ref a0_blockKey, .ref a0_nonce, .ref a0_x, .ref a0_first, .ref a0_block, .ref a0_a, .ref a0_r, .ref a0_product, .ref a0_tag, .ref a0_sealed])), (a0_out, aY D 2064 t_a0_out)] (fun r wo => r = some (.long (xL (ouF t_a0_out p1 (min 8 (v_a0_outs - p1))))) ∧ wo = [(a0, .inr (8, [.int (nI 0), .ref a0_tape, .int (nI v_a0_taped), .ref a0_out, .int (nI v_a0_outs), .ref a0_slots, .ref a0_kept, .ref a0_phase, .ref a0_secret, .ref a0_key, .ref a0_hide, .ref a0_iv, .ref a0_begin, .ref a0_each, .ref a0_root, .ref a0_power, .ref a0_work, .ref a0_w, .ref a0_h, .ref a0_state, .ref a0_sum, .ref a0_pad, .ref a0_text, .int (nI v_a0_texts), .ref a0_info, .int (nI v_a0_infos), .ref a0_made, .ref a0_blockKey, .ref a0_nonce, .ref a0_x, .ref a0_first, .ref a0_block, .ref a0_a, .ref a0_r, .ref a0_product, .ref a0_tag, .ref a0_sealed])), (a0_out, aY D 2064 t_a0_out)]) := by
  refine vM.of (by decide) (Nat.le_of_ble_eq_true rfl) (fun C hCl hCD g R => ?_)
  subst hCl; subst hCD
  show VJ C 0 0 0 [(0, .ref a0), (1, .int (nI p1))] [] [(a0, .inr (8, [.int (nI v_a0_thrown), .ref a0_tape, .int (nI v_a0_taped), .ref a0_out, .int (nI v_a0_outs), .ref a0_slots, .ref a0_kept, .ref a0_phase, .ref a0_secret, .ref a0_key, .ref a0_hide, .ref a0_iv, .ref a0_begin, .ref a0_each, .ref a0_root, .ref a0_power, .ref a0_work, .ref a0_w, .ref a0_h, .ref a0_state, .ref a0_sum, .ref a0_pad, .ref a0_text, .int (nI v_a0_texts), .ref a0_info, .int (nI v_a0_infos), .ref a0_made, .ref a0_blockKey, .ref a0_nonce, .ref a0_x, .ref a0_first, .ref a0_block, .ref a0_a, .ref a0_r, .ref a0_product, .ref a0_tag, .ref a0_sealed])), (a0_out, aY C.D 2064 t_a0_out)]
  refine v_aload_n g dX8_outs_0 0 rfl 0 rfl ?_
  refine v_iload_n g dX8_outs_1 1 rfl 1 rfl ?_
  refine v_aload_n g dX8_outs_2 0 rfl 0 rfl ?_
  refine gf_X8_218 g dX8_outs_3 0 rfl rfl ?_
  refine v_callS (As := [.int (nI p1), .int (nI v_a0_outs)]) (rest := [.ref a0]) (wr := [(a0, .inr (8, [.int (nI v_a0_thrown), .ref a0_tape, .int (nI v_a0_taped), .ref a0_out, .int (nI v_a0_outs), .ref a0_slots, .ref a0_kept, .ref a0_phase, .ref a0_secret, .ref a0_key, .ref a0_hide, .ref a0_iv, .ref a0_begin, .ref a0_each, .ref a0_root, .ref a0_power, .ref a0_work, .ref a0_w, .ref a0_h, .ref a0_state, .ref a0_sum, .ref a0_pad, .ref a0_text, .int (nI v_a0_texts), .ref a0_info, .int (nI v_a0_infos), .ref a0_made, .ref a0_blockKey, .ref a0_nonce, .ref a0_x, .ref a0_first, .ref a0_block, .ref a0_a, .ref a0_r, .ref a0_product, .ref a0_tag, .ref a0_sealed])), (a0_out, aY C.D 2064 t_a0_out)]) cw_X8_221 (hy_X8_beyond) g (c_R_bey0 C.l C.D p1 v_a0_outs (by omega) (by omega)) dX8_outs_6 rfl (by decide) (by decide) (Nat.le_of_ble_eq_true rfl) [] [0, 1] rfl rfl (by decide) rfl (by decide) (by decide) _ rfl (fun r wo hp1 => ?_)
  obtain ⟨rfl, rfl⟩ := hp1
  show VJ C 0 0 9 [(0, .ref a0), (1, .int (nI p1))] [.int (nI 0), .ref a0] [(a0, .inr (8, [.int (nI v_a0_thrown), .ref a0_tape, .int (nI v_a0_taped), .ref a0_out, .int (nI v_a0_outs), .ref a0_slots, .ref a0_kept, .ref a0_phase, .ref a0_secret, .ref a0_key, .ref a0_hide, .ref a0_iv, .ref a0_begin, .ref a0_each, .ref a0_root, .ref a0_power, .ref a0_work, .ref a0_w, .ref a0_h, .ref a0_state, .ref a0_sum, .ref a0_pad, .ref a0_text, .int (nI v_a0_texts), .ref a0_info, .int (nI v_a0_infos), .ref a0_made, .ref a0_blockKey, .ref a0_nonce, .ref a0_x, .ref a0_first, .ref a0_block, .ref a0_a, .ref a0_r, .ref a0_product, .ref a0_tag, .ref a0_sealed])), (a0_out, aY C.D 2064 t_a0_out)]
  refine v_iconst g dX8_outs_9 (v := nI 1) (by decide +kernel) ?_
  refine v_callV (As := [.int (nI 0), .int (nI 1)]) (rest := []) (wr := [(a0_out, aY C.D 2064 t_a0_out)]) cw_X8_211 (hy_X8_fails) g (c_R_fail0 C.l C.D a0 1 v_a0_thrown a0_tape v_a0_taped a0_out v_a0_outs a0_slots a0_kept a0_phase a0_secret a0_key a0_hide a0_iv a0_begin a0_each a0_root a0_power a0_work a0_w a0_h a0_state a0_sum a0_pad a0_text v_a0_texts a0_info v_a0_infos a0_made a0_blockKey a0_nonce a0_x a0_first a0_block a0_a a0_r a0_product a0_tag a0_sealed ) dX8_outs_10 0 rfl rfl rfl (by decide) (by decide) (Nat.le_of_ble_eq_true rfl) [0] [1] rfl rfl (by decide) rfl (by decide) (by decide) _ rfl (fun r wo hp2 => ?_)
  obtain ⟨rfl, rfl⟩ := hp2
  refine v_perm [1, 0] [(a0, .inr (8, [.int (nI 0), .ref a0_tape, .int (nI v_a0_taped), .ref a0_out, .int (nI v_a0_outs), .ref a0_slots, .ref a0_kept, .ref a0_phase, .ref a0_secret, .ref a0_key, .ref a0_hide, .ref a0_iv, .ref a0_begin, .ref a0_each, .ref a0_root, .ref a0_power, .ref a0_work, .ref a0_w, .ref a0_h, .ref a0_state, .ref a0_sum, .ref a0_pad, .ref a0_text, .int (nI v_a0_texts), .ref a0_info, .int (nI v_a0_infos), .ref a0_made, .ref a0_blockKey, .ref a0_nonce, .ref a0_x, .ref a0_first, .ref a0_block, .ref a0_a, .ref a0_r, .ref a0_product, .ref a0_tag, .ref a0_sealed])), (a0_out, aY C.D 2064 t_a0_out)] (by decide) rfl rfl ?_
  show VJ C 0 0 13 [(0, .ref a0), (1, .int (nI p1))] [.int (nI 0)] [(a0, .inr (8, [.int (nI 0), .ref a0_tape, .int (nI v_a0_taped), .ref a0_out, .int (nI v_a0_outs), .ref a0_slots, .ref a0_kept, .ref a0_phase, .ref a0_secret, .ref a0_key, .ref a0_hide, .ref a0_iv, .ref a0_begin, .ref a0_each, .ref a0_root, .ref a0_power, .ref a0_work, .ref a0_w, .ref a0_h, .ref a0_state, .ref a0_sum, .ref a0_pad, .ref a0_text, .int (nI v_a0_texts), .ref a0_info, .int (nI v_a0_infos), .ref a0_made, .ref a0_blockKey, .ref a0_nonce, .ref a0_x, .ref a0_first, .ref a0_block, .ref a0_a, .ref a0_r, .ref a0_product, .ref a0_tag, .ref a0_sealed])), (a0_out, aY C.D 2064 t_a0_out)]
  refine v_if_eqN g 18 dX8_outs_13 (by decide) (by decide) (fun _ => ?_) (fun h => absurd h (by decide))
  refine v_lconst g dX8_outs_18 (v := lN 0) (by decide +kernel) ?_
  refine v_tol (lN ((ouF t_a0_out p1 0).toNat)) (rfl) ?_
  refine v_lstore_n g [(2, .long (lN ((ouF t_a0_out p1 0).toNat))), (0, .ref a0), (1, .int (nI p1))] dX8_outs_19 2 rfl (by decide) rfl ?_
  refine v_iconst g dX8_outs_20 (v := nI 0) (by decide +kernel) ?_
  refine v_istore g [(4, .int (nI 0)), (2, .long (lN ((ouF t_a0_out p1 0).toNat))), (0, .ref a0), (1, .int (nI p1))] dX8_outs_21 (by decide) rfl ?_
  have J66 : ∀ (vz : Nat), (vz = (ouF t_a0_out p1 (min 8 (v_a0_outs - p1))).toNat) → VJ C 0 0 66 [(2, .long (lN vz)), (0, .ref a0), (1, .int (nI p1))] [] [(a0, .inr (8, [.int (nI 0), .ref a0_tape, .int (nI v_a0_taped), .ref a0_out, .int (nI v_a0_outs), .ref a0_slots, .ref a0_kept, .ref a0_phase, .ref a0_secret, .ref a0_key, .ref a0_hide, .ref a0_iv, .ref a0_begin, .ref a0_each, .ref a0_root, .ref a0_power, .ref a0_work, .ref a0_w, .ref a0_h, .ref a0_state, .ref a0_sum, .ref a0_pad, .ref a0_text, .int (nI v_a0_texts), .ref a0_info, .int (nI v_a0_infos), .ref a0_made, .ref a0_blockKey, .ref a0_nonce, .ref a0_x, .ref a0_first, .ref a0_block, .ref a0_a, .ref a0_r, .ref a0_product, .ref a0_tag, .ref a0_sealed])), (a0_out, aY C.D 2064 t_a0_out)] := by
    intro vz hj0
    subst hj0
    show VJ C 0 0 66 [(2, .long (lN ((ouF t_a0_out p1 (min 8 (v_a0_outs - p1))).toNat))), (0, .ref a0), (1, .int (nI p1))] [] [(a0, .inr (8, [.int (nI 0), .ref a0_tape, .int (nI v_a0_taped), .ref a0_out, .int (nI v_a0_outs), .ref a0_slots, .ref a0_kept, .ref a0_phase, .ref a0_secret, .ref a0_key, .ref a0_hide, .ref a0_iv, .ref a0_begin, .ref a0_each, .ref a0_root, .ref a0_power, .ref a0_work, .ref a0_w, .ref a0_h, .ref a0_state, .ref a0_sum, .ref a0_pad, .ref a0_text, .int (nI v_a0_texts), .ref a0_info, .int (nI v_a0_infos), .ref a0_made, .ref a0_blockKey, .ref a0_nonce, .ref a0_x, .ref a0_first, .ref a0_block, .ref a0_a, .ref a0_r, .ref a0_product, .ref a0_tag, .ref a0_sealed])), (a0_out, aY C.D 2064 t_a0_out)]
    refine v_lload_n g dX8_outs_66 2 rfl 0 rfl ?_
    refine v_tol (xL (ouF t_a0_out p1 (min 8 (v_a0_outs - p1)))) (ou_x _) ?_
    exact v_lret g R dX8_outs_67 (by decide) (by decide) ⟨rfl, rfl⟩
  have L23_2 : ∀ i : Nat, i ≤ (min 8 (v_a0_outs - p1)) → ∀ (vv : Nat), (vv = (ouF t_a0_out p1 i).toNat) → VJ C 0 0 23 [(4, .int (nI i)), (2, .long (lN vv)), (0, .ref a0), (1, .int (nI p1))] [] [(a0, .inr (8, [.int (nI 0), .ref a0_tape, .int (nI v_a0_taped), .ref a0_out, .int (nI v_a0_outs), .ref a0_slots, .ref a0_kept, .ref a0_phase, .ref a0_secret, .ref a0_key, .ref a0_hide, .ref a0_iv, .ref a0_begin, .ref a0_each, .ref a0_root, .ref a0_power, .ref a0_work, .ref a0_w, .ref a0_h, .ref a0_state, .ref a0_sum, .ref a0_pad, .ref a0_text, .int (nI v_a0_texts), .ref a0_info, .int (nI v_a0_infos), .ref a0_made, .ref a0_blockKey, .ref a0_nonce, .ref a0_x, .ref a0_first, .ref a0_block, .ref a0_a, .ref a0_r, .ref a0_product, .ref a0_tag, .ref a0_sealed])), (a0_out, aY C.D 2064 t_a0_out)] := by
    refine v_for ((min 8 (v_a0_outs - p1))) ?_ ?_
    · skip
      intro i hii ih vv hv0
      refine v_iload g dX8_outs_23 0 rfl ?_
      refine v_bipush g dX8_outs_25 (v := nI 8) (by decide +kernel) ?_
      refine v_icmp_geN g 66 dX8_outs_27 (by decide) (by omega) (by omega) (fun h => absurd h (by omega)) (fun _ => ?_)
      refine v_iload_n g dX8_outs_30 1 rfl 3 rfl ?_
      refine v_iload g dX8_outs_31 0 rfl ?_
      refine v_iaddN g dX8_outs_33 ?_
      refine v_aload_n g dX8_outs_34 0 rfl 2 rfl ?_
      refine gf_X8_218 g dX8_outs_35 0 rfl rfl ?_
      refine v_icmp_geN g 66 dX8_outs_38 (by decide) (by omega) (by omega) (fun h3 => ?_) (fun h3 => ?_)
      · skip
        exact absurd h3 (by omega)
      · skip
        have hb := (t_a0_out (p1 + i)).isLt
        refine v_lload_n g dX8_outs_41 2 rfl 1 rfl ?_
        refine v_aload_n g dX8_outs_42 0 rfl 2 rfl ?_
        refine gf_X8_13 g dX8_outs_43 0 rfl rfl ?_
        refine v_iload_n g dX8_outs_46 1 rfl 3 rfl ?_
        refine v_iload g dX8_outs_47 0 rfl ?_
        refine v_iaddN g dX8_outs_49 ?_
        refine v_ialdY g 1 rfl (by omega) (by decide) dX8_outs_50 ?_
        refine v_i2lN g (by omega) dX8_outs_51 ?_
        refine v_bipush g dX8_outs_52 (v := nI 8) (by decide +kernel) ?_
        refine v_iload g dX8_outs_54 0 rfl ?_
        refine v_imulN g dX8_outs_56 ?_
        refine v_lshlN g (by omega) dX8_outs_57 ?_
        refine v_lorN g dX8_outs_58 ?_
        refine v_lstore_n g [(2, .long (lN (vv ||| (((t_a0_out (p1 + i)).toNat) * 2 ^ (8 * i))))), (4, .int (nI i)), (0, .ref a0), (1, .int (nI p1))] dX8_outs_59 2 rfl (by decide) rfl ?_
        refine v_iincN g 1 [(4, .int (nI (i + 1))), (2, .long (lN (vv ||| (((t_a0_out (p1 + i)).toNat) * 2 ^ (8 * i))))), (0, .ref a0), (1, .int (nI p1))] dX8_outs_60 1 rfl (by decide +kernel) (by decide) rfl ?_
        refine v_goto g 23 dX8_outs_63 (by decide) ?_
        exact ih (vv ||| (((t_a0_out (p1 + i)).toNat) * 2 ^ (8 * i))) (by rw [hv0]; exact ou_s (by omega))
    · skip
      intro vv hv0
      refine v_iload g dX8_outs_23 0 rfl ?_
      refine v_bipush g dX8_outs_25 (v := nI 8) (by decide +kernel) ?_
      refine v_icmp_geN g 66 dX8_outs_27 (by decide) (by omega) (by omega) (fun h4 => ?_) (fun h4 => ?_)
      · skip
        refine v_lpick [1, 2, 3] [(2, .long (lN vv)), (0, .ref a0), (1, .int (nI p1))] rfl ?_
        exact J66 vv hv0
      · skip
        refine v_iload_n g dX8_outs_30 1 rfl 3 rfl ?_
        refine v_iload g dX8_outs_31 0 rfl ?_
        refine v_iaddN g dX8_outs_33 ?_
        refine v_aload_n g dX8_outs_34 0 rfl 2 rfl ?_
        refine gf_X8_218 g dX8_outs_35 0 rfl rfl ?_
        refine v_icmp_geN g 66 dX8_outs_38 (by decide) (by omega) (by omega) (fun _ => ?_) (fun h => absurd h (by omega))
        refine v_lpick [1, 2, 3] [(2, .long (lN vv)), (0, .ref a0), (1, .int (nI p1))] rfl ?_
        exact J66 vv hv0
  exact L23_2 0 (by omega) ((ouF t_a0_out p1 0).toNat) rfl
set_option maxHeartbeats 4000000 in
set_option maxRecDepth 100000 in
theorem f_outs (l : Launch) (D : va_G) (a0 : Nat) (p1 : Int32) (v_a0_thrown : Nat) (a0_tape : Nat) (v_a0_taped : Nat) (a0_out : Nat) (v_a0_outs : Nat) (a0_slots : Nat) (a0_kept : Nat) (a0_phase : Nat) (a0_secret : Nat) (a0_key : Nat) (a0_hide : Nat) (a0_iv : Nat) (a0_begin : Nat) (a0_each : Nat) (a0_root : Nat) (a0_power : Nat) (a0_work : Nat) (a0_w : Nat) (a0_h : Nat) (a0_state : Nat) (a0_sum : Nat) (a0_pad : Nat) (a0_text : Nat) (v_a0_texts : Nat) (a0_info : Nat) (v_a0_infos : Nat) (a0_made : Nat) (a0_blockKey : Nat) (a0_nonce : Nat) (a0_x : Nat) (a0_first : Nat) (a0_block : Nat) (a0_a : Nat) (a0_r : Nat) (a0_product : Nat) (a0_tag : Nat) (a0_sealed : Nat)  (h0 : p1 < 0 ∨ nI v_a0_outs ≤ p1) : vM l D yX8_outs cX8_outs 5 (some .long) { frames := 1, cells := 0, slots := 0, locals := 22 } [.ref a0, .int p1] [(a0, .inr (8, [.int (nI v_a0_thrown), .ref a0_tape, .int (nI v_a0_taped), .ref a0_out, .int (nI v_a0_outs), .ref a0_slots, .ref a0_kept, .ref a0_phase, .ref a0_secret, .ref a0_key, .ref a0_hide, .ref a0_iv, .ref a0_begin, .ref a0_each, .ref a0_root, .ref a0_power, .ref a0_work, .ref a0_w, .ref a0_h, .ref a0_state, .ref a0_sum, .ref a0_pad, .ref a0_text, .int (nI v_a0_texts), .ref a0_info, .int (nI v_a0_infos), .ref a0_made, .ref a0_blockKey, .ref a0_nonce, .ref a0_x, .ref a0_first, .ref a0_block, .ref a0_a, .ref a0_r, .ref a0_product, .ref a0_tag, .ref a0_sealed]))] (fun r wo => r = some (.long (lN 0)) ∧ wo = [(a0, .inr (8, [.int (nI 1), .ref a0_tape, .int (nI v_a0_taped), .ref a0_out, .int (nI v_a0_outs), .ref a0_slots, .ref a0_kept, .ref a0_phase, .ref a0_secret, .ref a0_key, .ref a0_hide, .ref a0_iv, .ref a0_begin, .ref a0_each, .ref a0_root, .ref a0_power, .ref a0_work, .ref a0_w, .ref a0_h, .ref a0_state, .ref a0_sum, .ref a0_pad, .ref a0_text, .int (nI v_a0_texts), .ref a0_info, .int (nI v_a0_infos), .ref a0_made, .ref a0_blockKey, .ref a0_nonce, .ref a0_x, .ref a0_first, .ref a0_block, .ref a0_a, .ref a0_r, .ref a0_product, .ref a0_tag, .ref a0_sealed]))]) := by
  refine vM.of (by decide) (Nat.le_of_ble_eq_true rfl) (fun C hCl hCD g R => ?_)
  subst hCl; subst hCD
  show VJ C 0 0 0 [(0, .ref a0), (1, .int p1)] [] [(a0, .inr (8, [.int (nI v_a0_thrown), .ref a0_tape, .int (nI v_a0_taped), .ref a0_out, .int (nI v_a0_outs), .ref a0_slots, .ref a0_kept, .ref a0_phase, .ref a0_secret, .ref a0_key, .ref a0_hide, .ref a0_iv, .ref a0_begin, .ref a0_each, .ref a0_root, .ref a0_power, .ref a0_work, .ref a0_w, .ref a0_h, .ref a0_state, .ref a0_sum, .ref a0_pad, .ref a0_text, .int (nI v_a0_texts), .ref a0_info, .int (nI v_a0_infos), .ref a0_made, .ref a0_blockKey, .ref a0_nonce, .ref a0_x, .ref a0_first, .ref a0_block, .ref a0_a, .ref a0_r, .ref a0_product, .ref a0_tag, .ref a0_sealed]))]
  refine v_aload_n g dX8_outs_0 0 rfl 0 rfl ?_
  refine v_iload_n g dX8_outs_1 1 rfl 1 rfl ?_
  refine v_aload_n g dX8_outs_2 0 rfl 0 rfl ?_
  refine gf_X8_218 g dX8_outs_3 0 rfl rfl ?_
  refine v_callS (As := [.int p1, .int (nI v_a0_outs)]) (rest := [.ref a0]) (wr := [(a0, .inr (8, [.int (nI v_a0_thrown), .ref a0_tape, .int (nI v_a0_taped), .ref a0_out, .int (nI v_a0_outs), .ref a0_slots, .ref a0_kept, .ref a0_phase, .ref a0_secret, .ref a0_key, .ref a0_hide, .ref a0_iv, .ref a0_begin, .ref a0_each, .ref a0_root, .ref a0_power, .ref a0_work, .ref a0_w, .ref a0_h, .ref a0_state, .ref a0_sum, .ref a0_pad, .ref a0_text, .int (nI v_a0_texts), .ref a0_info, .int (nI v_a0_infos), .ref a0_made, .ref a0_blockKey, .ref a0_nonce, .ref a0_x, .ref a0_first, .ref a0_block, .ref a0_a, .ref a0_r, .ref a0_product, .ref a0_tag, .ref a0_sealed]))]) cw_X8_221 (hy_X8_beyond) g (c_R_bey1 C.l C.D p1 v_a0_outs h0) dX8_outs_6 rfl (by decide) (by decide) (Nat.le_of_ble_eq_true rfl) [] [0] rfl rfl (by decide) rfl (by decide) (by decide) _ rfl (fun r wo hp1 => ?_)
  obtain ⟨rfl, rfl⟩ := hp1
  show VJ C 0 0 9 [(0, .ref a0), (1, .int p1)] [.int (nI 1), .ref a0] [(a0, .inr (8, [.int (nI v_a0_thrown), .ref a0_tape, .int (nI v_a0_taped), .ref a0_out, .int (nI v_a0_outs), .ref a0_slots, .ref a0_kept, .ref a0_phase, .ref a0_secret, .ref a0_key, .ref a0_hide, .ref a0_iv, .ref a0_begin, .ref a0_each, .ref a0_root, .ref a0_power, .ref a0_work, .ref a0_w, .ref a0_h, .ref a0_state, .ref a0_sum, .ref a0_pad, .ref a0_text, .int (nI v_a0_texts), .ref a0_info, .int (nI v_a0_infos), .ref a0_made, .ref a0_blockKey, .ref a0_nonce, .ref a0_x, .ref a0_first, .ref a0_block, .ref a0_a, .ref a0_r, .ref a0_product, .ref a0_tag, .ref a0_sealed]))]
  refine v_iconst g dX8_outs_9 (v := nI 1) (by decide +kernel) ?_
  refine v_callV (As := [.int (nI 1), .int (nI 1)]) (rest := []) (wr := []) cw_X8_211 (hy_X8_fails) g (c_R_fail1 C.l C.D a0 1 v_a0_thrown a0_tape v_a0_taped a0_out v_a0_outs a0_slots a0_kept a0_phase a0_secret a0_key a0_hide a0_iv a0_begin a0_each a0_root a0_power a0_work a0_w a0_h a0_state a0_sum a0_pad a0_text v_a0_texts a0_info v_a0_infos a0_made a0_blockKey a0_nonce a0_x a0_first a0_block a0_a a0_r a0_product a0_tag a0_sealed ) dX8_outs_10 0 rfl rfl rfl (by decide) (by decide) (Nat.le_of_ble_eq_true rfl) [0] [] rfl rfl (by decide) rfl (by decide) (by decide) _ rfl (fun r wo hp2 => ?_)
  obtain ⟨rfl, rfl⟩ := hp2
  show VJ C 0 0 13 [(0, .ref a0), (1, .int p1)] [.int (nI 1)] [(a0, .inr (8, [.int (nI 1), .ref a0_tape, .int (nI v_a0_taped), .ref a0_out, .int (nI v_a0_outs), .ref a0_slots, .ref a0_kept, .ref a0_phase, .ref a0_secret, .ref a0_key, .ref a0_hide, .ref a0_iv, .ref a0_begin, .ref a0_each, .ref a0_root, .ref a0_power, .ref a0_work, .ref a0_w, .ref a0_h, .ref a0_state, .ref a0_sum, .ref a0_pad, .ref a0_text, .int (nI v_a0_texts), .ref a0_info, .int (nI v_a0_infos), .ref a0_made, .ref a0_blockKey, .ref a0_nonce, .ref a0_x, .ref a0_first, .ref a0_block, .ref a0_a, .ref a0_r, .ref a0_product, .ref a0_tag, .ref a0_sealed]))]
  refine v_if_eqN g 18 dX8_outs_13 (by decide) (by decide) (fun h => absurd h (by decide)) (fun _ => ?_)
  refine v_lconst g dX8_outs_16 (v := lN 0) (by decide +kernel) ?_
  exact v_lret g R dX8_outs_17 (by decide) (by decide) ⟨rfl, rfl⟩
set_option maxHeartbeats 4000000 in
set_option maxRecDepth 100000 in
theorem m_look0 (l : Launch) (D : va_G) (a0 : Nat) (v_a0_thrown : Nat) (a0_tape : Nat) (v_a0_taped : Nat) (a0_out : Nat) (v_a0_outs : Nat) (a0_slots : Nat) (a0_kept : Nat) (a0_phase : Nat) (a0_secret : Nat) (a0_key : Nat) (a0_hide : Nat) (a0_iv : Nat) (a0_begin : Nat) (a0_each : Nat) (a0_root : Nat) (a0_power : Nat) (a0_work : Nat) (a0_w : Nat) (a0_h : Nat) (a0_state : Nat) (a0_sum : Nat) (a0_pad : Nat) (a0_text : Nat) (v_a0_texts : Nat) (a0_info : Nat) (v_a0_infos : Nat) (a0_made : Nat) (a0_blockKey : Nat) (a0_nonce : Nat) (a0_x : Nat) (a0_first : Nat) (a0_block : Nat) (a0_a : Nat) (a0_r : Nat) (a0_product : Nat) (a0_tag : Nat) (a0_sealed : Nat)   : vM l D yX8_look cX8_look 2 (some .int) { frames := 1, cells := 0, slots := 0, locals := 22 } [.ref a0, .int (nI 0)] [(a0, .inr (8, [.int (nI v_a0_thrown), .ref a0_tape, .int (nI v_a0_taped), .ref a0_out, .int (nI v_a0_outs), .ref a0_slots, .ref a0_kept, .ref a0_phase, .ref a0_secret, .ref a0_key, .ref a0_hide, .ref a0_iv, .ref a0_begin, .ref a0_each, .ref a0_root, .ref a0_power, .ref a0_work, .ref a0_w, .ref a0_h, .ref a0_state, .ref a0_sum, .ref a0_pad, .ref a0_text, .int (nI v_a0_texts), .ref a0_info, .int (nI v_a0_infos), .ref a0_made, .ref a0_blockKey, .ref a0_nonce, .ref a0_x, .ref a0_first, .ref a0_block, .ref a0_a, .ref a0_r, .ref a0_product, .ref a0_tag, .ref a0_sealed]))] (fun r wo => r = some (.int (nI v_a0_taped)) ∧ wo = [(a0, .inr (8, [.int (nI 0), .ref a0_tape, .int (nI v_a0_taped), .ref a0_out, .int (nI v_a0_outs), .ref a0_slots, .ref a0_kept, .ref a0_phase, .ref a0_secret, .ref a0_key, .ref a0_hide, .ref a0_iv, .ref a0_begin, .ref a0_each, .ref a0_root, .ref a0_power, .ref a0_work, .ref a0_w, .ref a0_h, .ref a0_state, .ref a0_sum, .ref a0_pad, .ref a0_text, .int (nI v_a0_texts), .ref a0_info, .int (nI v_a0_infos), .ref a0_made, .ref a0_blockKey, .ref a0_nonce, .ref a0_x, .ref a0_first, .ref a0_block, .ref a0_a, .ref a0_r, .ref a0_product, .ref a0_tag, .ref a0_sealed]))]) := by
  refine vM.of (by decide) (Nat.le_of_ble_eq_true rfl) (fun C hCl hCD g R => ?_)
  subst hCl; subst hCD
  show VJ C 0 0 0 [(0, .ref a0), (1, .int (nI 0))] [] [(a0, .inr (8, [.int (nI v_a0_thrown), .ref a0_tape, .int (nI v_a0_taped), .ref a0_out, .int (nI v_a0_outs), .ref a0_slots, .ref a0_kept, .ref a0_phase, .ref a0_secret, .ref a0_key, .ref a0_hide, .ref a0_iv, .ref a0_begin, .ref a0_each, .ref a0_root, .ref a0_power, .ref a0_work, .ref a0_w, .ref a0_h, .ref a0_state, .ref a0_sum, .ref a0_pad, .ref a0_text, .int (nI v_a0_texts), .ref a0_info, .int (nI v_a0_infos), .ref a0_made, .ref a0_blockKey, .ref a0_nonce, .ref a0_x, .ref a0_first, .ref a0_block, .ref a0_a, .ref a0_r, .ref a0_product, .ref a0_tag, .ref a0_sealed]))]
  refine v_aload_n g dX8_look_0 0 rfl 0 rfl ?_
  refine v_iload_n g dX8_look_1 1 rfl 1 rfl ?_
  refine v_bipush g dX8_look_2 (v := nI 14) (by decide +kernel) ?_
  refine v_callS (As := [.int (nI 0), .int (nI 14)]) (rest := [.ref a0]) (wr := [(a0, .inr (8, [.int (nI v_a0_thrown), .ref a0_tape, .int (nI v_a0_taped), .ref a0_out, .int (nI v_a0_outs), .ref a0_slots, .ref a0_kept, .ref a0_phase, .ref a0_secret, .ref a0_key, .ref a0_hide, .ref a0_iv, .ref a0_begin, .ref a0_each, .ref a0_root, .ref a0_power, .ref a0_work, .ref a0_w, .ref a0_h, .ref a0_state, .ref a0_sum, .ref a0_pad, .ref a0_text, .int (nI v_a0_texts), .ref a0_info, .int (nI v_a0_infos), .ref a0_made, .ref a0_blockKey, .ref a0_nonce, .ref a0_x, .ref a0_first, .ref a0_block, .ref a0_a, .ref a0_r, .ref a0_product, .ref a0_tag, .ref a0_sealed]))]) cw_X8_221 (hy_X8_beyond) g (c_R_bey0 C.l C.D 0 14 (by omega) (by omega)) dX8_look_4 rfl (by decide) (by decide) (Nat.le_of_ble_eq_true rfl) [] [0] rfl rfl (by decide) rfl (by decide) (by decide) _ rfl (fun r wo hp1 => ?_)
  obtain ⟨rfl, rfl⟩ := hp1
  show VJ C 0 0 7 [(0, .ref a0), (1, .int (nI 0))] [.int (nI 0), .ref a0] [(a0, .inr (8, [.int (nI v_a0_thrown), .ref a0_tape, .int (nI v_a0_taped), .ref a0_out, .int (nI v_a0_outs), .ref a0_slots, .ref a0_kept, .ref a0_phase, .ref a0_secret, .ref a0_key, .ref a0_hide, .ref a0_iv, .ref a0_begin, .ref a0_each, .ref a0_root, .ref a0_power, .ref a0_work, .ref a0_w, .ref a0_h, .ref a0_state, .ref a0_sum, .ref a0_pad, .ref a0_text, .int (nI v_a0_texts), .ref a0_info, .int (nI v_a0_infos), .ref a0_made, .ref a0_blockKey, .ref a0_nonce, .ref a0_x, .ref a0_first, .ref a0_block, .ref a0_a, .ref a0_r, .ref a0_product, .ref a0_tag, .ref a0_sealed]))]
  refine v_iconst g dX8_look_7 (v := nI 1) (by decide +kernel) ?_
  refine v_callV (As := [.int (nI 0), .int (nI 1)]) (rest := []) (wr := []) cw_X8_211 (hy_X8_fails) g (c_R_fail0 C.l C.D a0 1 v_a0_thrown a0_tape v_a0_taped a0_out v_a0_outs a0_slots a0_kept a0_phase a0_secret a0_key a0_hide a0_iv a0_begin a0_each a0_root a0_power a0_work a0_w a0_h a0_state a0_sum a0_pad a0_text v_a0_texts a0_info v_a0_infos a0_made a0_blockKey a0_nonce a0_x a0_first a0_block a0_a a0_r a0_product a0_tag a0_sealed ) dX8_look_8 0 rfl rfl rfl (by decide) (by decide) (Nat.le_of_ble_eq_true rfl) [0] [] rfl rfl (by decide) rfl (by decide) (by decide) _ rfl (fun r wo hp2 => ?_)
  obtain ⟨rfl, rfl⟩ := hp2
  show VJ C 0 0 11 [(0, .ref a0), (1, .int (nI 0))] [.int (nI 0)] [(a0, .inr (8, [.int (nI 0), .ref a0_tape, .int (nI v_a0_taped), .ref a0_out, .int (nI v_a0_outs), .ref a0_slots, .ref a0_kept, .ref a0_phase, .ref a0_secret, .ref a0_key, .ref a0_hide, .ref a0_iv, .ref a0_begin, .ref a0_each, .ref a0_root, .ref a0_power, .ref a0_work, .ref a0_w, .ref a0_h, .ref a0_state, .ref a0_sum, .ref a0_pad, .ref a0_text, .int (nI v_a0_texts), .ref a0_info, .int (nI v_a0_infos), .ref a0_made, .ref a0_blockKey, .ref a0_nonce, .ref a0_x, .ref a0_first, .ref a0_block, .ref a0_a, .ref a0_r, .ref a0_product, .ref a0_tag, .ref a0_sealed]))]
  refine v_if_eqN g 16 dX8_look_11 (by decide) (by decide) (fun _ => ?_) (fun h => absurd h (by decide))
  refine v_iload_n g dX8_look_16 1 rfl 1 rfl ?_
  refine v_if_neN g 27 dX8_look_17 (by decide) (by decide) (fun h => absurd h (by decide)) (fun _ => ?_)
  refine v_aload_n g dX8_look_20 0 rfl 0 rfl ?_
  refine gf_X8_215 g dX8_look_21 0 rfl rfl ?_
  refine v_goto g 65 dX8_look_24 (by decide) ?_
  exact v_iret g R dX8_look_65 (by decide) (by decide) ⟨rfl, rfl⟩
set_option maxHeartbeats 4000000 in
set_option maxRecDepth 100000 in
theorem m_look1 (l : Launch) (D : va_G) (a0 : Nat) (v_a0_thrown : Nat) (a0_tape : Nat) (v_a0_taped : Nat) (a0_out : Nat) (v_a0_outs : Nat) (a0_slots : Nat) (a0_kept : Nat) (a0_phase : Nat) (a0_secret : Nat) (a0_key : Nat) (a0_hide : Nat) (a0_iv : Nat) (a0_begin : Nat) (a0_each : Nat) (a0_root : Nat) (a0_power : Nat) (a0_work : Nat) (a0_w : Nat) (a0_h : Nat) (a0_state : Nat) (a0_sum : Nat) (a0_pad : Nat) (a0_text : Nat) (v_a0_texts : Nat) (a0_info : Nat) (v_a0_infos : Nat) (a0_made : Nat) (a0_blockKey : Nat) (a0_nonce : Nat) (a0_x : Nat) (a0_first : Nat) (a0_block : Nat) (a0_a : Nat) (a0_r : Nat) (a0_product : Nat) (a0_tag : Nat) (a0_sealed : Nat)   : vM l D yX8_look cX8_look 2 (some .int) { frames := 1, cells := 0, slots := 0, locals := 22 } [.ref a0, .int (nI 1)] [(a0, .inr (8, [.int (nI v_a0_thrown), .ref a0_tape, .int (nI v_a0_taped), .ref a0_out, .int (nI v_a0_outs), .ref a0_slots, .ref a0_kept, .ref a0_phase, .ref a0_secret, .ref a0_key, .ref a0_hide, .ref a0_iv, .ref a0_begin, .ref a0_each, .ref a0_root, .ref a0_power, .ref a0_work, .ref a0_w, .ref a0_h, .ref a0_state, .ref a0_sum, .ref a0_pad, .ref a0_text, .int (nI v_a0_texts), .ref a0_info, .int (nI v_a0_infos), .ref a0_made, .ref a0_blockKey, .ref a0_nonce, .ref a0_x, .ref a0_first, .ref a0_block, .ref a0_a, .ref a0_r, .ref a0_product, .ref a0_tag, .ref a0_sealed]))] (fun r wo => r = some (.int (nI v_a0_outs)) ∧ wo = [(a0, .inr (8, [.int (nI 0), .ref a0_tape, .int (nI v_a0_taped), .ref a0_out, .int (nI v_a0_outs), .ref a0_slots, .ref a0_kept, .ref a0_phase, .ref a0_secret, .ref a0_key, .ref a0_hide, .ref a0_iv, .ref a0_begin, .ref a0_each, .ref a0_root, .ref a0_power, .ref a0_work, .ref a0_w, .ref a0_h, .ref a0_state, .ref a0_sum, .ref a0_pad, .ref a0_text, .int (nI v_a0_texts), .ref a0_info, .int (nI v_a0_infos), .ref a0_made, .ref a0_blockKey, .ref a0_nonce, .ref a0_x, .ref a0_first, .ref a0_block, .ref a0_a, .ref a0_r, .ref a0_product, .ref a0_tag, .ref a0_sealed]))]) := by
  refine vM.of (by decide) (Nat.le_of_ble_eq_true rfl) (fun C hCl hCD g R => ?_)
  subst hCl; subst hCD
  show VJ C 0 0 0 [(0, .ref a0), (1, .int (nI 1))] [] [(a0, .inr (8, [.int (nI v_a0_thrown), .ref a0_tape, .int (nI v_a0_taped), .ref a0_out, .int (nI v_a0_outs), .ref a0_slots, .ref a0_kept, .ref a0_phase, .ref a0_secret, .ref a0_key, .ref a0_hide, .ref a0_iv, .ref a0_begin, .ref a0_each, .ref a0_root, .ref a0_power, .ref a0_work, .ref a0_w, .ref a0_h, .ref a0_state, .ref a0_sum, .ref a0_pad, .ref a0_text, .int (nI v_a0_texts), .ref a0_info, .int (nI v_a0_infos), .ref a0_made, .ref a0_blockKey, .ref a0_nonce, .ref a0_x, .ref a0_first, .ref a0_block, .ref a0_a, .ref a0_r, .ref a0_product, .ref a0_tag, .ref a0_sealed]))]
  refine v_aload_n g dX8_look_0 0 rfl 0 rfl ?_
  refine v_iload_n g dX8_look_1 1 rfl 1 rfl ?_
  refine v_bipush g dX8_look_2 (v := nI 14) (by decide +kernel) ?_
  refine v_callS (As := [.int (nI 1), .int (nI 14)]) (rest := [.ref a0]) (wr := [(a0, .inr (8, [.int (nI v_a0_thrown), .ref a0_tape, .int (nI v_a0_taped), .ref a0_out, .int (nI v_a0_outs), .ref a0_slots, .ref a0_kept, .ref a0_phase, .ref a0_secret, .ref a0_key, .ref a0_hide, .ref a0_iv, .ref a0_begin, .ref a0_each, .ref a0_root, .ref a0_power, .ref a0_work, .ref a0_w, .ref a0_h, .ref a0_state, .ref a0_sum, .ref a0_pad, .ref a0_text, .int (nI v_a0_texts), .ref a0_info, .int (nI v_a0_infos), .ref a0_made, .ref a0_blockKey, .ref a0_nonce, .ref a0_x, .ref a0_first, .ref a0_block, .ref a0_a, .ref a0_r, .ref a0_product, .ref a0_tag, .ref a0_sealed]))]) cw_X8_221 (hy_X8_beyond) g (c_R_bey0 C.l C.D 1 14 (by omega) (by omega)) dX8_look_4 rfl (by decide) (by decide) (Nat.le_of_ble_eq_true rfl) [] [0] rfl rfl (by decide) rfl (by decide) (by decide) _ rfl (fun r wo hp1 => ?_)
  obtain ⟨rfl, rfl⟩ := hp1
  show VJ C 0 0 7 [(0, .ref a0), (1, .int (nI 1))] [.int (nI 0), .ref a0] [(a0, .inr (8, [.int (nI v_a0_thrown), .ref a0_tape, .int (nI v_a0_taped), .ref a0_out, .int (nI v_a0_outs), .ref a0_slots, .ref a0_kept, .ref a0_phase, .ref a0_secret, .ref a0_key, .ref a0_hide, .ref a0_iv, .ref a0_begin, .ref a0_each, .ref a0_root, .ref a0_power, .ref a0_work, .ref a0_w, .ref a0_h, .ref a0_state, .ref a0_sum, .ref a0_pad, .ref a0_text, .int (nI v_a0_texts), .ref a0_info, .int (nI v_a0_infos), .ref a0_made, .ref a0_blockKey, .ref a0_nonce, .ref a0_x, .ref a0_first, .ref a0_block, .ref a0_a, .ref a0_r, .ref a0_product, .ref a0_tag, .ref a0_sealed]))]
  refine v_iconst g dX8_look_7 (v := nI 1) (by decide +kernel) ?_
  refine v_callV (As := [.int (nI 0), .int (nI 1)]) (rest := []) (wr := []) cw_X8_211 (hy_X8_fails) g (c_R_fail0 C.l C.D a0 1 v_a0_thrown a0_tape v_a0_taped a0_out v_a0_outs a0_slots a0_kept a0_phase a0_secret a0_key a0_hide a0_iv a0_begin a0_each a0_root a0_power a0_work a0_w a0_h a0_state a0_sum a0_pad a0_text v_a0_texts a0_info v_a0_infos a0_made a0_blockKey a0_nonce a0_x a0_first a0_block a0_a a0_r a0_product a0_tag a0_sealed ) dX8_look_8 0 rfl rfl rfl (by decide) (by decide) (Nat.le_of_ble_eq_true rfl) [0] [] rfl rfl (by decide) rfl (by decide) (by decide) _ rfl (fun r wo hp2 => ?_)
  obtain ⟨rfl, rfl⟩ := hp2
  show VJ C 0 0 11 [(0, .ref a0), (1, .int (nI 1))] [.int (nI 0)] [(a0, .inr (8, [.int (nI 0), .ref a0_tape, .int (nI v_a0_taped), .ref a0_out, .int (nI v_a0_outs), .ref a0_slots, .ref a0_kept, .ref a0_phase, .ref a0_secret, .ref a0_key, .ref a0_hide, .ref a0_iv, .ref a0_begin, .ref a0_each, .ref a0_root, .ref a0_power, .ref a0_work, .ref a0_w, .ref a0_h, .ref a0_state, .ref a0_sum, .ref a0_pad, .ref a0_text, .int (nI v_a0_texts), .ref a0_info, .int (nI v_a0_infos), .ref a0_made, .ref a0_blockKey, .ref a0_nonce, .ref a0_x, .ref a0_first, .ref a0_block, .ref a0_a, .ref a0_r, .ref a0_product, .ref a0_tag, .ref a0_sealed]))]
  refine v_if_eqN g 16 dX8_look_11 (by decide) (by decide) (fun _ => ?_) (fun h => absurd h (by decide))
  refine v_iload_n g dX8_look_16 1 rfl 1 rfl ?_
  refine v_if_neN g 27 dX8_look_17 (by decide) (by decide) (fun _ => ?_) (fun h => absurd h (by decide))
  refine v_iload_n g dX8_look_27 1 rfl 1 rfl ?_
  refine v_iconst g dX8_look_28 (v := nI 1) (by decide +kernel) ?_
  refine v_icmp_neN g 39 dX8_look_29 (by decide) (by decide) (by decide) (fun h => absurd h (by decide)) (fun _ => ?_)
  refine v_aload_n g dX8_look_32 0 rfl 0 rfl ?_
  refine gf_X8_218 g dX8_look_33 0 rfl rfl ?_
  refine v_goto g 65 dX8_look_36 (by decide) ?_
  exact v_iret g R dX8_look_65 (by decide) (by decide) ⟨rfl, rfl⟩
set_option maxHeartbeats 4000000 in
set_option maxRecDepth 100000 in
theorem m_look2 (l : Launch) (D : va_G) (a0 : Nat) (v_a0_thrown : Nat) (a0_tape : Nat) (v_a0_taped : Nat) (a0_out : Nat) (v_a0_outs : Nat) (a0_slots : Nat) (a0_kept : Nat) (a0_phase : Nat) (a0_secret : Nat) (a0_key : Nat) (a0_hide : Nat) (a0_iv : Nat) (a0_begin : Nat) (a0_each : Nat) (a0_root : Nat) (a0_power : Nat) (a0_work : Nat) (a0_w : Nat) (a0_h : Nat) (a0_state : Nat) (a0_sum : Nat) (a0_pad : Nat) (a0_text : Nat) (v_a0_texts : Nat) (a0_info : Nat) (v_a0_infos : Nat) (a0_made : Nat) (a0_blockKey : Nat) (a0_nonce : Nat) (a0_x : Nat) (a0_first : Nat) (a0_block : Nat) (a0_a : Nat) (a0_r : Nat) (a0_product : Nat) (a0_tag : Nat) (a0_sealed : Nat) (t_a0_kept : Nat → Nat)   : vM l D yX8_look cX8_look 2 (some .int) { frames := 1, cells := 0, slots := 0, locals := 22 } [.ref a0, .int (nI 2)] [(a0, .inr (8, [.int (nI v_a0_thrown), .ref a0_tape, .int (nI v_a0_taped), .ref a0_out, .int (nI v_a0_outs), .ref a0_slots, .ref a0_kept, .ref a0_phase, .ref a0_secret, .ref a0_key, .ref a0_hide, .ref a0_iv, .ref a0_begin, .ref a0_each, .ref a0_root, .ref a0_power, .ref a0_work, .ref a0_w, .ref a0_h, .ref a0_state, .ref a0_sum, .ref a0_pad, .ref a0_text, .int (nI v_a0_texts), .ref a0_info, .int (nI v_a0_infos), .ref a0_made, .ref a0_blockKey, .ref a0_nonce, .ref a0_x, .ref a0_first, .ref a0_block, .ref a0_a, .ref a0_r, .ref a0_product, .ref a0_tag, .ref a0_sealed])), (a0_kept, aN D 8 t_a0_kept)] (fun r wo => r = some (.int (nI (t_a0_kept 0))) ∧ wo = [(a0, .inr (8, [.int (nI 0), .ref a0_tape, .int (nI v_a0_taped), .ref a0_out, .int (nI v_a0_outs), .ref a0_slots, .ref a0_kept, .ref a0_phase, .ref a0_secret, .ref a0_key, .ref a0_hide, .ref a0_iv, .ref a0_begin, .ref a0_each, .ref a0_root, .ref a0_power, .ref a0_work, .ref a0_w, .ref a0_h, .ref a0_state, .ref a0_sum, .ref a0_pad, .ref a0_text, .int (nI v_a0_texts), .ref a0_info, .int (nI v_a0_infos), .ref a0_made, .ref a0_blockKey, .ref a0_nonce, .ref a0_x, .ref a0_first, .ref a0_block, .ref a0_a, .ref a0_r, .ref a0_product, .ref a0_tag, .ref a0_sealed])), (a0_kept, aN D 8 t_a0_kept)]) := by
  refine vM.of (by decide) (Nat.le_of_ble_eq_true rfl) (fun C hCl hCD g R => ?_)
  subst hCl; subst hCD
  show VJ C 0 0 0 [(0, .ref a0), (1, .int (nI 2))] [] [(a0, .inr (8, [.int (nI v_a0_thrown), .ref a0_tape, .int (nI v_a0_taped), .ref a0_out, .int (nI v_a0_outs), .ref a0_slots, .ref a0_kept, .ref a0_phase, .ref a0_secret, .ref a0_key, .ref a0_hide, .ref a0_iv, .ref a0_begin, .ref a0_each, .ref a0_root, .ref a0_power, .ref a0_work, .ref a0_w, .ref a0_h, .ref a0_state, .ref a0_sum, .ref a0_pad, .ref a0_text, .int (nI v_a0_texts), .ref a0_info, .int (nI v_a0_infos), .ref a0_made, .ref a0_blockKey, .ref a0_nonce, .ref a0_x, .ref a0_first, .ref a0_block, .ref a0_a, .ref a0_r, .ref a0_product, .ref a0_tag, .ref a0_sealed])), (a0_kept, aN C.D 8 t_a0_kept)]
  refine v_aload_n g dX8_look_0 0 rfl 0 rfl ?_
  refine v_iload_n g dX8_look_1 1 rfl 1 rfl ?_
  refine v_bipush g dX8_look_2 (v := nI 14) (by decide +kernel) ?_
  refine v_callS (As := [.int (nI 2), .int (nI 14)]) (rest := [.ref a0]) (wr := [(a0, .inr (8, [.int (nI v_a0_thrown), .ref a0_tape, .int (nI v_a0_taped), .ref a0_out, .int (nI v_a0_outs), .ref a0_slots, .ref a0_kept, .ref a0_phase, .ref a0_secret, .ref a0_key, .ref a0_hide, .ref a0_iv, .ref a0_begin, .ref a0_each, .ref a0_root, .ref a0_power, .ref a0_work, .ref a0_w, .ref a0_h, .ref a0_state, .ref a0_sum, .ref a0_pad, .ref a0_text, .int (nI v_a0_texts), .ref a0_info, .int (nI v_a0_infos), .ref a0_made, .ref a0_blockKey, .ref a0_nonce, .ref a0_x, .ref a0_first, .ref a0_block, .ref a0_a, .ref a0_r, .ref a0_product, .ref a0_tag, .ref a0_sealed])), (a0_kept, aN C.D 8 t_a0_kept)]) cw_X8_221 (hy_X8_beyond) g (c_R_bey0 C.l C.D 2 14 (by omega) (by omega)) dX8_look_4 rfl (by decide) (by decide) (Nat.le_of_ble_eq_true rfl) [] [0, 1] rfl rfl (by decide) rfl (by decide) (by decide) _ rfl (fun r wo hp1 => ?_)
  obtain ⟨rfl, rfl⟩ := hp1
  show VJ C 0 0 7 [(0, .ref a0), (1, .int (nI 2))] [.int (nI 0), .ref a0] [(a0, .inr (8, [.int (nI v_a0_thrown), .ref a0_tape, .int (nI v_a0_taped), .ref a0_out, .int (nI v_a0_outs), .ref a0_slots, .ref a0_kept, .ref a0_phase, .ref a0_secret, .ref a0_key, .ref a0_hide, .ref a0_iv, .ref a0_begin, .ref a0_each, .ref a0_root, .ref a0_power, .ref a0_work, .ref a0_w, .ref a0_h, .ref a0_state, .ref a0_sum, .ref a0_pad, .ref a0_text, .int (nI v_a0_texts), .ref a0_info, .int (nI v_a0_infos), .ref a0_made, .ref a0_blockKey, .ref a0_nonce, .ref a0_x, .ref a0_first, .ref a0_block, .ref a0_a, .ref a0_r, .ref a0_product, .ref a0_tag, .ref a0_sealed])), (a0_kept, aN C.D 8 t_a0_kept)]
  refine v_iconst g dX8_look_7 (v := nI 1) (by decide +kernel) ?_
  refine v_callV (As := [.int (nI 0), .int (nI 1)]) (rest := []) (wr := [(a0_kept, aN C.D 8 t_a0_kept)]) cw_X8_211 (hy_X8_fails) g (c_R_fail0 C.l C.D a0 1 v_a0_thrown a0_tape v_a0_taped a0_out v_a0_outs a0_slots a0_kept a0_phase a0_secret a0_key a0_hide a0_iv a0_begin a0_each a0_root a0_power a0_work a0_w a0_h a0_state a0_sum a0_pad a0_text v_a0_texts a0_info v_a0_infos a0_made a0_blockKey a0_nonce a0_x a0_first a0_block a0_a a0_r a0_product a0_tag a0_sealed ) dX8_look_8 0 rfl rfl rfl (by decide) (by decide) (Nat.le_of_ble_eq_true rfl) [0] [1] rfl rfl (by decide) rfl (by decide) (by decide) _ rfl (fun r wo hp2 => ?_)
  obtain ⟨rfl, rfl⟩ := hp2
  refine v_perm [1, 0] [(a0, .inr (8, [.int (nI 0), .ref a0_tape, .int (nI v_a0_taped), .ref a0_out, .int (nI v_a0_outs), .ref a0_slots, .ref a0_kept, .ref a0_phase, .ref a0_secret, .ref a0_key, .ref a0_hide, .ref a0_iv, .ref a0_begin, .ref a0_each, .ref a0_root, .ref a0_power, .ref a0_work, .ref a0_w, .ref a0_h, .ref a0_state, .ref a0_sum, .ref a0_pad, .ref a0_text, .int (nI v_a0_texts), .ref a0_info, .int (nI v_a0_infos), .ref a0_made, .ref a0_blockKey, .ref a0_nonce, .ref a0_x, .ref a0_first, .ref a0_block, .ref a0_a, .ref a0_r, .ref a0_product, .ref a0_tag, .ref a0_sealed])), (a0_kept, aN C.D 8 t_a0_kept)] (by decide) rfl rfl ?_
  show VJ C 0 0 11 [(0, .ref a0), (1, .int (nI 2))] [.int (nI 0)] [(a0, .inr (8, [.int (nI 0), .ref a0_tape, .int (nI v_a0_taped), .ref a0_out, .int (nI v_a0_outs), .ref a0_slots, .ref a0_kept, .ref a0_phase, .ref a0_secret, .ref a0_key, .ref a0_hide, .ref a0_iv, .ref a0_begin, .ref a0_each, .ref a0_root, .ref a0_power, .ref a0_work, .ref a0_w, .ref a0_h, .ref a0_state, .ref a0_sum, .ref a0_pad, .ref a0_text, .int (nI v_a0_texts), .ref a0_info, .int (nI v_a0_infos), .ref a0_made, .ref a0_blockKey, .ref a0_nonce, .ref a0_x, .ref a0_first, .ref a0_block, .ref a0_a, .ref a0_r, .ref a0_product, .ref a0_tag, .ref a0_sealed])), (a0_kept, aN C.D 8 t_a0_kept)]
  refine v_if_eqN g 16 dX8_look_11 (by decide) (by decide) (fun _ => ?_) (fun h => absurd h (by decide))
  refine v_iload_n g dX8_look_16 1 rfl 1 rfl ?_
  refine v_if_neN g 27 dX8_look_17 (by decide) (by decide) (fun _ => ?_) (fun h => absurd h (by decide))
  refine v_iload_n g dX8_look_27 1 rfl 1 rfl ?_
  refine v_iconst g dX8_look_28 (v := nI 1) (by decide +kernel) ?_
  refine v_icmp_neN g 39 dX8_look_29 (by decide) (by decide) (by decide) (fun _ => ?_) (fun h => absurd h (by decide))
  refine v_iload_n g dX8_look_39 1 rfl 1 rfl ?_
  refine v_bipush g dX8_look_40 (v := nI 10) (by decide +kernel) ?_
  refine v_icmp_geN g 56 dX8_look_42 (by decide) (by decide) (by decide) (fun h => absurd h (by decide)) (fun _ => ?_)
  refine v_aload_n g dX8_look_45 0 rfl 0 rfl ?_
  refine gf_X8_19 g dX8_look_46 0 rfl rfl ?_
  refine v_iload_n g dX8_look_49 1 rfl 1 rfl ?_
  refine v_iconst g dX8_look_50 (v := nI 2) (by decide +kernel) ?_
  refine v_isubN g dX8_look_51 (by decide) ?_
  refine v_toi (nI 0) rfl ?_
  refine v_ialdN g 1 rfl (by decide) (by decide) dX8_look_52 ?_
  refine v_goto g 65 dX8_look_53 (by decide) ?_
  exact v_iret g R dX8_look_65 (by decide) (by decide) ⟨rfl, rfl⟩
set_option maxHeartbeats 4000000 in
set_option maxRecDepth 100000 in
theorem m_look3 (l : Launch) (D : va_G) (a0 : Nat) (v_a0_thrown : Nat) (a0_tape : Nat) (v_a0_taped : Nat) (a0_out : Nat) (v_a0_outs : Nat) (a0_slots : Nat) (a0_kept : Nat) (a0_phase : Nat) (a0_secret : Nat) (a0_key : Nat) (a0_hide : Nat) (a0_iv : Nat) (a0_begin : Nat) (a0_each : Nat) (a0_root : Nat) (a0_power : Nat) (a0_work : Nat) (a0_w : Nat) (a0_h : Nat) (a0_state : Nat) (a0_sum : Nat) (a0_pad : Nat) (a0_text : Nat) (v_a0_texts : Nat) (a0_info : Nat) (v_a0_infos : Nat) (a0_made : Nat) (a0_blockKey : Nat) (a0_nonce : Nat) (a0_x : Nat) (a0_first : Nat) (a0_block : Nat) (a0_a : Nat) (a0_r : Nat) (a0_product : Nat) (a0_tag : Nat) (a0_sealed : Nat) (t_a0_kept : Nat → Nat)   : vM l D yX8_look cX8_look 2 (some .int) { frames := 1, cells := 0, slots := 0, locals := 22 } [.ref a0, .int (nI 3)] [(a0, .inr (8, [.int (nI v_a0_thrown), .ref a0_tape, .int (nI v_a0_taped), .ref a0_out, .int (nI v_a0_outs), .ref a0_slots, .ref a0_kept, .ref a0_phase, .ref a0_secret, .ref a0_key, .ref a0_hide, .ref a0_iv, .ref a0_begin, .ref a0_each, .ref a0_root, .ref a0_power, .ref a0_work, .ref a0_w, .ref a0_h, .ref a0_state, .ref a0_sum, .ref a0_pad, .ref a0_text, .int (nI v_a0_texts), .ref a0_info, .int (nI v_a0_infos), .ref a0_made, .ref a0_blockKey, .ref a0_nonce, .ref a0_x, .ref a0_first, .ref a0_block, .ref a0_a, .ref a0_r, .ref a0_product, .ref a0_tag, .ref a0_sealed])), (a0_kept, aN D 8 t_a0_kept)] (fun r wo => r = some (.int (nI (t_a0_kept 1))) ∧ wo = [(a0, .inr (8, [.int (nI 0), .ref a0_tape, .int (nI v_a0_taped), .ref a0_out, .int (nI v_a0_outs), .ref a0_slots, .ref a0_kept, .ref a0_phase, .ref a0_secret, .ref a0_key, .ref a0_hide, .ref a0_iv, .ref a0_begin, .ref a0_each, .ref a0_root, .ref a0_power, .ref a0_work, .ref a0_w, .ref a0_h, .ref a0_state, .ref a0_sum, .ref a0_pad, .ref a0_text, .int (nI v_a0_texts), .ref a0_info, .int (nI v_a0_infos), .ref a0_made, .ref a0_blockKey, .ref a0_nonce, .ref a0_x, .ref a0_first, .ref a0_block, .ref a0_a, .ref a0_r, .ref a0_product, .ref a0_tag, .ref a0_sealed])), (a0_kept, aN D 8 t_a0_kept)]) := by
  refine vM.of (by decide) (Nat.le_of_ble_eq_true rfl) (fun C hCl hCD g R => ?_)
  subst hCl; subst hCD
  show VJ C 0 0 0 [(0, .ref a0), (1, .int (nI 3))] [] [(a0, .inr (8, [.int (nI v_a0_thrown), .ref a0_tape, .int (nI v_a0_taped), .ref a0_out, .int (nI v_a0_outs), .ref a0_slots, .ref a0_kept, .ref a0_phase, .ref a0_secret, .ref a0_key, .ref a0_hide, .ref a0_iv, .ref a0_begin, .ref a0_each, .ref a0_root, .ref a0_power, .ref a0_work, .ref a0_w, .ref a0_h, .ref a0_state, .ref a0_sum, .ref a0_pad, .ref a0_text, .int (nI v_a0_texts), .ref a0_info, .int (nI v_a0_infos), .ref a0_made, .ref a0_blockKey, .ref a0_nonce, .ref a0_x, .ref a0_first, .ref a0_block, .ref a0_a, .ref a0_r, .ref a0_product, .ref a0_tag, .ref a0_sealed])), (a0_kept, aN C.D 8 t_a0_kept)]
  refine v_aload_n g dX8_look_0 0 rfl 0 rfl ?_
  refine v_iload_n g dX8_look_1 1 rfl 1 rfl ?_
  refine v_bipush g dX8_look_2 (v := nI 14) (by decide +kernel) ?_
  refine v_callS (As := [.int (nI 3), .int (nI 14)]) (rest := [.ref a0]) (wr := [(a0, .inr (8, [.int (nI v_a0_thrown), .ref a0_tape, .int (nI v_a0_taped), .ref a0_out, .int (nI v_a0_outs), .ref a0_slots, .ref a0_kept, .ref a0_phase, .ref a0_secret, .ref a0_key, .ref a0_hide, .ref a0_iv, .ref a0_begin, .ref a0_each, .ref a0_root, .ref a0_power, .ref a0_work, .ref a0_w, .ref a0_h, .ref a0_state, .ref a0_sum, .ref a0_pad, .ref a0_text, .int (nI v_a0_texts), .ref a0_info, .int (nI v_a0_infos), .ref a0_made, .ref a0_blockKey, .ref a0_nonce, .ref a0_x, .ref a0_first, .ref a0_block, .ref a0_a, .ref a0_r, .ref a0_product, .ref a0_tag, .ref a0_sealed])), (a0_kept, aN C.D 8 t_a0_kept)]) cw_X8_221 (hy_X8_beyond) g (c_R_bey0 C.l C.D 3 14 (by omega) (by omega)) dX8_look_4 rfl (by decide) (by decide) (Nat.le_of_ble_eq_true rfl) [] [0, 1] rfl rfl (by decide) rfl (by decide) (by decide) _ rfl (fun r wo hp1 => ?_)
  obtain ⟨rfl, rfl⟩ := hp1
  show VJ C 0 0 7 [(0, .ref a0), (1, .int (nI 3))] [.int (nI 0), .ref a0] [(a0, .inr (8, [.int (nI v_a0_thrown), .ref a0_tape, .int (nI v_a0_taped), .ref a0_out, .int (nI v_a0_outs), .ref a0_slots, .ref a0_kept, .ref a0_phase, .ref a0_secret, .ref a0_key, .ref a0_hide, .ref a0_iv, .ref a0_begin, .ref a0_each, .ref a0_root, .ref a0_power, .ref a0_work, .ref a0_w, .ref a0_h, .ref a0_state, .ref a0_sum, .ref a0_pad, .ref a0_text, .int (nI v_a0_texts), .ref a0_info, .int (nI v_a0_infos), .ref a0_made, .ref a0_blockKey, .ref a0_nonce, .ref a0_x, .ref a0_first, .ref a0_block, .ref a0_a, .ref a0_r, .ref a0_product, .ref a0_tag, .ref a0_sealed])), (a0_kept, aN C.D 8 t_a0_kept)]
  refine v_iconst g dX8_look_7 (v := nI 1) (by decide +kernel) ?_
  refine v_callV (As := [.int (nI 0), .int (nI 1)]) (rest := []) (wr := [(a0_kept, aN C.D 8 t_a0_kept)]) cw_X8_211 (hy_X8_fails) g (c_R_fail0 C.l C.D a0 1 v_a0_thrown a0_tape v_a0_taped a0_out v_a0_outs a0_slots a0_kept a0_phase a0_secret a0_key a0_hide a0_iv a0_begin a0_each a0_root a0_power a0_work a0_w a0_h a0_state a0_sum a0_pad a0_text v_a0_texts a0_info v_a0_infos a0_made a0_blockKey a0_nonce a0_x a0_first a0_block a0_a a0_r a0_product a0_tag a0_sealed ) dX8_look_8 0 rfl rfl rfl (by decide) (by decide) (Nat.le_of_ble_eq_true rfl) [0] [1] rfl rfl (by decide) rfl (by decide) (by decide) _ rfl (fun r wo hp2 => ?_)
  obtain ⟨rfl, rfl⟩ := hp2
  refine v_perm [1, 0] [(a0, .inr (8, [.int (nI 0), .ref a0_tape, .int (nI v_a0_taped), .ref a0_out, .int (nI v_a0_outs), .ref a0_slots, .ref a0_kept, .ref a0_phase, .ref a0_secret, .ref a0_key, .ref a0_hide, .ref a0_iv, .ref a0_begin, .ref a0_each, .ref a0_root, .ref a0_power, .ref a0_work, .ref a0_w, .ref a0_h, .ref a0_state, .ref a0_sum, .ref a0_pad, .ref a0_text, .int (nI v_a0_texts), .ref a0_info, .int (nI v_a0_infos), .ref a0_made, .ref a0_blockKey, .ref a0_nonce, .ref a0_x, .ref a0_first, .ref a0_block, .ref a0_a, .ref a0_r, .ref a0_product, .ref a0_tag, .ref a0_sealed])), (a0_kept, aN C.D 8 t_a0_kept)] (by decide) rfl rfl ?_
  show VJ C 0 0 11 [(0, .ref a0), (1, .int (nI 3))] [.int (nI 0)] [(a0, .inr (8, [.int (nI 0), .ref a0_tape, .int (nI v_a0_taped), .ref a0_out, .int (nI v_a0_outs), .ref a0_slots, .ref a0_kept, .ref a0_phase, .ref a0_secret, .ref a0_key, .ref a0_hide, .ref a0_iv, .ref a0_begin, .ref a0_each, .ref a0_root, .ref a0_power, .ref a0_work, .ref a0_w, .ref a0_h, .ref a0_state, .ref a0_sum, .ref a0_pad, .ref a0_text, .int (nI v_a0_texts), .ref a0_info, .int (nI v_a0_infos), .ref a0_made, .ref a0_blockKey, .ref a0_nonce, .ref a0_x, .ref a0_first, .ref a0_block, .ref a0_a, .ref a0_r, .ref a0_product, .ref a0_tag, .ref a0_sealed])), (a0_kept, aN C.D 8 t_a0_kept)]
  refine v_if_eqN g 16 dX8_look_11 (by decide) (by decide) (fun _ => ?_) (fun h => absurd h (by decide))
  refine v_iload_n g dX8_look_16 1 rfl 1 rfl ?_
  refine v_if_neN g 27 dX8_look_17 (by decide) (by decide) (fun _ => ?_) (fun h => absurd h (by decide))
  refine v_iload_n g dX8_look_27 1 rfl 1 rfl ?_
  refine v_iconst g dX8_look_28 (v := nI 1) (by decide +kernel) ?_
  refine v_icmp_neN g 39 dX8_look_29 (by decide) (by decide) (by decide) (fun _ => ?_) (fun h => absurd h (by decide))
  refine v_iload_n g dX8_look_39 1 rfl 1 rfl ?_
  refine v_bipush g dX8_look_40 (v := nI 10) (by decide +kernel) ?_
  refine v_icmp_geN g 56 dX8_look_42 (by decide) (by decide) (by decide) (fun h => absurd h (by decide)) (fun _ => ?_)
  refine v_aload_n g dX8_look_45 0 rfl 0 rfl ?_
  refine gf_X8_19 g dX8_look_46 0 rfl rfl ?_
  refine v_iload_n g dX8_look_49 1 rfl 1 rfl ?_
  refine v_iconst g dX8_look_50 (v := nI 2) (by decide +kernel) ?_
  refine v_isubN g dX8_look_51 (by decide) ?_
  refine v_toi (nI 1) rfl ?_
  refine v_ialdN g 1 rfl (by decide) (by decide) dX8_look_52 ?_
  refine v_goto g 65 dX8_look_53 (by decide) ?_
  exact v_iret g R dX8_look_65 (by decide) (by decide) ⟨rfl, rfl⟩
set_option maxHeartbeats 4000000 in
set_option maxRecDepth 100000 in
theorem m_look4 (l : Launch) (D : va_G) (a0 : Nat) (v_a0_thrown : Nat) (a0_tape : Nat) (v_a0_taped : Nat) (a0_out : Nat) (v_a0_outs : Nat) (a0_slots : Nat) (a0_kept : Nat) (a0_phase : Nat) (a0_secret : Nat) (a0_key : Nat) (a0_hide : Nat) (a0_iv : Nat) (a0_begin : Nat) (a0_each : Nat) (a0_root : Nat) (a0_power : Nat) (a0_work : Nat) (a0_w : Nat) (a0_h : Nat) (a0_state : Nat) (a0_sum : Nat) (a0_pad : Nat) (a0_text : Nat) (v_a0_texts : Nat) (a0_info : Nat) (v_a0_infos : Nat) (a0_made : Nat) (a0_blockKey : Nat) (a0_nonce : Nat) (a0_x : Nat) (a0_first : Nat) (a0_block : Nat) (a0_a : Nat) (a0_r : Nat) (a0_product : Nat) (a0_tag : Nat) (a0_sealed : Nat) (t_a0_kept : Nat → Nat)   : vM l D yX8_look cX8_look 2 (some .int) { frames := 1, cells := 0, slots := 0, locals := 22 } [.ref a0, .int (nI 4)] [(a0, .inr (8, [.int (nI v_a0_thrown), .ref a0_tape, .int (nI v_a0_taped), .ref a0_out, .int (nI v_a0_outs), .ref a0_slots, .ref a0_kept, .ref a0_phase, .ref a0_secret, .ref a0_key, .ref a0_hide, .ref a0_iv, .ref a0_begin, .ref a0_each, .ref a0_root, .ref a0_power, .ref a0_work, .ref a0_w, .ref a0_h, .ref a0_state, .ref a0_sum, .ref a0_pad, .ref a0_text, .int (nI v_a0_texts), .ref a0_info, .int (nI v_a0_infos), .ref a0_made, .ref a0_blockKey, .ref a0_nonce, .ref a0_x, .ref a0_first, .ref a0_block, .ref a0_a, .ref a0_r, .ref a0_product, .ref a0_tag, .ref a0_sealed])), (a0_kept, aN D 8 t_a0_kept)] (fun r wo => r = some (.int (nI (t_a0_kept 2))) ∧ wo = [(a0, .inr (8, [.int (nI 0), .ref a0_tape, .int (nI v_a0_taped), .ref a0_out, .int (nI v_a0_outs), .ref a0_slots, .ref a0_kept, .ref a0_phase, .ref a0_secret, .ref a0_key, .ref a0_hide, .ref a0_iv, .ref a0_begin, .ref a0_each, .ref a0_root, .ref a0_power, .ref a0_work, .ref a0_w, .ref a0_h, .ref a0_state, .ref a0_sum, .ref a0_pad, .ref a0_text, .int (nI v_a0_texts), .ref a0_info, .int (nI v_a0_infos), .ref a0_made, .ref a0_blockKey, .ref a0_nonce, .ref a0_x, .ref a0_first, .ref a0_block, .ref a0_a, .ref a0_r, .ref a0_product, .ref a0_tag, .ref a0_sealed])), (a0_kept, aN D 8 t_a0_kept)]) := by
  refine vM.of (by decide) (Nat.le_of_ble_eq_true rfl) (fun C hCl hCD g R => ?_)
  subst hCl; subst hCD
  show VJ C 0 0 0 [(0, .ref a0), (1, .int (nI 4))] [] [(a0, .inr (8, [.int (nI v_a0_thrown), .ref a0_tape, .int (nI v_a0_taped), .ref a0_out, .int (nI v_a0_outs), .ref a0_slots, .ref a0_kept, .ref a0_phase, .ref a0_secret, .ref a0_key, .ref a0_hide, .ref a0_iv, .ref a0_begin, .ref a0_each, .ref a0_root, .ref a0_power, .ref a0_work, .ref a0_w, .ref a0_h, .ref a0_state, .ref a0_sum, .ref a0_pad, .ref a0_text, .int (nI v_a0_texts), .ref a0_info, .int (nI v_a0_infos), .ref a0_made, .ref a0_blockKey, .ref a0_nonce, .ref a0_x, .ref a0_first, .ref a0_block, .ref a0_a, .ref a0_r, .ref a0_product, .ref a0_tag, .ref a0_sealed])), (a0_kept, aN C.D 8 t_a0_kept)]
  refine v_aload_n g dX8_look_0 0 rfl 0 rfl ?_
  refine v_iload_n g dX8_look_1 1 rfl 1 rfl ?_
  refine v_bipush g dX8_look_2 (v := nI 14) (by decide +kernel) ?_
  refine v_callS (As := [.int (nI 4), .int (nI 14)]) (rest := [.ref a0]) (wr := [(a0, .inr (8, [.int (nI v_a0_thrown), .ref a0_tape, .int (nI v_a0_taped), .ref a0_out, .int (nI v_a0_outs), .ref a0_slots, .ref a0_kept, .ref a0_phase, .ref a0_secret, .ref a0_key, .ref a0_hide, .ref a0_iv, .ref a0_begin, .ref a0_each, .ref a0_root, .ref a0_power, .ref a0_work, .ref a0_w, .ref a0_h, .ref a0_state, .ref a0_sum, .ref a0_pad, .ref a0_text, .int (nI v_a0_texts), .ref a0_info, .int (nI v_a0_infos), .ref a0_made, .ref a0_blockKey, .ref a0_nonce, .ref a0_x, .ref a0_first, .ref a0_block, .ref a0_a, .ref a0_r, .ref a0_product, .ref a0_tag, .ref a0_sealed])), (a0_kept, aN C.D 8 t_a0_kept)]) cw_X8_221 (hy_X8_beyond) g (c_R_bey0 C.l C.D 4 14 (by omega) (by omega)) dX8_look_4 rfl (by decide) (by decide) (Nat.le_of_ble_eq_true rfl) [] [0, 1] rfl rfl (by decide) rfl (by decide) (by decide) _ rfl (fun r wo hp1 => ?_)
  obtain ⟨rfl, rfl⟩ := hp1
  show VJ C 0 0 7 [(0, .ref a0), (1, .int (nI 4))] [.int (nI 0), .ref a0] [(a0, .inr (8, [.int (nI v_a0_thrown), .ref a0_tape, .int (nI v_a0_taped), .ref a0_out, .int (nI v_a0_outs), .ref a0_slots, .ref a0_kept, .ref a0_phase, .ref a0_secret, .ref a0_key, .ref a0_hide, .ref a0_iv, .ref a0_begin, .ref a0_each, .ref a0_root, .ref a0_power, .ref a0_work, .ref a0_w, .ref a0_h, .ref a0_state, .ref a0_sum, .ref a0_pad, .ref a0_text, .int (nI v_a0_texts), .ref a0_info, .int (nI v_a0_infos), .ref a0_made, .ref a0_blockKey, .ref a0_nonce, .ref a0_x, .ref a0_first, .ref a0_block, .ref a0_a, .ref a0_r, .ref a0_product, .ref a0_tag, .ref a0_sealed])), (a0_kept, aN C.D 8 t_a0_kept)]
  refine v_iconst g dX8_look_7 (v := nI 1) (by decide +kernel) ?_
  refine v_callV (As := [.int (nI 0), .int (nI 1)]) (rest := []) (wr := [(a0_kept, aN C.D 8 t_a0_kept)]) cw_X8_211 (hy_X8_fails) g (c_R_fail0 C.l C.D a0 1 v_a0_thrown a0_tape v_a0_taped a0_out v_a0_outs a0_slots a0_kept a0_phase a0_secret a0_key a0_hide a0_iv a0_begin a0_each a0_root a0_power a0_work a0_w a0_h a0_state a0_sum a0_pad a0_text v_a0_texts a0_info v_a0_infos a0_made a0_blockKey a0_nonce a0_x a0_first a0_block a0_a a0_r a0_product a0_tag a0_sealed ) dX8_look_8 0 rfl rfl rfl (by decide) (by decide) (Nat.le_of_ble_eq_true rfl) [0] [1] rfl rfl (by decide) rfl (by decide) (by decide) _ rfl (fun r wo hp2 => ?_)
  obtain ⟨rfl, rfl⟩ := hp2
  refine v_perm [1, 0] [(a0, .inr (8, [.int (nI 0), .ref a0_tape, .int (nI v_a0_taped), .ref a0_out, .int (nI v_a0_outs), .ref a0_slots, .ref a0_kept, .ref a0_phase, .ref a0_secret, .ref a0_key, .ref a0_hide, .ref a0_iv, .ref a0_begin, .ref a0_each, .ref a0_root, .ref a0_power, .ref a0_work, .ref a0_w, .ref a0_h, .ref a0_state, .ref a0_sum, .ref a0_pad, .ref a0_text, .int (nI v_a0_texts), .ref a0_info, .int (nI v_a0_infos), .ref a0_made, .ref a0_blockKey, .ref a0_nonce, .ref a0_x, .ref a0_first, .ref a0_block, .ref a0_a, .ref a0_r, .ref a0_product, .ref a0_tag, .ref a0_sealed])), (a0_kept, aN C.D 8 t_a0_kept)] (by decide) rfl rfl ?_
  show VJ C 0 0 11 [(0, .ref a0), (1, .int (nI 4))] [.int (nI 0)] [(a0, .inr (8, [.int (nI 0), .ref a0_tape, .int (nI v_a0_taped), .ref a0_out, .int (nI v_a0_outs), .ref a0_slots, .ref a0_kept, .ref a0_phase, .ref a0_secret, .ref a0_key, .ref a0_hide, .ref a0_iv, .ref a0_begin, .ref a0_each, .ref a0_root, .ref a0_power, .ref a0_work, .ref a0_w, .ref a0_h, .ref a0_state, .ref a0_sum, .ref a0_pad, .ref a0_text, .int (nI v_a0_texts), .ref a0_info, .int (nI v_a0_infos), .ref a0_made, .ref a0_blockKey, .ref a0_nonce, .ref a0_x, .ref a0_first, .ref a0_block, .ref a0_a, .ref a0_r, .ref a0_product, .ref a0_tag, .ref a0_sealed])), (a0_kept, aN C.D 8 t_a0_kept)]
  refine v_if_eqN g 16 dX8_look_11 (by decide) (by decide) (fun _ => ?_) (fun h => absurd h (by decide))
  refine v_iload_n g dX8_look_16 1 rfl 1 rfl ?_
  refine v_if_neN g 27 dX8_look_17 (by decide) (by decide) (fun _ => ?_) (fun h => absurd h (by decide))
  refine v_iload_n g dX8_look_27 1 rfl 1 rfl ?_
  refine v_iconst g dX8_look_28 (v := nI 1) (by decide +kernel) ?_
  refine v_icmp_neN g 39 dX8_look_29 (by decide) (by decide) (by decide) (fun _ => ?_) (fun h => absurd h (by decide))
  refine v_iload_n g dX8_look_39 1 rfl 1 rfl ?_
  refine v_bipush g dX8_look_40 (v := nI 10) (by decide +kernel) ?_
  refine v_icmp_geN g 56 dX8_look_42 (by decide) (by decide) (by decide) (fun h => absurd h (by decide)) (fun _ => ?_)
  refine v_aload_n g dX8_look_45 0 rfl 0 rfl ?_
  refine gf_X8_19 g dX8_look_46 0 rfl rfl ?_
  refine v_iload_n g dX8_look_49 1 rfl 1 rfl ?_
  refine v_iconst g dX8_look_50 (v := nI 2) (by decide +kernel) ?_
  refine v_isubN g dX8_look_51 (by decide) ?_
  refine v_toi (nI 2) rfl ?_
  refine v_ialdN g 1 rfl (by decide) (by decide) dX8_look_52 ?_
  refine v_goto g 65 dX8_look_53 (by decide) ?_
  exact v_iret g R dX8_look_65 (by decide) (by decide) ⟨rfl, rfl⟩
set_option maxHeartbeats 4000000 in
set_option maxRecDepth 100000 in
theorem m_look5 (l : Launch) (D : va_G) (a0 : Nat) (v_a0_thrown : Nat) (a0_tape : Nat) (v_a0_taped : Nat) (a0_out : Nat) (v_a0_outs : Nat) (a0_slots : Nat) (a0_kept : Nat) (a0_phase : Nat) (a0_secret : Nat) (a0_key : Nat) (a0_hide : Nat) (a0_iv : Nat) (a0_begin : Nat) (a0_each : Nat) (a0_root : Nat) (a0_power : Nat) (a0_work : Nat) (a0_w : Nat) (a0_h : Nat) (a0_state : Nat) (a0_sum : Nat) (a0_pad : Nat) (a0_text : Nat) (v_a0_texts : Nat) (a0_info : Nat) (v_a0_infos : Nat) (a0_made : Nat) (a0_blockKey : Nat) (a0_nonce : Nat) (a0_x : Nat) (a0_first : Nat) (a0_block : Nat) (a0_a : Nat) (a0_r : Nat) (a0_product : Nat) (a0_tag : Nat) (a0_sealed : Nat) (t_a0_kept : Nat → Nat)   : vM l D yX8_look cX8_look 2 (some .int) { frames := 1, cells := 0, slots := 0, locals := 22 } [.ref a0, .int (nI 5)] [(a0, .inr (8, [.int (nI v_a0_thrown), .ref a0_tape, .int (nI v_a0_taped), .ref a0_out, .int (nI v_a0_outs), .ref a0_slots, .ref a0_kept, .ref a0_phase, .ref a0_secret, .ref a0_key, .ref a0_hide, .ref a0_iv, .ref a0_begin, .ref a0_each, .ref a0_root, .ref a0_power, .ref a0_work, .ref a0_w, .ref a0_h, .ref a0_state, .ref a0_sum, .ref a0_pad, .ref a0_text, .int (nI v_a0_texts), .ref a0_info, .int (nI v_a0_infos), .ref a0_made, .ref a0_blockKey, .ref a0_nonce, .ref a0_x, .ref a0_first, .ref a0_block, .ref a0_a, .ref a0_r, .ref a0_product, .ref a0_tag, .ref a0_sealed])), (a0_kept, aN D 8 t_a0_kept)] (fun r wo => r = some (.int (nI (t_a0_kept 3))) ∧ wo = [(a0, .inr (8, [.int (nI 0), .ref a0_tape, .int (nI v_a0_taped), .ref a0_out, .int (nI v_a0_outs), .ref a0_slots, .ref a0_kept, .ref a0_phase, .ref a0_secret, .ref a0_key, .ref a0_hide, .ref a0_iv, .ref a0_begin, .ref a0_each, .ref a0_root, .ref a0_power, .ref a0_work, .ref a0_w, .ref a0_h, .ref a0_state, .ref a0_sum, .ref a0_pad, .ref a0_text, .int (nI v_a0_texts), .ref a0_info, .int (nI v_a0_infos), .ref a0_made, .ref a0_blockKey, .ref a0_nonce, .ref a0_x, .ref a0_first, .ref a0_block, .ref a0_a, .ref a0_r, .ref a0_product, .ref a0_tag, .ref a0_sealed])), (a0_kept, aN D 8 t_a0_kept)]) := by
  refine vM.of (by decide) (Nat.le_of_ble_eq_true rfl) (fun C hCl hCD g R => ?_)
  subst hCl; subst hCD
  show VJ C 0 0 0 [(0, .ref a0), (1, .int (nI 5))] [] [(a0, .inr (8, [.int (nI v_a0_thrown), .ref a0_tape, .int (nI v_a0_taped), .ref a0_out, .int (nI v_a0_outs), .ref a0_slots, .ref a0_kept, .ref a0_phase, .ref a0_secret, .ref a0_key, .ref a0_hide, .ref a0_iv, .ref a0_begin, .ref a0_each, .ref a0_root, .ref a0_power, .ref a0_work, .ref a0_w, .ref a0_h, .ref a0_state, .ref a0_sum, .ref a0_pad, .ref a0_text, .int (nI v_a0_texts), .ref a0_info, .int (nI v_a0_infos), .ref a0_made, .ref a0_blockKey, .ref a0_nonce, .ref a0_x, .ref a0_first, .ref a0_block, .ref a0_a, .ref a0_r, .ref a0_product, .ref a0_tag, .ref a0_sealed])), (a0_kept, aN C.D 8 t_a0_kept)]
  refine v_aload_n g dX8_look_0 0 rfl 0 rfl ?_
  refine v_iload_n g dX8_look_1 1 rfl 1 rfl ?_
  refine v_bipush g dX8_look_2 (v := nI 14) (by decide +kernel) ?_
  refine v_callS (As := [.int (nI 5), .int (nI 14)]) (rest := [.ref a0]) (wr := [(a0, .inr (8, [.int (nI v_a0_thrown), .ref a0_tape, .int (nI v_a0_taped), .ref a0_out, .int (nI v_a0_outs), .ref a0_slots, .ref a0_kept, .ref a0_phase, .ref a0_secret, .ref a0_key, .ref a0_hide, .ref a0_iv, .ref a0_begin, .ref a0_each, .ref a0_root, .ref a0_power, .ref a0_work, .ref a0_w, .ref a0_h, .ref a0_state, .ref a0_sum, .ref a0_pad, .ref a0_text, .int (nI v_a0_texts), .ref a0_info, .int (nI v_a0_infos), .ref a0_made, .ref a0_blockKey, .ref a0_nonce, .ref a0_x, .ref a0_first, .ref a0_block, .ref a0_a, .ref a0_r, .ref a0_product, .ref a0_tag, .ref a0_sealed])), (a0_kept, aN C.D 8 t_a0_kept)]) cw_X8_221 (hy_X8_beyond) g (c_R_bey0 C.l C.D 5 14 (by omega) (by omega)) dX8_look_4 rfl (by decide) (by decide) (Nat.le_of_ble_eq_true rfl) [] [0, 1] rfl rfl (by decide) rfl (by decide) (by decide) _ rfl (fun r wo hp1 => ?_)
  obtain ⟨rfl, rfl⟩ := hp1
  show VJ C 0 0 7 [(0, .ref a0), (1, .int (nI 5))] [.int (nI 0), .ref a0] [(a0, .inr (8, [.int (nI v_a0_thrown), .ref a0_tape, .int (nI v_a0_taped), .ref a0_out, .int (nI v_a0_outs), .ref a0_slots, .ref a0_kept, .ref a0_phase, .ref a0_secret, .ref a0_key, .ref a0_hide, .ref a0_iv, .ref a0_begin, .ref a0_each, .ref a0_root, .ref a0_power, .ref a0_work, .ref a0_w, .ref a0_h, .ref a0_state, .ref a0_sum, .ref a0_pad, .ref a0_text, .int (nI v_a0_texts), .ref a0_info, .int (nI v_a0_infos), .ref a0_made, .ref a0_blockKey, .ref a0_nonce, .ref a0_x, .ref a0_first, .ref a0_block, .ref a0_a, .ref a0_r, .ref a0_product, .ref a0_tag, .ref a0_sealed])), (a0_kept, aN C.D 8 t_a0_kept)]
  refine v_iconst g dX8_look_7 (v := nI 1) (by decide +kernel) ?_
  refine v_callV (As := [.int (nI 0), .int (nI 1)]) (rest := []) (wr := [(a0_kept, aN C.D 8 t_a0_kept)]) cw_X8_211 (hy_X8_fails) g (c_R_fail0 C.l C.D a0 1 v_a0_thrown a0_tape v_a0_taped a0_out v_a0_outs a0_slots a0_kept a0_phase a0_secret a0_key a0_hide a0_iv a0_begin a0_each a0_root a0_power a0_work a0_w a0_h a0_state a0_sum a0_pad a0_text v_a0_texts a0_info v_a0_infos a0_made a0_blockKey a0_nonce a0_x a0_first a0_block a0_a a0_r a0_product a0_tag a0_sealed ) dX8_look_8 0 rfl rfl rfl (by decide) (by decide) (Nat.le_of_ble_eq_true rfl) [0] [1] rfl rfl (by decide) rfl (by decide) (by decide) _ rfl (fun r wo hp2 => ?_)
  obtain ⟨rfl, rfl⟩ := hp2
  refine v_perm [1, 0] [(a0, .inr (8, [.int (nI 0), .ref a0_tape, .int (nI v_a0_taped), .ref a0_out, .int (nI v_a0_outs), .ref a0_slots, .ref a0_kept, .ref a0_phase, .ref a0_secret, .ref a0_key, .ref a0_hide, .ref a0_iv, .ref a0_begin, .ref a0_each, .ref a0_root, .ref a0_power, .ref a0_work, .ref a0_w, .ref a0_h, .ref a0_state, .ref a0_sum, .ref a0_pad, .ref a0_text, .int (nI v_a0_texts), .ref a0_info, .int (nI v_a0_infos), .ref a0_made, .ref a0_blockKey, .ref a0_nonce, .ref a0_x, .ref a0_first, .ref a0_block, .ref a0_a, .ref a0_r, .ref a0_product, .ref a0_tag, .ref a0_sealed])), (a0_kept, aN C.D 8 t_a0_kept)] (by decide) rfl rfl ?_
  show VJ C 0 0 11 [(0, .ref a0), (1, .int (nI 5))] [.int (nI 0)] [(a0, .inr (8, [.int (nI 0), .ref a0_tape, .int (nI v_a0_taped), .ref a0_out, .int (nI v_a0_outs), .ref a0_slots, .ref a0_kept, .ref a0_phase, .ref a0_secret, .ref a0_key, .ref a0_hide, .ref a0_iv, .ref a0_begin, .ref a0_each, .ref a0_root, .ref a0_power, .ref a0_work, .ref a0_w, .ref a0_h, .ref a0_state, .ref a0_sum, .ref a0_pad, .ref a0_text, .int (nI v_a0_texts), .ref a0_info, .int (nI v_a0_infos), .ref a0_made, .ref a0_blockKey, .ref a0_nonce, .ref a0_x, .ref a0_first, .ref a0_block, .ref a0_a, .ref a0_r, .ref a0_product, .ref a0_tag, .ref a0_sealed])), (a0_kept, aN C.D 8 t_a0_kept)]
  refine v_if_eqN g 16 dX8_look_11 (by decide) (by decide) (fun _ => ?_) (fun h => absurd h (by decide))
  refine v_iload_n g dX8_look_16 1 rfl 1 rfl ?_
  refine v_if_neN g 27 dX8_look_17 (by decide) (by decide) (fun _ => ?_) (fun h => absurd h (by decide))
  refine v_iload_n g dX8_look_27 1 rfl 1 rfl ?_
  refine v_iconst g dX8_look_28 (v := nI 1) (by decide +kernel) ?_
  refine v_icmp_neN g 39 dX8_look_29 (by decide) (by decide) (by decide) (fun _ => ?_) (fun h => absurd h (by decide))
  refine v_iload_n g dX8_look_39 1 rfl 1 rfl ?_
  refine v_bipush g dX8_look_40 (v := nI 10) (by decide +kernel) ?_
  refine v_icmp_geN g 56 dX8_look_42 (by decide) (by decide) (by decide) (fun h => absurd h (by decide)) (fun _ => ?_)
  refine v_aload_n g dX8_look_45 0 rfl 0 rfl ?_
  refine gf_X8_19 g dX8_look_46 0 rfl rfl ?_
  refine v_iload_n g dX8_look_49 1 rfl 1 rfl ?_
  refine v_iconst g dX8_look_50 (v := nI 2) (by decide +kernel) ?_
  refine v_isubN g dX8_look_51 (by decide) ?_
  refine v_toi (nI 3) rfl ?_
  refine v_ialdN g 1 rfl (by decide) (by decide) dX8_look_52 ?_
  refine v_goto g 65 dX8_look_53 (by decide) ?_
  exact v_iret g R dX8_look_65 (by decide) (by decide) ⟨rfl, rfl⟩
set_option maxHeartbeats 4000000 in
set_option maxRecDepth 100000 in
theorem m_look6 (l : Launch) (D : va_G) (a0 : Nat) (v_a0_thrown : Nat) (a0_tape : Nat) (v_a0_taped : Nat) (a0_out : Nat) (v_a0_outs : Nat) (a0_slots : Nat) (a0_kept : Nat) (a0_phase : Nat) (a0_secret : Nat) (a0_key : Nat) (a0_hide : Nat) (a0_iv : Nat) (a0_begin : Nat) (a0_each : Nat) (a0_root : Nat) (a0_power : Nat) (a0_work : Nat) (a0_w : Nat) (a0_h : Nat) (a0_state : Nat) (a0_sum : Nat) (a0_pad : Nat) (a0_text : Nat) (v_a0_texts : Nat) (a0_info : Nat) (v_a0_infos : Nat) (a0_made : Nat) (a0_blockKey : Nat) (a0_nonce : Nat) (a0_x : Nat) (a0_first : Nat) (a0_block : Nat) (a0_a : Nat) (a0_r : Nat) (a0_product : Nat) (a0_tag : Nat) (a0_sealed : Nat) (t_a0_kept : Nat → Nat)   : vM l D yX8_look cX8_look 2 (some .int) { frames := 1, cells := 0, slots := 0, locals := 22 } [.ref a0, .int (nI 6)] [(a0, .inr (8, [.int (nI v_a0_thrown), .ref a0_tape, .int (nI v_a0_taped), .ref a0_out, .int (nI v_a0_outs), .ref a0_slots, .ref a0_kept, .ref a0_phase, .ref a0_secret, .ref a0_key, .ref a0_hide, .ref a0_iv, .ref a0_begin, .ref a0_each, .ref a0_root, .ref a0_power, .ref a0_work, .ref a0_w, .ref a0_h, .ref a0_state, .ref a0_sum, .ref a0_pad, .ref a0_text, .int (nI v_a0_texts), .ref a0_info, .int (nI v_a0_infos), .ref a0_made, .ref a0_blockKey, .ref a0_nonce, .ref a0_x, .ref a0_first, .ref a0_block, .ref a0_a, .ref a0_r, .ref a0_product, .ref a0_tag, .ref a0_sealed])), (a0_kept, aN D 8 t_a0_kept)] (fun r wo => r = some (.int (nI (t_a0_kept 4))) ∧ wo = [(a0, .inr (8, [.int (nI 0), .ref a0_tape, .int (nI v_a0_taped), .ref a0_out, .int (nI v_a0_outs), .ref a0_slots, .ref a0_kept, .ref a0_phase, .ref a0_secret, .ref a0_key, .ref a0_hide, .ref a0_iv, .ref a0_begin, .ref a0_each, .ref a0_root, .ref a0_power, .ref a0_work, .ref a0_w, .ref a0_h, .ref a0_state, .ref a0_sum, .ref a0_pad, .ref a0_text, .int (nI v_a0_texts), .ref a0_info, .int (nI v_a0_infos), .ref a0_made, .ref a0_blockKey, .ref a0_nonce, .ref a0_x, .ref a0_first, .ref a0_block, .ref a0_a, .ref a0_r, .ref a0_product, .ref a0_tag, .ref a0_sealed])), (a0_kept, aN D 8 t_a0_kept)]) := by
  refine vM.of (by decide) (Nat.le_of_ble_eq_true rfl) (fun C hCl hCD g R => ?_)
  subst hCl; subst hCD
  show VJ C 0 0 0 [(0, .ref a0), (1, .int (nI 6))] [] [(a0, .inr (8, [.int (nI v_a0_thrown), .ref a0_tape, .int (nI v_a0_taped), .ref a0_out, .int (nI v_a0_outs), .ref a0_slots, .ref a0_kept, .ref a0_phase, .ref a0_secret, .ref a0_key, .ref a0_hide, .ref a0_iv, .ref a0_begin, .ref a0_each, .ref a0_root, .ref a0_power, .ref a0_work, .ref a0_w, .ref a0_h, .ref a0_state, .ref a0_sum, .ref a0_pad, .ref a0_text, .int (nI v_a0_texts), .ref a0_info, .int (nI v_a0_infos), .ref a0_made, .ref a0_blockKey, .ref a0_nonce, .ref a0_x, .ref a0_first, .ref a0_block, .ref a0_a, .ref a0_r, .ref a0_product, .ref a0_tag, .ref a0_sealed])), (a0_kept, aN C.D 8 t_a0_kept)]
  refine v_aload_n g dX8_look_0 0 rfl 0 rfl ?_
  refine v_iload_n g dX8_look_1 1 rfl 1 rfl ?_
  refine v_bipush g dX8_look_2 (v := nI 14) (by decide +kernel) ?_
  refine v_callS (As := [.int (nI 6), .int (nI 14)]) (rest := [.ref a0]) (wr := [(a0, .inr (8, [.int (nI v_a0_thrown), .ref a0_tape, .int (nI v_a0_taped), .ref a0_out, .int (nI v_a0_outs), .ref a0_slots, .ref a0_kept, .ref a0_phase, .ref a0_secret, .ref a0_key, .ref a0_hide, .ref a0_iv, .ref a0_begin, .ref a0_each, .ref a0_root, .ref a0_power, .ref a0_work, .ref a0_w, .ref a0_h, .ref a0_state, .ref a0_sum, .ref a0_pad, .ref a0_text, .int (nI v_a0_texts), .ref a0_info, .int (nI v_a0_infos), .ref a0_made, .ref a0_blockKey, .ref a0_nonce, .ref a0_x, .ref a0_first, .ref a0_block, .ref a0_a, .ref a0_r, .ref a0_product, .ref a0_tag, .ref a0_sealed])), (a0_kept, aN C.D 8 t_a0_kept)]) cw_X8_221 (hy_X8_beyond) g (c_R_bey0 C.l C.D 6 14 (by omega) (by omega)) dX8_look_4 rfl (by decide) (by decide) (Nat.le_of_ble_eq_true rfl) [] [0, 1] rfl rfl (by decide) rfl (by decide) (by decide) _ rfl (fun r wo hp1 => ?_)
  obtain ⟨rfl, rfl⟩ := hp1
  show VJ C 0 0 7 [(0, .ref a0), (1, .int (nI 6))] [.int (nI 0), .ref a0] [(a0, .inr (8, [.int (nI v_a0_thrown), .ref a0_tape, .int (nI v_a0_taped), .ref a0_out, .int (nI v_a0_outs), .ref a0_slots, .ref a0_kept, .ref a0_phase, .ref a0_secret, .ref a0_key, .ref a0_hide, .ref a0_iv, .ref a0_begin, .ref a0_each, .ref a0_root, .ref a0_power, .ref a0_work, .ref a0_w, .ref a0_h, .ref a0_state, .ref a0_sum, .ref a0_pad, .ref a0_text, .int (nI v_a0_texts), .ref a0_info, .int (nI v_a0_infos), .ref a0_made, .ref a0_blockKey, .ref a0_nonce, .ref a0_x, .ref a0_first, .ref a0_block, .ref a0_a, .ref a0_r, .ref a0_product, .ref a0_tag, .ref a0_sealed])), (a0_kept, aN C.D 8 t_a0_kept)]
  refine v_iconst g dX8_look_7 (v := nI 1) (by decide +kernel) ?_
  refine v_callV (As := [.int (nI 0), .int (nI 1)]) (rest := []) (wr := [(a0_kept, aN C.D 8 t_a0_kept)]) cw_X8_211 (hy_X8_fails) g (c_R_fail0 C.l C.D a0 1 v_a0_thrown a0_tape v_a0_taped a0_out v_a0_outs a0_slots a0_kept a0_phase a0_secret a0_key a0_hide a0_iv a0_begin a0_each a0_root a0_power a0_work a0_w a0_h a0_state a0_sum a0_pad a0_text v_a0_texts a0_info v_a0_infos a0_made a0_blockKey a0_nonce a0_x a0_first a0_block a0_a a0_r a0_product a0_tag a0_sealed ) dX8_look_8 0 rfl rfl rfl (by decide) (by decide) (Nat.le_of_ble_eq_true rfl) [0] [1] rfl rfl (by decide) rfl (by decide) (by decide) _ rfl (fun r wo hp2 => ?_)
  obtain ⟨rfl, rfl⟩ := hp2
  refine v_perm [1, 0] [(a0, .inr (8, [.int (nI 0), .ref a0_tape, .int (nI v_a0_taped), .ref a0_out, .int (nI v_a0_outs), .ref a0_slots, .ref a0_kept, .ref a0_phase, .ref a0_secret, .ref a0_key, .ref a0_hide, .ref a0_iv, .ref a0_begin, .ref a0_each, .ref a0_root, .ref a0_power, .ref a0_work, .ref a0_w, .ref a0_h, .ref a0_state, .ref a0_sum, .ref a0_pad, .ref a0_text, .int (nI v_a0_texts), .ref a0_info, .int (nI v_a0_infos), .ref a0_made, .ref a0_blockKey, .ref a0_nonce, .ref a0_x, .ref a0_first, .ref a0_block, .ref a0_a, .ref a0_r, .ref a0_product, .ref a0_tag, .ref a0_sealed])), (a0_kept, aN C.D 8 t_a0_kept)] (by decide) rfl rfl ?_
  show VJ C 0 0 11 [(0, .ref a0), (1, .int (nI 6))] [.int (nI 0)] [(a0, .inr (8, [.int (nI 0), .ref a0_tape, .int (nI v_a0_taped), .ref a0_out, .int (nI v_a0_outs), .ref a0_slots, .ref a0_kept, .ref a0_phase, .ref a0_secret, .ref a0_key, .ref a0_hide, .ref a0_iv, .ref a0_begin, .ref a0_each, .ref a0_root, .ref a0_power, .ref a0_work, .ref a0_w, .ref a0_h, .ref a0_state, .ref a0_sum, .ref a0_pad, .ref a0_text, .int (nI v_a0_texts), .ref a0_info, .int (nI v_a0_infos), .ref a0_made, .ref a0_blockKey, .ref a0_nonce, .ref a0_x, .ref a0_first, .ref a0_block, .ref a0_a, .ref a0_r, .ref a0_product, .ref a0_tag, .ref a0_sealed])), (a0_kept, aN C.D 8 t_a0_kept)]
  refine v_if_eqN g 16 dX8_look_11 (by decide) (by decide) (fun _ => ?_) (fun h => absurd h (by decide))
  refine v_iload_n g dX8_look_16 1 rfl 1 rfl ?_
  refine v_if_neN g 27 dX8_look_17 (by decide) (by decide) (fun _ => ?_) (fun h => absurd h (by decide))
  refine v_iload_n g dX8_look_27 1 rfl 1 rfl ?_
  refine v_iconst g dX8_look_28 (v := nI 1) (by decide +kernel) ?_
  refine v_icmp_neN g 39 dX8_look_29 (by decide) (by decide) (by decide) (fun _ => ?_) (fun h => absurd h (by decide))
  refine v_iload_n g dX8_look_39 1 rfl 1 rfl ?_
  refine v_bipush g dX8_look_40 (v := nI 10) (by decide +kernel) ?_
  refine v_icmp_geN g 56 dX8_look_42 (by decide) (by decide) (by decide) (fun h => absurd h (by decide)) (fun _ => ?_)
  refine v_aload_n g dX8_look_45 0 rfl 0 rfl ?_
  refine gf_X8_19 g dX8_look_46 0 rfl rfl ?_
  refine v_iload_n g dX8_look_49 1 rfl 1 rfl ?_
  refine v_iconst g dX8_look_50 (v := nI 2) (by decide +kernel) ?_
  refine v_isubN g dX8_look_51 (by decide) ?_
  refine v_toi (nI 4) rfl ?_
  refine v_ialdN g 1 rfl (by decide) (by decide) dX8_look_52 ?_
  refine v_goto g 65 dX8_look_53 (by decide) ?_
  exact v_iret g R dX8_look_65 (by decide) (by decide) ⟨rfl, rfl⟩
set_option maxHeartbeats 4000000 in
set_option maxRecDepth 100000 in
theorem m_look7 (l : Launch) (D : va_G) (a0 : Nat) (v_a0_thrown : Nat) (a0_tape : Nat) (v_a0_taped : Nat) (a0_out : Nat) (v_a0_outs : Nat) (a0_slots : Nat) (a0_kept : Nat) (a0_phase : Nat) (a0_secret : Nat) (a0_key : Nat) (a0_hide : Nat) (a0_iv : Nat) (a0_begin : Nat) (a0_each : Nat) (a0_root : Nat) (a0_power : Nat) (a0_work : Nat) (a0_w : Nat) (a0_h : Nat) (a0_state : Nat) (a0_sum : Nat) (a0_pad : Nat) (a0_text : Nat) (v_a0_texts : Nat) (a0_info : Nat) (v_a0_infos : Nat) (a0_made : Nat) (a0_blockKey : Nat) (a0_nonce : Nat) (a0_x : Nat) (a0_first : Nat) (a0_block : Nat) (a0_a : Nat) (a0_r : Nat) (a0_product : Nat) (a0_tag : Nat) (a0_sealed : Nat) (t_a0_kept : Nat → Nat)   : vM l D yX8_look cX8_look 2 (some .int) { frames := 1, cells := 0, slots := 0, locals := 22 } [.ref a0, .int (nI 7)] [(a0, .inr (8, [.int (nI v_a0_thrown), .ref a0_tape, .int (nI v_a0_taped), .ref a0_out, .int (nI v_a0_outs), .ref a0_slots, .ref a0_kept, .ref a0_phase, .ref a0_secret, .ref a0_key, .ref a0_hide, .ref a0_iv, .ref a0_begin, .ref a0_each, .ref a0_root, .ref a0_power, .ref a0_work, .ref a0_w, .ref a0_h, .ref a0_state, .ref a0_sum, .ref a0_pad, .ref a0_text, .int (nI v_a0_texts), .ref a0_info, .int (nI v_a0_infos), .ref a0_made, .ref a0_blockKey, .ref a0_nonce, .ref a0_x, .ref a0_first, .ref a0_block, .ref a0_a, .ref a0_r, .ref a0_product, .ref a0_tag, .ref a0_sealed])), (a0_kept, aN D 8 t_a0_kept)] (fun r wo => r = some (.int (nI (t_a0_kept 5))) ∧ wo = [(a0, .inr (8, [.int (nI 0), .ref a0_tape, .int (nI v_a0_taped), .ref a0_out, .int (nI v_a0_outs), .ref a0_slots, .ref a0_kept, .ref a0_phase, .ref a0_secret, .ref a0_key, .ref a0_hide, .ref a0_iv, .ref a0_begin, .ref a0_each, .ref a0_root, .ref a0_power, .ref a0_work, .ref a0_w, .ref a0_h, .ref a0_state, .ref a0_sum, .ref a0_pad, .ref a0_text, .int (nI v_a0_texts), .ref a0_info, .int (nI v_a0_infos), .ref a0_made, .ref a0_blockKey, .ref a0_nonce, .ref a0_x, .ref a0_first, .ref a0_block, .ref a0_a, .ref a0_r, .ref a0_product, .ref a0_tag, .ref a0_sealed])), (a0_kept, aN D 8 t_a0_kept)]) := by
  refine vM.of (by decide) (Nat.le_of_ble_eq_true rfl) (fun C hCl hCD g R => ?_)
  subst hCl; subst hCD
  show VJ C 0 0 0 [(0, .ref a0), (1, .int (nI 7))] [] [(a0, .inr (8, [.int (nI v_a0_thrown), .ref a0_tape, .int (nI v_a0_taped), .ref a0_out, .int (nI v_a0_outs), .ref a0_slots, .ref a0_kept, .ref a0_phase, .ref a0_secret, .ref a0_key, .ref a0_hide, .ref a0_iv, .ref a0_begin, .ref a0_each, .ref a0_root, .ref a0_power, .ref a0_work, .ref a0_w, .ref a0_h, .ref a0_state, .ref a0_sum, .ref a0_pad, .ref a0_text, .int (nI v_a0_texts), .ref a0_info, .int (nI v_a0_infos), .ref a0_made, .ref a0_blockKey, .ref a0_nonce, .ref a0_x, .ref a0_first, .ref a0_block, .ref a0_a, .ref a0_r, .ref a0_product, .ref a0_tag, .ref a0_sealed])), (a0_kept, aN C.D 8 t_a0_kept)]
  refine v_aload_n g dX8_look_0 0 rfl 0 rfl ?_
  refine v_iload_n g dX8_look_1 1 rfl 1 rfl ?_
  refine v_bipush g dX8_look_2 (v := nI 14) (by decide +kernel) ?_
  refine v_callS (As := [.int (nI 7), .int (nI 14)]) (rest := [.ref a0]) (wr := [(a0, .inr (8, [.int (nI v_a0_thrown), .ref a0_tape, .int (nI v_a0_taped), .ref a0_out, .int (nI v_a0_outs), .ref a0_slots, .ref a0_kept, .ref a0_phase, .ref a0_secret, .ref a0_key, .ref a0_hide, .ref a0_iv, .ref a0_begin, .ref a0_each, .ref a0_root, .ref a0_power, .ref a0_work, .ref a0_w, .ref a0_h, .ref a0_state, .ref a0_sum, .ref a0_pad, .ref a0_text, .int (nI v_a0_texts), .ref a0_info, .int (nI v_a0_infos), .ref a0_made, .ref a0_blockKey, .ref a0_nonce, .ref a0_x, .ref a0_first, .ref a0_block, .ref a0_a, .ref a0_r, .ref a0_product, .ref a0_tag, .ref a0_sealed])), (a0_kept, aN C.D 8 t_a0_kept)]) cw_X8_221 (hy_X8_beyond) g (c_R_bey0 C.l C.D 7 14 (by omega) (by omega)) dX8_look_4 rfl (by decide) (by decide) (Nat.le_of_ble_eq_true rfl) [] [0, 1] rfl rfl (by decide) rfl (by decide) (by decide) _ rfl (fun r wo hp1 => ?_)
  obtain ⟨rfl, rfl⟩ := hp1
  show VJ C 0 0 7 [(0, .ref a0), (1, .int (nI 7))] [.int (nI 0), .ref a0] [(a0, .inr (8, [.int (nI v_a0_thrown), .ref a0_tape, .int (nI v_a0_taped), .ref a0_out, .int (nI v_a0_outs), .ref a0_slots, .ref a0_kept, .ref a0_phase, .ref a0_secret, .ref a0_key, .ref a0_hide, .ref a0_iv, .ref a0_begin, .ref a0_each, .ref a0_root, .ref a0_power, .ref a0_work, .ref a0_w, .ref a0_h, .ref a0_state, .ref a0_sum, .ref a0_pad, .ref a0_text, .int (nI v_a0_texts), .ref a0_info, .int (nI v_a0_infos), .ref a0_made, .ref a0_blockKey, .ref a0_nonce, .ref a0_x, .ref a0_first, .ref a0_block, .ref a0_a, .ref a0_r, .ref a0_product, .ref a0_tag, .ref a0_sealed])), (a0_kept, aN C.D 8 t_a0_kept)]
  refine v_iconst g dX8_look_7 (v := nI 1) (by decide +kernel) ?_
  refine v_callV (As := [.int (nI 0), .int (nI 1)]) (rest := []) (wr := [(a0_kept, aN C.D 8 t_a0_kept)]) cw_X8_211 (hy_X8_fails) g (c_R_fail0 C.l C.D a0 1 v_a0_thrown a0_tape v_a0_taped a0_out v_a0_outs a0_slots a0_kept a0_phase a0_secret a0_key a0_hide a0_iv a0_begin a0_each a0_root a0_power a0_work a0_w a0_h a0_state a0_sum a0_pad a0_text v_a0_texts a0_info v_a0_infos a0_made a0_blockKey a0_nonce a0_x a0_first a0_block a0_a a0_r a0_product a0_tag a0_sealed ) dX8_look_8 0 rfl rfl rfl (by decide) (by decide) (Nat.le_of_ble_eq_true rfl) [0] [1] rfl rfl (by decide) rfl (by decide) (by decide) _ rfl (fun r wo hp2 => ?_)
  obtain ⟨rfl, rfl⟩ := hp2
  refine v_perm [1, 0] [(a0, .inr (8, [.int (nI 0), .ref a0_tape, .int (nI v_a0_taped), .ref a0_out, .int (nI v_a0_outs), .ref a0_slots, .ref a0_kept, .ref a0_phase, .ref a0_secret, .ref a0_key, .ref a0_hide, .ref a0_iv, .ref a0_begin, .ref a0_each, .ref a0_root, .ref a0_power, .ref a0_work, .ref a0_w, .ref a0_h, .ref a0_state, .ref a0_sum, .ref a0_pad, .ref a0_text, .int (nI v_a0_texts), .ref a0_info, .int (nI v_a0_infos), .ref a0_made, .ref a0_blockKey, .ref a0_nonce, .ref a0_x, .ref a0_first, .ref a0_block, .ref a0_a, .ref a0_r, .ref a0_product, .ref a0_tag, .ref a0_sealed])), (a0_kept, aN C.D 8 t_a0_kept)] (by decide) rfl rfl ?_
  show VJ C 0 0 11 [(0, .ref a0), (1, .int (nI 7))] [.int (nI 0)] [(a0, .inr (8, [.int (nI 0), .ref a0_tape, .int (nI v_a0_taped), .ref a0_out, .int (nI v_a0_outs), .ref a0_slots, .ref a0_kept, .ref a0_phase, .ref a0_secret, .ref a0_key, .ref a0_hide, .ref a0_iv, .ref a0_begin, .ref a0_each, .ref a0_root, .ref a0_power, .ref a0_work, .ref a0_w, .ref a0_h, .ref a0_state, .ref a0_sum, .ref a0_pad, .ref a0_text, .int (nI v_a0_texts), .ref a0_info, .int (nI v_a0_infos), .ref a0_made, .ref a0_blockKey, .ref a0_nonce, .ref a0_x, .ref a0_first, .ref a0_block, .ref a0_a, .ref a0_r, .ref a0_product, .ref a0_tag, .ref a0_sealed])), (a0_kept, aN C.D 8 t_a0_kept)]
  refine v_if_eqN g 16 dX8_look_11 (by decide) (by decide) (fun _ => ?_) (fun h => absurd h (by decide))
  refine v_iload_n g dX8_look_16 1 rfl 1 rfl ?_
  refine v_if_neN g 27 dX8_look_17 (by decide) (by decide) (fun _ => ?_) (fun h => absurd h (by decide))
  refine v_iload_n g dX8_look_27 1 rfl 1 rfl ?_
  refine v_iconst g dX8_look_28 (v := nI 1) (by decide +kernel) ?_
  refine v_icmp_neN g 39 dX8_look_29 (by decide) (by decide) (by decide) (fun _ => ?_) (fun h => absurd h (by decide))
  refine v_iload_n g dX8_look_39 1 rfl 1 rfl ?_
  refine v_bipush g dX8_look_40 (v := nI 10) (by decide +kernel) ?_
  refine v_icmp_geN g 56 dX8_look_42 (by decide) (by decide) (by decide) (fun h => absurd h (by decide)) (fun _ => ?_)
  refine v_aload_n g dX8_look_45 0 rfl 0 rfl ?_
  refine gf_X8_19 g dX8_look_46 0 rfl rfl ?_
  refine v_iload_n g dX8_look_49 1 rfl 1 rfl ?_
  refine v_iconst g dX8_look_50 (v := nI 2) (by decide +kernel) ?_
  refine v_isubN g dX8_look_51 (by decide) ?_
  refine v_toi (nI 5) rfl ?_
  refine v_ialdN g 1 rfl (by decide) (by decide) dX8_look_52 ?_
  refine v_goto g 65 dX8_look_53 (by decide) ?_
  exact v_iret g R dX8_look_65 (by decide) (by decide) ⟨rfl, rfl⟩
set_option maxHeartbeats 4000000 in
set_option maxRecDepth 100000 in
theorem m_look8 (l : Launch) (D : va_G) (a0 : Nat) (v_a0_thrown : Nat) (a0_tape : Nat) (v_a0_taped : Nat) (a0_out : Nat) (v_a0_outs : Nat) (a0_slots : Nat) (a0_kept : Nat) (a0_phase : Nat) (a0_secret : Nat) (a0_key : Nat) (a0_hide : Nat) (a0_iv : Nat) (a0_begin : Nat) (a0_each : Nat) (a0_root : Nat) (a0_power : Nat) (a0_work : Nat) (a0_w : Nat) (a0_h : Nat) (a0_state : Nat) (a0_sum : Nat) (a0_pad : Nat) (a0_text : Nat) (v_a0_texts : Nat) (a0_info : Nat) (v_a0_infos : Nat) (a0_made : Nat) (a0_blockKey : Nat) (a0_nonce : Nat) (a0_x : Nat) (a0_first : Nat) (a0_block : Nat) (a0_a : Nat) (a0_r : Nat) (a0_product : Nat) (a0_tag : Nat) (a0_sealed : Nat) (t_a0_kept : Nat → Nat)   : vM l D yX8_look cX8_look 2 (some .int) { frames := 1, cells := 0, slots := 0, locals := 22 } [.ref a0, .int (nI 8)] [(a0, .inr (8, [.int (nI v_a0_thrown), .ref a0_tape, .int (nI v_a0_taped), .ref a0_out, .int (nI v_a0_outs), .ref a0_slots, .ref a0_kept, .ref a0_phase, .ref a0_secret, .ref a0_key, .ref a0_hide, .ref a0_iv, .ref a0_begin, .ref a0_each, .ref a0_root, .ref a0_power, .ref a0_work, .ref a0_w, .ref a0_h, .ref a0_state, .ref a0_sum, .ref a0_pad, .ref a0_text, .int (nI v_a0_texts), .ref a0_info, .int (nI v_a0_infos), .ref a0_made, .ref a0_blockKey, .ref a0_nonce, .ref a0_x, .ref a0_first, .ref a0_block, .ref a0_a, .ref a0_r, .ref a0_product, .ref a0_tag, .ref a0_sealed])), (a0_kept, aN D 8 t_a0_kept)] (fun r wo => r = some (.int (nI (t_a0_kept 6))) ∧ wo = [(a0, .inr (8, [.int (nI 0), .ref a0_tape, .int (nI v_a0_taped), .ref a0_out, .int (nI v_a0_outs), .ref a0_slots, .ref a0_kept, .ref a0_phase, .ref a0_secret, .ref a0_key, .ref a0_hide, .ref a0_iv, .ref a0_begin, .ref a0_each, .ref a0_root, .ref a0_power, .ref a0_work, .ref a0_w, .ref a0_h, .ref a0_state, .ref a0_sum, .ref a0_pad, .ref a0_text, .int (nI v_a0_texts), .ref a0_info, .int (nI v_a0_infos), .ref a0_made, .ref a0_blockKey, .ref a0_nonce, .ref a0_x, .ref a0_first, .ref a0_block, .ref a0_a, .ref a0_r, .ref a0_product, .ref a0_tag, .ref a0_sealed])), (a0_kept, aN D 8 t_a0_kept)]) := by
  refine vM.of (by decide) (Nat.le_of_ble_eq_true rfl) (fun C hCl hCD g R => ?_)
  subst hCl; subst hCD
  show VJ C 0 0 0 [(0, .ref a0), (1, .int (nI 8))] [] [(a0, .inr (8, [.int (nI v_a0_thrown), .ref a0_tape, .int (nI v_a0_taped), .ref a0_out, .int (nI v_a0_outs), .ref a0_slots, .ref a0_kept, .ref a0_phase, .ref a0_secret, .ref a0_key, .ref a0_hide, .ref a0_iv, .ref a0_begin, .ref a0_each, .ref a0_root, .ref a0_power, .ref a0_work, .ref a0_w, .ref a0_h, .ref a0_state, .ref a0_sum, .ref a0_pad, .ref a0_text, .int (nI v_a0_texts), .ref a0_info, .int (nI v_a0_infos), .ref a0_made, .ref a0_blockKey, .ref a0_nonce, .ref a0_x, .ref a0_first, .ref a0_block, .ref a0_a, .ref a0_r, .ref a0_product, .ref a0_tag, .ref a0_sealed])), (a0_kept, aN C.D 8 t_a0_kept)]
  refine v_aload_n g dX8_look_0 0 rfl 0 rfl ?_
  refine v_iload_n g dX8_look_1 1 rfl 1 rfl ?_
  refine v_bipush g dX8_look_2 (v := nI 14) (by decide +kernel) ?_
  refine v_callS (As := [.int (nI 8), .int (nI 14)]) (rest := [.ref a0]) (wr := [(a0, .inr (8, [.int (nI v_a0_thrown), .ref a0_tape, .int (nI v_a0_taped), .ref a0_out, .int (nI v_a0_outs), .ref a0_slots, .ref a0_kept, .ref a0_phase, .ref a0_secret, .ref a0_key, .ref a0_hide, .ref a0_iv, .ref a0_begin, .ref a0_each, .ref a0_root, .ref a0_power, .ref a0_work, .ref a0_w, .ref a0_h, .ref a0_state, .ref a0_sum, .ref a0_pad, .ref a0_text, .int (nI v_a0_texts), .ref a0_info, .int (nI v_a0_infos), .ref a0_made, .ref a0_blockKey, .ref a0_nonce, .ref a0_x, .ref a0_first, .ref a0_block, .ref a0_a, .ref a0_r, .ref a0_product, .ref a0_tag, .ref a0_sealed])), (a0_kept, aN C.D 8 t_a0_kept)]) cw_X8_221 (hy_X8_beyond) g (c_R_bey0 C.l C.D 8 14 (by omega) (by omega)) dX8_look_4 rfl (by decide) (by decide) (Nat.le_of_ble_eq_true rfl) [] [0, 1] rfl rfl (by decide) rfl (by decide) (by decide) _ rfl (fun r wo hp1 => ?_)
  obtain ⟨rfl, rfl⟩ := hp1
  show VJ C 0 0 7 [(0, .ref a0), (1, .int (nI 8))] [.int (nI 0), .ref a0] [(a0, .inr (8, [.int (nI v_a0_thrown), .ref a0_tape, .int (nI v_a0_taped), .ref a0_out, .int (nI v_a0_outs), .ref a0_slots, .ref a0_kept, .ref a0_phase, .ref a0_secret, .ref a0_key, .ref a0_hide, .ref a0_iv, .ref a0_begin, .ref a0_each, .ref a0_root, .ref a0_power, .ref a0_work, .ref a0_w, .ref a0_h, .ref a0_state, .ref a0_sum, .ref a0_pad, .ref a0_text, .int (nI v_a0_texts), .ref a0_info, .int (nI v_a0_infos), .ref a0_made, .ref a0_blockKey, .ref a0_nonce, .ref a0_x, .ref a0_first, .ref a0_block, .ref a0_a, .ref a0_r, .ref a0_product, .ref a0_tag, .ref a0_sealed])), (a0_kept, aN C.D 8 t_a0_kept)]
  refine v_iconst g dX8_look_7 (v := nI 1) (by decide +kernel) ?_
  refine v_callV (As := [.int (nI 0), .int (nI 1)]) (rest := []) (wr := [(a0_kept, aN C.D 8 t_a0_kept)]) cw_X8_211 (hy_X8_fails) g (c_R_fail0 C.l C.D a0 1 v_a0_thrown a0_tape v_a0_taped a0_out v_a0_outs a0_slots a0_kept a0_phase a0_secret a0_key a0_hide a0_iv a0_begin a0_each a0_root a0_power a0_work a0_w a0_h a0_state a0_sum a0_pad a0_text v_a0_texts a0_info v_a0_infos a0_made a0_blockKey a0_nonce a0_x a0_first a0_block a0_a a0_r a0_product a0_tag a0_sealed ) dX8_look_8 0 rfl rfl rfl (by decide) (by decide) (Nat.le_of_ble_eq_true rfl) [0] [1] rfl rfl (by decide) rfl (by decide) (by decide) _ rfl (fun r wo hp2 => ?_)
  obtain ⟨rfl, rfl⟩ := hp2
  refine v_perm [1, 0] [(a0, .inr (8, [.int (nI 0), .ref a0_tape, .int (nI v_a0_taped), .ref a0_out, .int (nI v_a0_outs), .ref a0_slots, .ref a0_kept, .ref a0_phase, .ref a0_secret, .ref a0_key, .ref a0_hide, .ref a0_iv, .ref a0_begin, .ref a0_each, .ref a0_root, .ref a0_power, .ref a0_work, .ref a0_w, .ref a0_h, .ref a0_state, .ref a0_sum, .ref a0_pad, .ref a0_text, .int (nI v_a0_texts), .ref a0_info, .int (nI v_a0_infos), .ref a0_made, .ref a0_blockKey, .ref a0_nonce, .ref a0_x, .ref a0_first, .ref a0_block, .ref a0_a, .ref a0_r, .ref a0_product, .ref a0_tag, .ref a0_sealed])), (a0_kept, aN C.D 8 t_a0_kept)] (by decide) rfl rfl ?_
  show VJ C 0 0 11 [(0, .ref a0), (1, .int (nI 8))] [.int (nI 0)] [(a0, .inr (8, [.int (nI 0), .ref a0_tape, .int (nI v_a0_taped), .ref a0_out, .int (nI v_a0_outs), .ref a0_slots, .ref a0_kept, .ref a0_phase, .ref a0_secret, .ref a0_key, .ref a0_hide, .ref a0_iv, .ref a0_begin, .ref a0_each, .ref a0_root, .ref a0_power, .ref a0_work, .ref a0_w, .ref a0_h, .ref a0_state, .ref a0_sum, .ref a0_pad, .ref a0_text, .int (nI v_a0_texts), .ref a0_info, .int (nI v_a0_infos), .ref a0_made, .ref a0_blockKey, .ref a0_nonce, .ref a0_x, .ref a0_first, .ref a0_block, .ref a0_a, .ref a0_r, .ref a0_product, .ref a0_tag, .ref a0_sealed])), (a0_kept, aN C.D 8 t_a0_kept)]
  refine v_if_eqN g 16 dX8_look_11 (by decide) (by decide) (fun _ => ?_) (fun h => absurd h (by decide))
  refine v_iload_n g dX8_look_16 1 rfl 1 rfl ?_
  refine v_if_neN g 27 dX8_look_17 (by decide) (by decide) (fun _ => ?_) (fun h => absurd h (by decide))
  refine v_iload_n g dX8_look_27 1 rfl 1 rfl ?_
  refine v_iconst g dX8_look_28 (v := nI 1) (by decide +kernel) ?_
  refine v_icmp_neN g 39 dX8_look_29 (by decide) (by decide) (by decide) (fun _ => ?_) (fun h => absurd h (by decide))
  refine v_iload_n g dX8_look_39 1 rfl 1 rfl ?_
  refine v_bipush g dX8_look_40 (v := nI 10) (by decide +kernel) ?_
  refine v_icmp_geN g 56 dX8_look_42 (by decide) (by decide) (by decide) (fun h => absurd h (by decide)) (fun _ => ?_)
  refine v_aload_n g dX8_look_45 0 rfl 0 rfl ?_
  refine gf_X8_19 g dX8_look_46 0 rfl rfl ?_
  refine v_iload_n g dX8_look_49 1 rfl 1 rfl ?_
  refine v_iconst g dX8_look_50 (v := nI 2) (by decide +kernel) ?_
  refine v_isubN g dX8_look_51 (by decide) ?_
  refine v_toi (nI 6) rfl ?_
  refine v_ialdN g 1 rfl (by decide) (by decide) dX8_look_52 ?_
  refine v_goto g 65 dX8_look_53 (by decide) ?_
  exact v_iret g R dX8_look_65 (by decide) (by decide) ⟨rfl, rfl⟩
set_option maxHeartbeats 4000000 in
set_option maxRecDepth 100000 in
theorem m_look9 (l : Launch) (D : va_G) (a0 : Nat) (v_a0_thrown : Nat) (a0_tape : Nat) (v_a0_taped : Nat) (a0_out : Nat) (v_a0_outs : Nat) (a0_slots : Nat) (a0_kept : Nat) (a0_phase : Nat) (a0_secret : Nat) (a0_key : Nat) (a0_hide : Nat) (a0_iv : Nat) (a0_begin : Nat) (a0_each : Nat) (a0_root : Nat) (a0_power : Nat) (a0_work : Nat) (a0_w : Nat) (a0_h : Nat) (a0_state : Nat) (a0_sum : Nat) (a0_pad : Nat) (a0_text : Nat) (v_a0_texts : Nat) (a0_info : Nat) (v_a0_infos : Nat) (a0_made : Nat) (a0_blockKey : Nat) (a0_nonce : Nat) (a0_x : Nat) (a0_first : Nat) (a0_block : Nat) (a0_a : Nat) (a0_r : Nat) (a0_product : Nat) (a0_tag : Nat) (a0_sealed : Nat) (t_a0_kept : Nat → Nat)   : vM l D yX8_look cX8_look 2 (some .int) { frames := 1, cells := 0, slots := 0, locals := 22 } [.ref a0, .int (nI 9)] [(a0, .inr (8, [.int (nI v_a0_thrown), .ref a0_tape, .int (nI v_a0_taped), .ref a0_out, .int (nI v_a0_outs), .ref a0_slots, .ref a0_kept, .ref a0_phase, .ref a0_secret, .ref a0_key, .ref a0_hide, .ref a0_iv, .ref a0_begin, .ref a0_each, .ref a0_root, .ref a0_power, .ref a0_work, .ref a0_w, .ref a0_h, .ref a0_state, .ref a0_sum, .ref a0_pad, .ref a0_text, .int (nI v_a0_texts), .ref a0_info, .int (nI v_a0_infos), .ref a0_made, .ref a0_blockKey, .ref a0_nonce, .ref a0_x, .ref a0_first, .ref a0_block, .ref a0_a, .ref a0_r, .ref a0_product, .ref a0_tag, .ref a0_sealed])), (a0_kept, aN D 8 t_a0_kept)] (fun r wo => r = some (.int (nI (t_a0_kept 7))) ∧ wo = [(a0, .inr (8, [.int (nI 0), .ref a0_tape, .int (nI v_a0_taped), .ref a0_out, .int (nI v_a0_outs), .ref a0_slots, .ref a0_kept, .ref a0_phase, .ref a0_secret, .ref a0_key, .ref a0_hide, .ref a0_iv, .ref a0_begin, .ref a0_each, .ref a0_root, .ref a0_power, .ref a0_work, .ref a0_w, .ref a0_h, .ref a0_state, .ref a0_sum, .ref a0_pad, .ref a0_text, .int (nI v_a0_texts), .ref a0_info, .int (nI v_a0_infos), .ref a0_made, .ref a0_blockKey, .ref a0_nonce, .ref a0_x, .ref a0_first, .ref a0_block, .ref a0_a, .ref a0_r, .ref a0_product, .ref a0_tag, .ref a0_sealed])), (a0_kept, aN D 8 t_a0_kept)]) := by
  refine vM.of (by decide) (Nat.le_of_ble_eq_true rfl) (fun C hCl hCD g R => ?_)
  subst hCl; subst hCD
  show VJ C 0 0 0 [(0, .ref a0), (1, .int (nI 9))] [] [(a0, .inr (8, [.int (nI v_a0_thrown), .ref a0_tape, .int (nI v_a0_taped), .ref a0_out, .int (nI v_a0_outs), .ref a0_slots, .ref a0_kept, .ref a0_phase, .ref a0_secret, .ref a0_key, .ref a0_hide, .ref a0_iv, .ref a0_begin, .ref a0_each, .ref a0_root, .ref a0_power, .ref a0_work, .ref a0_w, .ref a0_h, .ref a0_state, .ref a0_sum, .ref a0_pad, .ref a0_text, .int (nI v_a0_texts), .ref a0_info, .int (nI v_a0_infos), .ref a0_made, .ref a0_blockKey, .ref a0_nonce, .ref a0_x, .ref a0_first, .ref a0_block, .ref a0_a, .ref a0_r, .ref a0_product, .ref a0_tag, .ref a0_sealed])), (a0_kept, aN C.D 8 t_a0_kept)]
  refine v_aload_n g dX8_look_0 0 rfl 0 rfl ?_
  refine v_iload_n g dX8_look_1 1 rfl 1 rfl ?_
  refine v_bipush g dX8_look_2 (v := nI 14) (by decide +kernel) ?_
  refine v_callS (As := [.int (nI 9), .int (nI 14)]) (rest := [.ref a0]) (wr := [(a0, .inr (8, [.int (nI v_a0_thrown), .ref a0_tape, .int (nI v_a0_taped), .ref a0_out, .int (nI v_a0_outs), .ref a0_slots, .ref a0_kept, .ref a0_phase, .ref a0_secret, .ref a0_key, .ref a0_hide, .ref a0_iv, .ref a0_begin, .ref a0_each, .ref a0_root, .ref a0_power, .ref a0_work, .ref a0_w, .ref a0_h, .ref a0_state, .ref a0_sum, .ref a0_pad, .ref a0_text, .int (nI v_a0_texts), .ref a0_info, .int (nI v_a0_infos), .ref a0_made, .ref a0_blockKey, .ref a0_nonce, .ref a0_x, .ref a0_first, .ref a0_block, .ref a0_a, .ref a0_r, .ref a0_product, .ref a0_tag, .ref a0_sealed])), (a0_kept, aN C.D 8 t_a0_kept)]) cw_X8_221 (hy_X8_beyond) g (c_R_bey0 C.l C.D 9 14 (by omega) (by omega)) dX8_look_4 rfl (by decide) (by decide) (Nat.le_of_ble_eq_true rfl) [] [0, 1] rfl rfl (by decide) rfl (by decide) (by decide) _ rfl (fun r wo hp1 => ?_)
  obtain ⟨rfl, rfl⟩ := hp1
  show VJ C 0 0 7 [(0, .ref a0), (1, .int (nI 9))] [.int (nI 0), .ref a0] [(a0, .inr (8, [.int (nI v_a0_thrown), .ref a0_tape, .int (nI v_a0_taped), .ref a0_out, .int (nI v_a0_outs), .ref a0_slots, .ref a0_kept, .ref a0_phase, .ref a0_secret, .ref a0_key, .ref a0_hide, .ref a0_iv, .ref a0_begin, .ref a0_each, .ref a0_root, .ref a0_power, .ref a0_work, .ref a0_w, .ref a0_h, .ref a0_state, .ref a0_sum, .ref a0_pad, .ref a0_text, .int (nI v_a0_texts), .ref a0_info, .int (nI v_a0_infos), .ref a0_made, .ref a0_blockKey, .ref a0_nonce, .ref a0_x, .ref a0_first, .ref a0_block, .ref a0_a, .ref a0_r, .ref a0_product, .ref a0_tag, .ref a0_sealed])), (a0_kept, aN C.D 8 t_a0_kept)]
  refine v_iconst g dX8_look_7 (v := nI 1) (by decide +kernel) ?_
  refine v_callV (As := [.int (nI 0), .int (nI 1)]) (rest := []) (wr := [(a0_kept, aN C.D 8 t_a0_kept)]) cw_X8_211 (hy_X8_fails) g (c_R_fail0 C.l C.D a0 1 v_a0_thrown a0_tape v_a0_taped a0_out v_a0_outs a0_slots a0_kept a0_phase a0_secret a0_key a0_hide a0_iv a0_begin a0_each a0_root a0_power a0_work a0_w a0_h a0_state a0_sum a0_pad a0_text v_a0_texts a0_info v_a0_infos a0_made a0_blockKey a0_nonce a0_x a0_first a0_block a0_a a0_r a0_product a0_tag a0_sealed ) dX8_look_8 0 rfl rfl rfl (by decide) (by decide) (Nat.le_of_ble_eq_true rfl) [0] [1] rfl rfl (by decide) rfl (by decide) (by decide) _ rfl (fun r wo hp2 => ?_)
  obtain ⟨rfl, rfl⟩ := hp2
  refine v_perm [1, 0] [(a0, .inr (8, [.int (nI 0), .ref a0_tape, .int (nI v_a0_taped), .ref a0_out, .int (nI v_a0_outs), .ref a0_slots, .ref a0_kept, .ref a0_phase, .ref a0_secret, .ref a0_key, .ref a0_hide, .ref a0_iv, .ref a0_begin, .ref a0_each, .ref a0_root, .ref a0_power, .ref a0_work, .ref a0_w, .ref a0_h, .ref a0_state, .ref a0_sum, .ref a0_pad, .ref a0_text, .int (nI v_a0_texts), .ref a0_info, .int (nI v_a0_infos), .ref a0_made, .ref a0_blockKey, .ref a0_nonce, .ref a0_x, .ref a0_first, .ref a0_block, .ref a0_a, .ref a0_r, .ref a0_product, .ref a0_tag, .ref a0_sealed])), (a0_kept, aN C.D 8 t_a0_kept)] (by decide) rfl rfl ?_
  show VJ C 0 0 11 [(0, .ref a0), (1, .int (nI 9))] [.int (nI 0)] [(a0, .inr (8, [.int (nI 0), .ref a0_tape, .int (nI v_a0_taped), .ref a0_out, .int (nI v_a0_outs), .ref a0_slots, .ref a0_kept, .ref a0_phase, .ref a0_secret, .ref a0_key, .ref a0_hide, .ref a0_iv, .ref a0_begin, .ref a0_each, .ref a0_root, .ref a0_power, .ref a0_work, .ref a0_w, .ref a0_h, .ref a0_state, .ref a0_sum, .ref a0_pad, .ref a0_text, .int (nI v_a0_texts), .ref a0_info, .int (nI v_a0_infos), .ref a0_made, .ref a0_blockKey, .ref a0_nonce, .ref a0_x, .ref a0_first, .ref a0_block, .ref a0_a, .ref a0_r, .ref a0_product, .ref a0_tag, .ref a0_sealed])), (a0_kept, aN C.D 8 t_a0_kept)]
  refine v_if_eqN g 16 dX8_look_11 (by decide) (by decide) (fun _ => ?_) (fun h => absurd h (by decide))
  refine v_iload_n g dX8_look_16 1 rfl 1 rfl ?_
  refine v_if_neN g 27 dX8_look_17 (by decide) (by decide) (fun _ => ?_) (fun h => absurd h (by decide))
  refine v_iload_n g dX8_look_27 1 rfl 1 rfl ?_
  refine v_iconst g dX8_look_28 (v := nI 1) (by decide +kernel) ?_
  refine v_icmp_neN g 39 dX8_look_29 (by decide) (by decide) (by decide) (fun _ => ?_) (fun h => absurd h (by decide))
  refine v_iload_n g dX8_look_39 1 rfl 1 rfl ?_
  refine v_bipush g dX8_look_40 (v := nI 10) (by decide +kernel) ?_
  refine v_icmp_geN g 56 dX8_look_42 (by decide) (by decide) (by decide) (fun h => absurd h (by decide)) (fun _ => ?_)
  refine v_aload_n g dX8_look_45 0 rfl 0 rfl ?_
  refine gf_X8_19 g dX8_look_46 0 rfl rfl ?_
  refine v_iload_n g dX8_look_49 1 rfl 1 rfl ?_
  refine v_iconst g dX8_look_50 (v := nI 2) (by decide +kernel) ?_
  refine v_isubN g dX8_look_51 (by decide) ?_
  refine v_toi (nI 7) rfl ?_
  refine v_ialdN g 1 rfl (by decide) (by decide) dX8_look_52 ?_
  refine v_goto g 65 dX8_look_53 (by decide) ?_
  exact v_iret g R dX8_look_65 (by decide) (by decide) ⟨rfl, rfl⟩
set_option maxHeartbeats 4000000 in
set_option maxRecDepth 100000 in
theorem m_look10 (l : Launch) (D : va_G) (a0 : Nat) (v_a0_thrown : Nat) (a0_tape : Nat) (v_a0_taped : Nat) (a0_out : Nat) (v_a0_outs : Nat) (a0_slots : Nat) (a0_kept : Nat) (a0_phase : Nat) (a0_secret : Nat) (a0_key : Nat) (a0_hide : Nat) (a0_iv : Nat) (a0_begin : Nat) (a0_each : Nat) (a0_root : Nat) (a0_power : Nat) (a0_work : Nat) (a0_w : Nat) (a0_h : Nat) (a0_state : Nat) (a0_sum : Nat) (a0_pad : Nat) (a0_text : Nat) (v_a0_texts : Nat) (a0_info : Nat) (v_a0_infos : Nat) (a0_made : Nat) (a0_blockKey : Nat) (a0_nonce : Nat) (a0_x : Nat) (a0_first : Nat) (a0_block : Nat) (a0_a : Nat) (a0_r : Nat) (a0_product : Nat) (a0_tag : Nat) (a0_sealed : Nat) (t_a0_phase : Nat → Wd)   : vM l D yX8_look cX8_look 2 (some .int) { frames := 1, cells := 0, slots := 0, locals := 22 } [.ref a0, .int (nI 10)] [(a0, .inr (8, [.int (nI v_a0_thrown), .ref a0_tape, .int (nI v_a0_taped), .ref a0_out, .int (nI v_a0_outs), .ref a0_slots, .ref a0_kept, .ref a0_phase, .ref a0_secret, .ref a0_key, .ref a0_hide, .ref a0_iv, .ref a0_begin, .ref a0_each, .ref a0_root, .ref a0_power, .ref a0_work, .ref a0_w, .ref a0_h, .ref a0_state, .ref a0_sum, .ref a0_pad, .ref a0_text, .int (nI v_a0_texts), .ref a0_info, .int (nI v_a0_infos), .ref a0_made, .ref a0_blockKey, .ref a0_nonce, .ref a0_x, .ref a0_first, .ref a0_block, .ref a0_a, .ref a0_r, .ref a0_product, .ref a0_tag, .ref a0_sealed])), (a0_phase, aW D 4 t_a0_phase)] (fun r wo => r = some (.int (wI (t_a0_phase 0))) ∧ wo = [(a0, .inr (8, [.int (nI 0), .ref a0_tape, .int (nI v_a0_taped), .ref a0_out, .int (nI v_a0_outs), .ref a0_slots, .ref a0_kept, .ref a0_phase, .ref a0_secret, .ref a0_key, .ref a0_hide, .ref a0_iv, .ref a0_begin, .ref a0_each, .ref a0_root, .ref a0_power, .ref a0_work, .ref a0_w, .ref a0_h, .ref a0_state, .ref a0_sum, .ref a0_pad, .ref a0_text, .int (nI v_a0_texts), .ref a0_info, .int (nI v_a0_infos), .ref a0_made, .ref a0_blockKey, .ref a0_nonce, .ref a0_x, .ref a0_first, .ref a0_block, .ref a0_a, .ref a0_r, .ref a0_product, .ref a0_tag, .ref a0_sealed])), (a0_phase, aW D 4 t_a0_phase)]) := by
  refine vM.of (by decide) (Nat.le_of_ble_eq_true rfl) (fun C hCl hCD g R => ?_)
  subst hCl; subst hCD
  show VJ C 0 0 0 [(0, .ref a0), (1, .int (nI 10))] [] [(a0, .inr (8, [.int (nI v_a0_thrown), .ref a0_tape, .int (nI v_a0_taped), .ref a0_out, .int (nI v_a0_outs), .ref a0_slots, .ref a0_kept, .ref a0_phase, .ref a0_secret, .ref a0_key, .ref a0_hide, .ref a0_iv, .ref a0_begin, .ref a0_each, .ref a0_root, .ref a0_power, .ref a0_work, .ref a0_w, .ref a0_h, .ref a0_state, .ref a0_sum, .ref a0_pad, .ref a0_text, .int (nI v_a0_texts), .ref a0_info, .int (nI v_a0_infos), .ref a0_made, .ref a0_blockKey, .ref a0_nonce, .ref a0_x, .ref a0_first, .ref a0_block, .ref a0_a, .ref a0_r, .ref a0_product, .ref a0_tag, .ref a0_sealed])), (a0_phase, aW C.D 4 t_a0_phase)]
  refine v_aload_n g dX8_look_0 0 rfl 0 rfl ?_
  refine v_iload_n g dX8_look_1 1 rfl 1 rfl ?_
  refine v_bipush g dX8_look_2 (v := nI 14) (by decide +kernel) ?_
  refine v_callS (As := [.int (nI 10), .int (nI 14)]) (rest := [.ref a0]) (wr := [(a0, .inr (8, [.int (nI v_a0_thrown), .ref a0_tape, .int (nI v_a0_taped), .ref a0_out, .int (nI v_a0_outs), .ref a0_slots, .ref a0_kept, .ref a0_phase, .ref a0_secret, .ref a0_key, .ref a0_hide, .ref a0_iv, .ref a0_begin, .ref a0_each, .ref a0_root, .ref a0_power, .ref a0_work, .ref a0_w, .ref a0_h, .ref a0_state, .ref a0_sum, .ref a0_pad, .ref a0_text, .int (nI v_a0_texts), .ref a0_info, .int (nI v_a0_infos), .ref a0_made, .ref a0_blockKey, .ref a0_nonce, .ref a0_x, .ref a0_first, .ref a0_block, .ref a0_a, .ref a0_r, .ref a0_product, .ref a0_tag, .ref a0_sealed])), (a0_phase, aW C.D 4 t_a0_phase)]) cw_X8_221 (hy_X8_beyond) g (c_R_bey0 C.l C.D 10 14 (by omega) (by omega)) dX8_look_4 rfl (by decide) (by decide) (Nat.le_of_ble_eq_true rfl) [] [0, 1] rfl rfl (by decide) rfl (by decide) (by decide) _ rfl (fun r wo hp1 => ?_)
  obtain ⟨rfl, rfl⟩ := hp1
  show VJ C 0 0 7 [(0, .ref a0), (1, .int (nI 10))] [.int (nI 0), .ref a0] [(a0, .inr (8, [.int (nI v_a0_thrown), .ref a0_tape, .int (nI v_a0_taped), .ref a0_out, .int (nI v_a0_outs), .ref a0_slots, .ref a0_kept, .ref a0_phase, .ref a0_secret, .ref a0_key, .ref a0_hide, .ref a0_iv, .ref a0_begin, .ref a0_each, .ref a0_root, .ref a0_power, .ref a0_work, .ref a0_w, .ref a0_h, .ref a0_state, .ref a0_sum, .ref a0_pad, .ref a0_text, .int (nI v_a0_texts), .ref a0_info, .int (nI v_a0_infos), .ref a0_made, .ref a0_blockKey, .ref a0_nonce, .ref a0_x, .ref a0_first, .ref a0_block, .ref a0_a, .ref a0_r, .ref a0_product, .ref a0_tag, .ref a0_sealed])), (a0_phase, aW C.D 4 t_a0_phase)]
  refine v_iconst g dX8_look_7 (v := nI 1) (by decide +kernel) ?_
  refine v_callV (As := [.int (nI 0), .int (nI 1)]) (rest := []) (wr := [(a0_phase, aW C.D 4 t_a0_phase)]) cw_X8_211 (hy_X8_fails) g (c_R_fail0 C.l C.D a0 1 v_a0_thrown a0_tape v_a0_taped a0_out v_a0_outs a0_slots a0_kept a0_phase a0_secret a0_key a0_hide a0_iv a0_begin a0_each a0_root a0_power a0_work a0_w a0_h a0_state a0_sum a0_pad a0_text v_a0_texts a0_info v_a0_infos a0_made a0_blockKey a0_nonce a0_x a0_first a0_block a0_a a0_r a0_product a0_tag a0_sealed ) dX8_look_8 0 rfl rfl rfl (by decide) (by decide) (Nat.le_of_ble_eq_true rfl) [0] [1] rfl rfl (by decide) rfl (by decide) (by decide) _ rfl (fun r wo hp2 => ?_)
  obtain ⟨rfl, rfl⟩ := hp2
  refine v_perm [1, 0] [(a0, .inr (8, [.int (nI 0), .ref a0_tape, .int (nI v_a0_taped), .ref a0_out, .int (nI v_a0_outs), .ref a0_slots, .ref a0_kept, .ref a0_phase, .ref a0_secret, .ref a0_key, .ref a0_hide, .ref a0_iv, .ref a0_begin, .ref a0_each, .ref a0_root, .ref a0_power, .ref a0_work, .ref a0_w, .ref a0_h, .ref a0_state, .ref a0_sum, .ref a0_pad, .ref a0_text, .int (nI v_a0_texts), .ref a0_info, .int (nI v_a0_infos), .ref a0_made, .ref a0_blockKey, .ref a0_nonce, .ref a0_x, .ref a0_first, .ref a0_block, .ref a0_a, .ref a0_r, .ref a0_product, .ref a0_tag, .ref a0_sealed])), (a0_phase, aW C.D 4 t_a0_phase)] (by decide) rfl rfl ?_
  show VJ C 0 0 11 [(0, .ref a0), (1, .int (nI 10))] [.int (nI 0)] [(a0, .inr (8, [.int (nI 0), .ref a0_tape, .int (nI v_a0_taped), .ref a0_out, .int (nI v_a0_outs), .ref a0_slots, .ref a0_kept, .ref a0_phase, .ref a0_secret, .ref a0_key, .ref a0_hide, .ref a0_iv, .ref a0_begin, .ref a0_each, .ref a0_root, .ref a0_power, .ref a0_work, .ref a0_w, .ref a0_h, .ref a0_state, .ref a0_sum, .ref a0_pad, .ref a0_text, .int (nI v_a0_texts), .ref a0_info, .int (nI v_a0_infos), .ref a0_made, .ref a0_blockKey, .ref a0_nonce, .ref a0_x, .ref a0_first, .ref a0_block, .ref a0_a, .ref a0_r, .ref a0_product, .ref a0_tag, .ref a0_sealed])), (a0_phase, aW C.D 4 t_a0_phase)]
  refine v_if_eqN g 16 dX8_look_11 (by decide) (by decide) (fun _ => ?_) (fun h => absurd h (by decide))
  refine v_iload_n g dX8_look_16 1 rfl 1 rfl ?_
  refine v_if_neN g 27 dX8_look_17 (by decide) (by decide) (fun _ => ?_) (fun h => absurd h (by decide))
  refine v_iload_n g dX8_look_27 1 rfl 1 rfl ?_
  refine v_iconst g dX8_look_28 (v := nI 1) (by decide +kernel) ?_
  refine v_icmp_neN g 39 dX8_look_29 (by decide) (by decide) (by decide) (fun _ => ?_) (fun h => absurd h (by decide))
  refine v_iload_n g dX8_look_39 1 rfl 1 rfl ?_
  refine v_bipush g dX8_look_40 (v := nI 10) (by decide +kernel) ?_
  refine v_icmp_geN g 56 dX8_look_42 (by decide) (by decide) (by decide) (fun _ => ?_) (fun h => absurd h (by decide))
  refine v_aload_n g dX8_look_56 0 rfl 0 rfl ?_
  refine gf_X8_22 g dX8_look_57 0 rfl rfl ?_
  refine v_iload_n g dX8_look_60 1 rfl 1 rfl ?_
  refine v_bipush g dX8_look_61 (v := nI 10) (by decide +kernel) ?_
  refine v_isubN g dX8_look_63 (by decide) ?_
  refine v_toi (nI 0) rfl ?_
  refine v_ialdW g 1 rfl (by decide) (by decide) dX8_look_64 ?_
  exact v_iret g R dX8_look_65 (by decide) (by decide) ⟨rfl, rfl⟩
set_option maxHeartbeats 4000000 in
set_option maxRecDepth 100000 in
theorem m_look11 (l : Launch) (D : va_G) (a0 : Nat) (v_a0_thrown : Nat) (a0_tape : Nat) (v_a0_taped : Nat) (a0_out : Nat) (v_a0_outs : Nat) (a0_slots : Nat) (a0_kept : Nat) (a0_phase : Nat) (a0_secret : Nat) (a0_key : Nat) (a0_hide : Nat) (a0_iv : Nat) (a0_begin : Nat) (a0_each : Nat) (a0_root : Nat) (a0_power : Nat) (a0_work : Nat) (a0_w : Nat) (a0_h : Nat) (a0_state : Nat) (a0_sum : Nat) (a0_pad : Nat) (a0_text : Nat) (v_a0_texts : Nat) (a0_info : Nat) (v_a0_infos : Nat) (a0_made : Nat) (a0_blockKey : Nat) (a0_nonce : Nat) (a0_x : Nat) (a0_first : Nat) (a0_block : Nat) (a0_a : Nat) (a0_r : Nat) (a0_product : Nat) (a0_tag : Nat) (a0_sealed : Nat) (t_a0_phase : Nat → Wd)   : vM l D yX8_look cX8_look 2 (some .int) { frames := 1, cells := 0, slots := 0, locals := 22 } [.ref a0, .int (nI 11)] [(a0, .inr (8, [.int (nI v_a0_thrown), .ref a0_tape, .int (nI v_a0_taped), .ref a0_out, .int (nI v_a0_outs), .ref a0_slots, .ref a0_kept, .ref a0_phase, .ref a0_secret, .ref a0_key, .ref a0_hide, .ref a0_iv, .ref a0_begin, .ref a0_each, .ref a0_root, .ref a0_power, .ref a0_work, .ref a0_w, .ref a0_h, .ref a0_state, .ref a0_sum, .ref a0_pad, .ref a0_text, .int (nI v_a0_texts), .ref a0_info, .int (nI v_a0_infos), .ref a0_made, .ref a0_blockKey, .ref a0_nonce, .ref a0_x, .ref a0_first, .ref a0_block, .ref a0_a, .ref a0_r, .ref a0_product, .ref a0_tag, .ref a0_sealed])), (a0_phase, aW D 4 t_a0_phase)] (fun r wo => r = some (.int (wI (t_a0_phase 1))) ∧ wo = [(a0, .inr (8, [.int (nI 0), .ref a0_tape, .int (nI v_a0_taped), .ref a0_out, .int (nI v_a0_outs), .ref a0_slots, .ref a0_kept, .ref a0_phase, .ref a0_secret, .ref a0_key, .ref a0_hide, .ref a0_iv, .ref a0_begin, .ref a0_each, .ref a0_root, .ref a0_power, .ref a0_work, .ref a0_w, .ref a0_h, .ref a0_state, .ref a0_sum, .ref a0_pad, .ref a0_text, .int (nI v_a0_texts), .ref a0_info, .int (nI v_a0_infos), .ref a0_made, .ref a0_blockKey, .ref a0_nonce, .ref a0_x, .ref a0_first, .ref a0_block, .ref a0_a, .ref a0_r, .ref a0_product, .ref a0_tag, .ref a0_sealed])), (a0_phase, aW D 4 t_a0_phase)]) := by
  refine vM.of (by decide) (Nat.le_of_ble_eq_true rfl) (fun C hCl hCD g R => ?_)
  subst hCl; subst hCD
  show VJ C 0 0 0 [(0, .ref a0), (1, .int (nI 11))] [] [(a0, .inr (8, [.int (nI v_a0_thrown), .ref a0_tape, .int (nI v_a0_taped), .ref a0_out, .int (nI v_a0_outs), .ref a0_slots, .ref a0_kept, .ref a0_phase, .ref a0_secret, .ref a0_key, .ref a0_hide, .ref a0_iv, .ref a0_begin, .ref a0_each, .ref a0_root, .ref a0_power, .ref a0_work, .ref a0_w, .ref a0_h, .ref a0_state, .ref a0_sum, .ref a0_pad, .ref a0_text, .int (nI v_a0_texts), .ref a0_info, .int (nI v_a0_infos), .ref a0_made, .ref a0_blockKey, .ref a0_nonce, .ref a0_x, .ref a0_first, .ref a0_block, .ref a0_a, .ref a0_r, .ref a0_product, .ref a0_tag, .ref a0_sealed])), (a0_phase, aW C.D 4 t_a0_phase)]
  refine v_aload_n g dX8_look_0 0 rfl 0 rfl ?_
  refine v_iload_n g dX8_look_1 1 rfl 1 rfl ?_
  refine v_bipush g dX8_look_2 (v := nI 14) (by decide +kernel) ?_
  refine v_callS (As := [.int (nI 11), .int (nI 14)]) (rest := [.ref a0]) (wr := [(a0, .inr (8, [.int (nI v_a0_thrown), .ref a0_tape, .int (nI v_a0_taped), .ref a0_out, .int (nI v_a0_outs), .ref a0_slots, .ref a0_kept, .ref a0_phase, .ref a0_secret, .ref a0_key, .ref a0_hide, .ref a0_iv, .ref a0_begin, .ref a0_each, .ref a0_root, .ref a0_power, .ref a0_work, .ref a0_w, .ref a0_h, .ref a0_state, .ref a0_sum, .ref a0_pad, .ref a0_text, .int (nI v_a0_texts), .ref a0_info, .int (nI v_a0_infos), .ref a0_made, .ref a0_blockKey, .ref a0_nonce, .ref a0_x, .ref a0_first, .ref a0_block, .ref a0_a, .ref a0_r, .ref a0_product, .ref a0_tag, .ref a0_sealed])), (a0_phase, aW C.D 4 t_a0_phase)]) cw_X8_221 (hy_X8_beyond) g (c_R_bey0 C.l C.D 11 14 (by omega) (by omega)) dX8_look_4 rfl (by decide) (by decide) (Nat.le_of_ble_eq_true rfl) [] [0, 1] rfl rfl (by decide) rfl (by decide) (by decide) _ rfl (fun r wo hp1 => ?_)
  obtain ⟨rfl, rfl⟩ := hp1
  show VJ C 0 0 7 [(0, .ref a0), (1, .int (nI 11))] [.int (nI 0), .ref a0] [(a0, .inr (8, [.int (nI v_a0_thrown), .ref a0_tape, .int (nI v_a0_taped), .ref a0_out, .int (nI v_a0_outs), .ref a0_slots, .ref a0_kept, .ref a0_phase, .ref a0_secret, .ref a0_key, .ref a0_hide, .ref a0_iv, .ref a0_begin, .ref a0_each, .ref a0_root, .ref a0_power, .ref a0_work, .ref a0_w, .ref a0_h, .ref a0_state, .ref a0_sum, .ref a0_pad, .ref a0_text, .int (nI v_a0_texts), .ref a0_info, .int (nI v_a0_infos), .ref a0_made, .ref a0_blockKey, .ref a0_nonce, .ref a0_x, .ref a0_first, .ref a0_block, .ref a0_a, .ref a0_r, .ref a0_product, .ref a0_tag, .ref a0_sealed])), (a0_phase, aW C.D 4 t_a0_phase)]
  refine v_iconst g dX8_look_7 (v := nI 1) (by decide +kernel) ?_
  refine v_callV (As := [.int (nI 0), .int (nI 1)]) (rest := []) (wr := [(a0_phase, aW C.D 4 t_a0_phase)]) cw_X8_211 (hy_X8_fails) g (c_R_fail0 C.l C.D a0 1 v_a0_thrown a0_tape v_a0_taped a0_out v_a0_outs a0_slots a0_kept a0_phase a0_secret a0_key a0_hide a0_iv a0_begin a0_each a0_root a0_power a0_work a0_w a0_h a0_state a0_sum a0_pad a0_text v_a0_texts a0_info v_a0_infos a0_made a0_blockKey a0_nonce a0_x a0_first a0_block a0_a a0_r a0_product a0_tag a0_sealed ) dX8_look_8 0 rfl rfl rfl (by decide) (by decide) (Nat.le_of_ble_eq_true rfl) [0] [1] rfl rfl (by decide) rfl (by decide) (by decide) _ rfl (fun r wo hp2 => ?_)
  obtain ⟨rfl, rfl⟩ := hp2
  refine v_perm [1, 0] [(a0, .inr (8, [.int (nI 0), .ref a0_tape, .int (nI v_a0_taped), .ref a0_out, .int (nI v_a0_outs), .ref a0_slots, .ref a0_kept, .ref a0_phase, .ref a0_secret, .ref a0_key, .ref a0_hide, .ref a0_iv, .ref a0_begin, .ref a0_each, .ref a0_root, .ref a0_power, .ref a0_work, .ref a0_w, .ref a0_h, .ref a0_state, .ref a0_sum, .ref a0_pad, .ref a0_text, .int (nI v_a0_texts), .ref a0_info, .int (nI v_a0_infos), .ref a0_made, .ref a0_blockKey, .ref a0_nonce, .ref a0_x, .ref a0_first, .ref a0_block, .ref a0_a, .ref a0_r, .ref a0_product, .ref a0_tag, .ref a0_sealed])), (a0_phase, aW C.D 4 t_a0_phase)] (by decide) rfl rfl ?_
  show VJ C 0 0 11 [(0, .ref a0), (1, .int (nI 11))] [.int (nI 0)] [(a0, .inr (8, [.int (nI 0), .ref a0_tape, .int (nI v_a0_taped), .ref a0_out, .int (nI v_a0_outs), .ref a0_slots, .ref a0_kept, .ref a0_phase, .ref a0_secret, .ref a0_key, .ref a0_hide, .ref a0_iv, .ref a0_begin, .ref a0_each, .ref a0_root, .ref a0_power, .ref a0_work, .ref a0_w, .ref a0_h, .ref a0_state, .ref a0_sum, .ref a0_pad, .ref a0_text, .int (nI v_a0_texts), .ref a0_info, .int (nI v_a0_infos), .ref a0_made, .ref a0_blockKey, .ref a0_nonce, .ref a0_x, .ref a0_first, .ref a0_block, .ref a0_a, .ref a0_r, .ref a0_product, .ref a0_tag, .ref a0_sealed])), (a0_phase, aW C.D 4 t_a0_phase)]
  refine v_if_eqN g 16 dX8_look_11 (by decide) (by decide) (fun _ => ?_) (fun h => absurd h (by decide))
  refine v_iload_n g dX8_look_16 1 rfl 1 rfl ?_
  refine v_if_neN g 27 dX8_look_17 (by decide) (by decide) (fun _ => ?_) (fun h => absurd h (by decide))
  refine v_iload_n g dX8_look_27 1 rfl 1 rfl ?_
  refine v_iconst g dX8_look_28 (v := nI 1) (by decide +kernel) ?_
  refine v_icmp_neN g 39 dX8_look_29 (by decide) (by decide) (by decide) (fun _ => ?_) (fun h => absurd h (by decide))
  refine v_iload_n g dX8_look_39 1 rfl 1 rfl ?_
  refine v_bipush g dX8_look_40 (v := nI 10) (by decide +kernel) ?_
  refine v_icmp_geN g 56 dX8_look_42 (by decide) (by decide) (by decide) (fun _ => ?_) (fun h => absurd h (by decide))
  refine v_aload_n g dX8_look_56 0 rfl 0 rfl ?_
  refine gf_X8_22 g dX8_look_57 0 rfl rfl ?_
  refine v_iload_n g dX8_look_60 1 rfl 1 rfl ?_
  refine v_bipush g dX8_look_61 (v := nI 10) (by decide +kernel) ?_
  refine v_isubN g dX8_look_63 (by decide) ?_
  refine v_toi (nI 1) rfl ?_
  refine v_ialdW g 1 rfl (by decide) (by decide) dX8_look_64 ?_
  exact v_iret g R dX8_look_65 (by decide) (by decide) ⟨rfl, rfl⟩
set_option maxHeartbeats 4000000 in
set_option maxRecDepth 100000 in
theorem m_look12 (l : Launch) (D : va_G) (a0 : Nat) (v_a0_thrown : Nat) (a0_tape : Nat) (v_a0_taped : Nat) (a0_out : Nat) (v_a0_outs : Nat) (a0_slots : Nat) (a0_kept : Nat) (a0_phase : Nat) (a0_secret : Nat) (a0_key : Nat) (a0_hide : Nat) (a0_iv : Nat) (a0_begin : Nat) (a0_each : Nat) (a0_root : Nat) (a0_power : Nat) (a0_work : Nat) (a0_w : Nat) (a0_h : Nat) (a0_state : Nat) (a0_sum : Nat) (a0_pad : Nat) (a0_text : Nat) (v_a0_texts : Nat) (a0_info : Nat) (v_a0_infos : Nat) (a0_made : Nat) (a0_blockKey : Nat) (a0_nonce : Nat) (a0_x : Nat) (a0_first : Nat) (a0_block : Nat) (a0_a : Nat) (a0_r : Nat) (a0_product : Nat) (a0_tag : Nat) (a0_sealed : Nat) (t_a0_phase : Nat → Wd)   : vM l D yX8_look cX8_look 2 (some .int) { frames := 1, cells := 0, slots := 0, locals := 22 } [.ref a0, .int (nI 12)] [(a0, .inr (8, [.int (nI v_a0_thrown), .ref a0_tape, .int (nI v_a0_taped), .ref a0_out, .int (nI v_a0_outs), .ref a0_slots, .ref a0_kept, .ref a0_phase, .ref a0_secret, .ref a0_key, .ref a0_hide, .ref a0_iv, .ref a0_begin, .ref a0_each, .ref a0_root, .ref a0_power, .ref a0_work, .ref a0_w, .ref a0_h, .ref a0_state, .ref a0_sum, .ref a0_pad, .ref a0_text, .int (nI v_a0_texts), .ref a0_info, .int (nI v_a0_infos), .ref a0_made, .ref a0_blockKey, .ref a0_nonce, .ref a0_x, .ref a0_first, .ref a0_block, .ref a0_a, .ref a0_r, .ref a0_product, .ref a0_tag, .ref a0_sealed])), (a0_phase, aW D 4 t_a0_phase)] (fun r wo => r = some (.int (wI (t_a0_phase 2))) ∧ wo = [(a0, .inr (8, [.int (nI 0), .ref a0_tape, .int (nI v_a0_taped), .ref a0_out, .int (nI v_a0_outs), .ref a0_slots, .ref a0_kept, .ref a0_phase, .ref a0_secret, .ref a0_key, .ref a0_hide, .ref a0_iv, .ref a0_begin, .ref a0_each, .ref a0_root, .ref a0_power, .ref a0_work, .ref a0_w, .ref a0_h, .ref a0_state, .ref a0_sum, .ref a0_pad, .ref a0_text, .int (nI v_a0_texts), .ref a0_info, .int (nI v_a0_infos), .ref a0_made, .ref a0_blockKey, .ref a0_nonce, .ref a0_x, .ref a0_first, .ref a0_block, .ref a0_a, .ref a0_r, .ref a0_product, .ref a0_tag, .ref a0_sealed])), (a0_phase, aW D 4 t_a0_phase)]) := by
  refine vM.of (by decide) (Nat.le_of_ble_eq_true rfl) (fun C hCl hCD g R => ?_)
  subst hCl; subst hCD
  show VJ C 0 0 0 [(0, .ref a0), (1, .int (nI 12))] [] [(a0, .inr (8, [.int (nI v_a0_thrown), .ref a0_tape, .int (nI v_a0_taped), .ref a0_out, .int (nI v_a0_outs), .ref a0_slots, .ref a0_kept, .ref a0_phase, .ref a0_secret, .ref a0_key, .ref a0_hide, .ref a0_iv, .ref a0_begin, .ref a0_each, .ref a0_root, .ref a0_power, .ref a0_work, .ref a0_w, .ref a0_h, .ref a0_state, .ref a0_sum, .ref a0_pad, .ref a0_text, .int (nI v_a0_texts), .ref a0_info, .int (nI v_a0_infos), .ref a0_made, .ref a0_blockKey, .ref a0_nonce, .ref a0_x, .ref a0_first, .ref a0_block, .ref a0_a, .ref a0_r, .ref a0_product, .ref a0_tag, .ref a0_sealed])), (a0_phase, aW C.D 4 t_a0_phase)]
  refine v_aload_n g dX8_look_0 0 rfl 0 rfl ?_
  refine v_iload_n g dX8_look_1 1 rfl 1 rfl ?_
  refine v_bipush g dX8_look_2 (v := nI 14) (by decide +kernel) ?_
  refine v_callS (As := [.int (nI 12), .int (nI 14)]) (rest := [.ref a0]) (wr := [(a0, .inr (8, [.int (nI v_a0_thrown), .ref a0_tape, .int (nI v_a0_taped), .ref a0_out, .int (nI v_a0_outs), .ref a0_slots, .ref a0_kept, .ref a0_phase, .ref a0_secret, .ref a0_key, .ref a0_hide, .ref a0_iv, .ref a0_begin, .ref a0_each, .ref a0_root, .ref a0_power, .ref a0_work, .ref a0_w, .ref a0_h, .ref a0_state, .ref a0_sum, .ref a0_pad, .ref a0_text, .int (nI v_a0_texts), .ref a0_info, .int (nI v_a0_infos), .ref a0_made, .ref a0_blockKey, .ref a0_nonce, .ref a0_x, .ref a0_first, .ref a0_block, .ref a0_a, .ref a0_r, .ref a0_product, .ref a0_tag, .ref a0_sealed])), (a0_phase, aW C.D 4 t_a0_phase)]) cw_X8_221 (hy_X8_beyond) g (c_R_bey0 C.l C.D 12 14 (by omega) (by omega)) dX8_look_4 rfl (by decide) (by decide) (Nat.le_of_ble_eq_true rfl) [] [0, 1] rfl rfl (by decide) rfl (by decide) (by decide) _ rfl (fun r wo hp1 => ?_)
  obtain ⟨rfl, rfl⟩ := hp1
  show VJ C 0 0 7 [(0, .ref a0), (1, .int (nI 12))] [.int (nI 0), .ref a0] [(a0, .inr (8, [.int (nI v_a0_thrown), .ref a0_tape, .int (nI v_a0_taped), .ref a0_out, .int (nI v_a0_outs), .ref a0_slots, .ref a0_kept, .ref a0_phase, .ref a0_secret, .ref a0_key, .ref a0_hide, .ref a0_iv, .ref a0_begin, .ref a0_each, .ref a0_root, .ref a0_power, .ref a0_work, .ref a0_w, .ref a0_h, .ref a0_state, .ref a0_sum, .ref a0_pad, .ref a0_text, .int (nI v_a0_texts), .ref a0_info, .int (nI v_a0_infos), .ref a0_made, .ref a0_blockKey, .ref a0_nonce, .ref a0_x, .ref a0_first, .ref a0_block, .ref a0_a, .ref a0_r, .ref a0_product, .ref a0_tag, .ref a0_sealed])), (a0_phase, aW C.D 4 t_a0_phase)]
  refine v_iconst g dX8_look_7 (v := nI 1) (by decide +kernel) ?_
  refine v_callV (As := [.int (nI 0), .int (nI 1)]) (rest := []) (wr := [(a0_phase, aW C.D 4 t_a0_phase)]) cw_X8_211 (hy_X8_fails) g (c_R_fail0 C.l C.D a0 1 v_a0_thrown a0_tape v_a0_taped a0_out v_a0_outs a0_slots a0_kept a0_phase a0_secret a0_key a0_hide a0_iv a0_begin a0_each a0_root a0_power a0_work a0_w a0_h a0_state a0_sum a0_pad a0_text v_a0_texts a0_info v_a0_infos a0_made a0_blockKey a0_nonce a0_x a0_first a0_block a0_a a0_r a0_product a0_tag a0_sealed ) dX8_look_8 0 rfl rfl rfl (by decide) (by decide) (Nat.le_of_ble_eq_true rfl) [0] [1] rfl rfl (by decide) rfl (by decide) (by decide) _ rfl (fun r wo hp2 => ?_)
  obtain ⟨rfl, rfl⟩ := hp2
  refine v_perm [1, 0] [(a0, .inr (8, [.int (nI 0), .ref a0_tape, .int (nI v_a0_taped), .ref a0_out, .int (nI v_a0_outs), .ref a0_slots, .ref a0_kept, .ref a0_phase, .ref a0_secret, .ref a0_key, .ref a0_hide, .ref a0_iv, .ref a0_begin, .ref a0_each, .ref a0_root, .ref a0_power, .ref a0_work, .ref a0_w, .ref a0_h, .ref a0_state, .ref a0_sum, .ref a0_pad, .ref a0_text, .int (nI v_a0_texts), .ref a0_info, .int (nI v_a0_infos), .ref a0_made, .ref a0_blockKey, .ref a0_nonce, .ref a0_x, .ref a0_first, .ref a0_block, .ref a0_a, .ref a0_r, .ref a0_product, .ref a0_tag, .ref a0_sealed])), (a0_phase, aW C.D 4 t_a0_phase)] (by decide) rfl rfl ?_
  show VJ C 0 0 11 [(0, .ref a0), (1, .int (nI 12))] [.int (nI 0)] [(a0, .inr (8, [.int (nI 0), .ref a0_tape, .int (nI v_a0_taped), .ref a0_out, .int (nI v_a0_outs), .ref a0_slots, .ref a0_kept, .ref a0_phase, .ref a0_secret, .ref a0_key, .ref a0_hide, .ref a0_iv, .ref a0_begin, .ref a0_each, .ref a0_root, .ref a0_power, .ref a0_work, .ref a0_w, .ref a0_h, .ref a0_state, .ref a0_sum, .ref a0_pad, .ref a0_text, .int (nI v_a0_texts), .ref a0_info, .int (nI v_a0_infos), .ref a0_made, .ref a0_blockKey, .ref a0_nonce, .ref a0_x, .ref a0_first, .ref a0_block, .ref a0_a, .ref a0_r, .ref a0_product, .ref a0_tag, .ref a0_sealed])), (a0_phase, aW C.D 4 t_a0_phase)]
  refine v_if_eqN g 16 dX8_look_11 (by decide) (by decide) (fun _ => ?_) (fun h => absurd h (by decide))
  refine v_iload_n g dX8_look_16 1 rfl 1 rfl ?_
  refine v_if_neN g 27 dX8_look_17 (by decide) (by decide) (fun _ => ?_) (fun h => absurd h (by decide))
  refine v_iload_n g dX8_look_27 1 rfl 1 rfl ?_
  refine v_iconst g dX8_look_28 (v := nI 1) (by decide +kernel) ?_
  refine v_icmp_neN g 39 dX8_look_29 (by decide) (by decide) (by decide) (fun _ => ?_) (fun h => absurd h (by decide))
  refine v_iload_n g dX8_look_39 1 rfl 1 rfl ?_
  refine v_bipush g dX8_look_40 (v := nI 10) (by decide +kernel) ?_
  refine v_icmp_geN g 56 dX8_look_42 (by decide) (by decide) (by decide) (fun _ => ?_) (fun h => absurd h (by decide))
  refine v_aload_n g dX8_look_56 0 rfl 0 rfl ?_
  refine gf_X8_22 g dX8_look_57 0 rfl rfl ?_
  refine v_iload_n g dX8_look_60 1 rfl 1 rfl ?_
  refine v_bipush g dX8_look_61 (v := nI 10) (by decide +kernel) ?_
  refine v_isubN g dX8_look_63 (by decide) ?_
  refine v_toi (nI 2) rfl ?_
  refine v_ialdW g 1 rfl (by decide) (by decide) dX8_look_64 ?_
  exact v_iret g R dX8_look_65 (by decide) (by decide) ⟨rfl, rfl⟩
set_option maxHeartbeats 4000000 in
set_option maxRecDepth 100000 in
theorem m_look13 (l : Launch) (D : va_G) (a0 : Nat) (v_a0_thrown : Nat) (a0_tape : Nat) (v_a0_taped : Nat) (a0_out : Nat) (v_a0_outs : Nat) (a0_slots : Nat) (a0_kept : Nat) (a0_phase : Nat) (a0_secret : Nat) (a0_key : Nat) (a0_hide : Nat) (a0_iv : Nat) (a0_begin : Nat) (a0_each : Nat) (a0_root : Nat) (a0_power : Nat) (a0_work : Nat) (a0_w : Nat) (a0_h : Nat) (a0_state : Nat) (a0_sum : Nat) (a0_pad : Nat) (a0_text : Nat) (v_a0_texts : Nat) (a0_info : Nat) (v_a0_infos : Nat) (a0_made : Nat) (a0_blockKey : Nat) (a0_nonce : Nat) (a0_x : Nat) (a0_first : Nat) (a0_block : Nat) (a0_a : Nat) (a0_r : Nat) (a0_product : Nat) (a0_tag : Nat) (a0_sealed : Nat) (t_a0_phase : Nat → Wd)   : vM l D yX8_look cX8_look 2 (some .int) { frames := 1, cells := 0, slots := 0, locals := 22 } [.ref a0, .int (nI 13)] [(a0, .inr (8, [.int (nI v_a0_thrown), .ref a0_tape, .int (nI v_a0_taped), .ref a0_out, .int (nI v_a0_outs), .ref a0_slots, .ref a0_kept, .ref a0_phase, .ref a0_secret, .ref a0_key, .ref a0_hide, .ref a0_iv, .ref a0_begin, .ref a0_each, .ref a0_root, .ref a0_power, .ref a0_work, .ref a0_w, .ref a0_h, .ref a0_state, .ref a0_sum, .ref a0_pad, .ref a0_text, .int (nI v_a0_texts), .ref a0_info, .int (nI v_a0_infos), .ref a0_made, .ref a0_blockKey, .ref a0_nonce, .ref a0_x, .ref a0_first, .ref a0_block, .ref a0_a, .ref a0_r, .ref a0_product, .ref a0_tag, .ref a0_sealed])), (a0_phase, aW D 4 t_a0_phase)] (fun r wo => r = some (.int (wI (t_a0_phase 3))) ∧ wo = [(a0, .inr (8, [.int (nI 0), .ref a0_tape, .int (nI v_a0_taped), .ref a0_out, .int (nI v_a0_outs), .ref a0_slots, .ref a0_kept, .ref a0_phase, .ref a0_secret, .ref a0_key, .ref a0_hide, .ref a0_iv, .ref a0_begin, .ref a0_each, .ref a0_root, .ref a0_power, .ref a0_work, .ref a0_w, .ref a0_h, .ref a0_state, .ref a0_sum, .ref a0_pad, .ref a0_text, .int (nI v_a0_texts), .ref a0_info, .int (nI v_a0_infos), .ref a0_made, .ref a0_blockKey, .ref a0_nonce, .ref a0_x, .ref a0_first, .ref a0_block, .ref a0_a, .ref a0_r, .ref a0_product, .ref a0_tag, .ref a0_sealed])), (a0_phase, aW D 4 t_a0_phase)]) := by
  refine vM.of (by decide) (Nat.le_of_ble_eq_true rfl) (fun C hCl hCD g R => ?_)
  subst hCl; subst hCD
  show VJ C 0 0 0 [(0, .ref a0), (1, .int (nI 13))] [] [(a0, .inr (8, [.int (nI v_a0_thrown), .ref a0_tape, .int (nI v_a0_taped), .ref a0_out, .int (nI v_a0_outs), .ref a0_slots, .ref a0_kept, .ref a0_phase, .ref a0_secret, .ref a0_key, .ref a0_hide, .ref a0_iv, .ref a0_begin, .ref a0_each, .ref a0_root, .ref a0_power, .ref a0_work, .ref a0_w, .ref a0_h, .ref a0_state, .ref a0_sum, .ref a0_pad, .ref a0_text, .int (nI v_a0_texts), .ref a0_info, .int (nI v_a0_infos), .ref a0_made, .ref a0_blockKey, .ref a0_nonce, .ref a0_x, .ref a0_first, .ref a0_block, .ref a0_a, .ref a0_r, .ref a0_product, .ref a0_tag, .ref a0_sealed])), (a0_phase, aW C.D 4 t_a0_phase)]
  refine v_aload_n g dX8_look_0 0 rfl 0 rfl ?_
  refine v_iload_n g dX8_look_1 1 rfl 1 rfl ?_
  refine v_bipush g dX8_look_2 (v := nI 14) (by decide +kernel) ?_
  refine v_callS (As := [.int (nI 13), .int (nI 14)]) (rest := [.ref a0]) (wr := [(a0, .inr (8, [.int (nI v_a0_thrown), .ref a0_tape, .int (nI v_a0_taped), .ref a0_out, .int (nI v_a0_outs), .ref a0_slots, .ref a0_kept, .ref a0_phase, .ref a0_secret, .ref a0_key, .ref a0_hide, .ref a0_iv, .ref a0_begin, .ref a0_each, .ref a0_root, .ref a0_power, .ref a0_work, .ref a0_w, .ref a0_h, .ref a0_state, .ref a0_sum, .ref a0_pad, .ref a0_text, .int (nI v_a0_texts), .ref a0_info, .int (nI v_a0_infos), .ref a0_made, .ref a0_blockKey, .ref a0_nonce, .ref a0_x, .ref a0_first, .ref a0_block, .ref a0_a, .ref a0_r, .ref a0_product, .ref a0_tag, .ref a0_sealed])), (a0_phase, aW C.D 4 t_a0_phase)]) cw_X8_221 (hy_X8_beyond) g (c_R_bey0 C.l C.D 13 14 (by omega) (by omega)) dX8_look_4 rfl (by decide) (by decide) (Nat.le_of_ble_eq_true rfl) [] [0, 1] rfl rfl (by decide) rfl (by decide) (by decide) _ rfl (fun r wo hp1 => ?_)
  obtain ⟨rfl, rfl⟩ := hp1
  show VJ C 0 0 7 [(0, .ref a0), (1, .int (nI 13))] [.int (nI 0), .ref a0] [(a0, .inr (8, [.int (nI v_a0_thrown), .ref a0_tape, .int (nI v_a0_taped), .ref a0_out, .int (nI v_a0_outs), .ref a0_slots, .ref a0_kept, .ref a0_phase, .ref a0_secret, .ref a0_key, .ref a0_hide, .ref a0_iv, .ref a0_begin, .ref a0_each, .ref a0_root, .ref a0_power, .ref a0_work, .ref a0_w, .ref a0_h, .ref a0_state, .ref a0_sum, .ref a0_pad, .ref a0_text, .int (nI v_a0_texts), .ref a0_info, .int (nI v_a0_infos), .ref a0_made, .ref a0_blockKey, .ref a0_nonce, .ref a0_x, .ref a0_first, .ref a0_block, .ref a0_a, .ref a0_r, .ref a0_product, .ref a0_tag, .ref a0_sealed])), (a0_phase, aW C.D 4 t_a0_phase)]
  refine v_iconst g dX8_look_7 (v := nI 1) (by decide +kernel) ?_
  refine v_callV (As := [.int (nI 0), .int (nI 1)]) (rest := []) (wr := [(a0_phase, aW C.D 4 t_a0_phase)]) cw_X8_211 (hy_X8_fails) g (c_R_fail0 C.l C.D a0 1 v_a0_thrown a0_tape v_a0_taped a0_out v_a0_outs a0_slots a0_kept a0_phase a0_secret a0_key a0_hide a0_iv a0_begin a0_each a0_root a0_power a0_work a0_w a0_h a0_state a0_sum a0_pad a0_text v_a0_texts a0_info v_a0_infos a0_made a0_blockKey a0_nonce a0_x a0_first a0_block a0_a a0_r a0_product a0_tag a0_sealed ) dX8_look_8 0 rfl rfl rfl (by decide) (by decide) (Nat.le_of_ble_eq_true rfl) [0] [1] rfl rfl (by decide) rfl (by decide) (by decide) _ rfl (fun r wo hp2 => ?_)
  obtain ⟨rfl, rfl⟩ := hp2
  refine v_perm [1, 0] [(a0, .inr (8, [.int (nI 0), .ref a0_tape, .int (nI v_a0_taped), .ref a0_out, .int (nI v_a0_outs), .ref a0_slots, .ref a0_kept, .ref a0_phase, .ref a0_secret, .ref a0_key, .ref a0_hide, .ref a0_iv, .ref a0_begin, .ref a0_each, .ref a0_root, .ref a0_power, .ref a0_work, .ref a0_w, .ref a0_h, .ref a0_state, .ref a0_sum, .ref a0_pad, .ref a0_text, .int (nI v_a0_texts), .ref a0_info, .int (nI v_a0_infos), .ref a0_made, .ref a0_blockKey, .ref a0_nonce, .ref a0_x, .ref a0_first, .ref a0_block, .ref a0_a, .ref a0_r, .ref a0_product, .ref a0_tag, .ref a0_sealed])), (a0_phase, aW C.D 4 t_a0_phase)] (by decide) rfl rfl ?_
  show VJ C 0 0 11 [(0, .ref a0), (1, .int (nI 13))] [.int (nI 0)] [(a0, .inr (8, [.int (nI 0), .ref a0_tape, .int (nI v_a0_taped), .ref a0_out, .int (nI v_a0_outs), .ref a0_slots, .ref a0_kept, .ref a0_phase, .ref a0_secret, .ref a0_key, .ref a0_hide, .ref a0_iv, .ref a0_begin, .ref a0_each, .ref a0_root, .ref a0_power, .ref a0_work, .ref a0_w, .ref a0_h, .ref a0_state, .ref a0_sum, .ref a0_pad, .ref a0_text, .int (nI v_a0_texts), .ref a0_info, .int (nI v_a0_infos), .ref a0_made, .ref a0_blockKey, .ref a0_nonce, .ref a0_x, .ref a0_first, .ref a0_block, .ref a0_a, .ref a0_r, .ref a0_product, .ref a0_tag, .ref a0_sealed])), (a0_phase, aW C.D 4 t_a0_phase)]
  refine v_if_eqN g 16 dX8_look_11 (by decide) (by decide) (fun _ => ?_) (fun h => absurd h (by decide))
  refine v_iload_n g dX8_look_16 1 rfl 1 rfl ?_
  refine v_if_neN g 27 dX8_look_17 (by decide) (by decide) (fun _ => ?_) (fun h => absurd h (by decide))
  refine v_iload_n g dX8_look_27 1 rfl 1 rfl ?_
  refine v_iconst g dX8_look_28 (v := nI 1) (by decide +kernel) ?_
  refine v_icmp_neN g 39 dX8_look_29 (by decide) (by decide) (by decide) (fun _ => ?_) (fun h => absurd h (by decide))
  refine v_iload_n g dX8_look_39 1 rfl 1 rfl ?_
  refine v_bipush g dX8_look_40 (v := nI 10) (by decide +kernel) ?_
  refine v_icmp_geN g 56 dX8_look_42 (by decide) (by decide) (by decide) (fun _ => ?_) (fun h => absurd h (by decide))
  refine v_aload_n g dX8_look_56 0 rfl 0 rfl ?_
  refine gf_X8_22 g dX8_look_57 0 rfl rfl ?_
  refine v_iload_n g dX8_look_60 1 rfl 1 rfl ?_
  refine v_bipush g dX8_look_61 (v := nI 10) (by decide +kernel) ?_
  refine v_isubN g dX8_look_63 (by decide) ?_
  refine v_toi (nI 3) rfl ?_
  refine v_ialdW g 1 rfl (by decide) (by decide) dX8_look_64 ?_
  exact v_iret g R dX8_look_65 (by decide) (by decide) ⟨rfl, rfl⟩
set_option maxHeartbeats 4000000 in
set_option maxRecDepth 100000 in
theorem f_look (l : Launch) (D : va_G) (a0 : Nat) (p1 : Int32) (v_a0_thrown : Nat) (a0_tape : Nat) (v_a0_taped : Nat) (a0_out : Nat) (v_a0_outs : Nat) (a0_slots : Nat) (a0_kept : Nat) (a0_phase : Nat) (a0_secret : Nat) (a0_key : Nat) (a0_hide : Nat) (a0_iv : Nat) (a0_begin : Nat) (a0_each : Nat) (a0_root : Nat) (a0_power : Nat) (a0_work : Nat) (a0_w : Nat) (a0_h : Nat) (a0_state : Nat) (a0_sum : Nat) (a0_pad : Nat) (a0_text : Nat) (v_a0_texts : Nat) (a0_info : Nat) (v_a0_infos : Nat) (a0_made : Nat) (a0_blockKey : Nat) (a0_nonce : Nat) (a0_x : Nat) (a0_first : Nat) (a0_block : Nat) (a0_a : Nat) (a0_r : Nat) (a0_product : Nat) (a0_tag : Nat) (a0_sealed : Nat)  (h0 : p1 < 0 ∨ nI 14 ≤ p1) : vM l D yX8_look cX8_look 2 (some .int) { frames := 1, cells := 0, slots := 0, locals := 22 } [.ref a0, .int p1] [(a0, .inr (8, [.int (nI v_a0_thrown), .ref a0_tape, .int (nI v_a0_taped), .ref a0_out, .int (nI v_a0_outs), .ref a0_slots, .ref a0_kept, .ref a0_phase, .ref a0_secret, .ref a0_key, .ref a0_hide, .ref a0_iv, .ref a0_begin, .ref a0_each, .ref a0_root, .ref a0_power, .ref a0_work, .ref a0_w, .ref a0_h, .ref a0_state, .ref a0_sum, .ref a0_pad, .ref a0_text, .int (nI v_a0_texts), .ref a0_info, .int (nI v_a0_infos), .ref a0_made, .ref a0_blockKey, .ref a0_nonce, .ref a0_x, .ref a0_first, .ref a0_block, .ref a0_a, .ref a0_r, .ref a0_product, .ref a0_tag, .ref a0_sealed]))] (fun r wo => r = some (.int (nI 0)) ∧ wo = [(a0, .inr (8, [.int (nI 1), .ref a0_tape, .int (nI v_a0_taped), .ref a0_out, .int (nI v_a0_outs), .ref a0_slots, .ref a0_kept, .ref a0_phase, .ref a0_secret, .ref a0_key, .ref a0_hide, .ref a0_iv, .ref a0_begin, .ref a0_each, .ref a0_root, .ref a0_power, .ref a0_work, .ref a0_w, .ref a0_h, .ref a0_state, .ref a0_sum, .ref a0_pad, .ref a0_text, .int (nI v_a0_texts), .ref a0_info, .int (nI v_a0_infos), .ref a0_made, .ref a0_blockKey, .ref a0_nonce, .ref a0_x, .ref a0_first, .ref a0_block, .ref a0_a, .ref a0_r, .ref a0_product, .ref a0_tag, .ref a0_sealed]))]) := by
  refine vM.of (by decide) (Nat.le_of_ble_eq_true rfl) (fun C hCl hCD g R => ?_)
  subst hCl; subst hCD
  show VJ C 0 0 0 [(0, .ref a0), (1, .int p1)] [] [(a0, .inr (8, [.int (nI v_a0_thrown), .ref a0_tape, .int (nI v_a0_taped), .ref a0_out, .int (nI v_a0_outs), .ref a0_slots, .ref a0_kept, .ref a0_phase, .ref a0_secret, .ref a0_key, .ref a0_hide, .ref a0_iv, .ref a0_begin, .ref a0_each, .ref a0_root, .ref a0_power, .ref a0_work, .ref a0_w, .ref a0_h, .ref a0_state, .ref a0_sum, .ref a0_pad, .ref a0_text, .int (nI v_a0_texts), .ref a0_info, .int (nI v_a0_infos), .ref a0_made, .ref a0_blockKey, .ref a0_nonce, .ref a0_x, .ref a0_first, .ref a0_block, .ref a0_a, .ref a0_r, .ref a0_product, .ref a0_tag, .ref a0_sealed]))]
  refine v_aload_n g dX8_look_0 0 rfl 0 rfl ?_
  refine v_iload_n g dX8_look_1 1 rfl 1 rfl ?_
  refine v_bipush g dX8_look_2 (v := nI 14) (by decide +kernel) ?_
  refine v_callS (As := [.int p1, .int (nI 14)]) (rest := [.ref a0]) (wr := [(a0, .inr (8, [.int (nI v_a0_thrown), .ref a0_tape, .int (nI v_a0_taped), .ref a0_out, .int (nI v_a0_outs), .ref a0_slots, .ref a0_kept, .ref a0_phase, .ref a0_secret, .ref a0_key, .ref a0_hide, .ref a0_iv, .ref a0_begin, .ref a0_each, .ref a0_root, .ref a0_power, .ref a0_work, .ref a0_w, .ref a0_h, .ref a0_state, .ref a0_sum, .ref a0_pad, .ref a0_text, .int (nI v_a0_texts), .ref a0_info, .int (nI v_a0_infos), .ref a0_made, .ref a0_blockKey, .ref a0_nonce, .ref a0_x, .ref a0_first, .ref a0_block, .ref a0_a, .ref a0_r, .ref a0_product, .ref a0_tag, .ref a0_sealed]))]) cw_X8_221 (hy_X8_beyond) g (c_R_bey1 C.l C.D p1 14 h0) dX8_look_4 rfl (by decide) (by decide) (Nat.le_of_ble_eq_true rfl) [] [0] rfl rfl (by decide) rfl (by decide) (by decide) _ rfl (fun r wo hp1 => ?_)
  obtain ⟨rfl, rfl⟩ := hp1
  show VJ C 0 0 7 [(0, .ref a0), (1, .int p1)] [.int (nI 1), .ref a0] [(a0, .inr (8, [.int (nI v_a0_thrown), .ref a0_tape, .int (nI v_a0_taped), .ref a0_out, .int (nI v_a0_outs), .ref a0_slots, .ref a0_kept, .ref a0_phase, .ref a0_secret, .ref a0_key, .ref a0_hide, .ref a0_iv, .ref a0_begin, .ref a0_each, .ref a0_root, .ref a0_power, .ref a0_work, .ref a0_w, .ref a0_h, .ref a0_state, .ref a0_sum, .ref a0_pad, .ref a0_text, .int (nI v_a0_texts), .ref a0_info, .int (nI v_a0_infos), .ref a0_made, .ref a0_blockKey, .ref a0_nonce, .ref a0_x, .ref a0_first, .ref a0_block, .ref a0_a, .ref a0_r, .ref a0_product, .ref a0_tag, .ref a0_sealed]))]
  refine v_iconst g dX8_look_7 (v := nI 1) (by decide +kernel) ?_
  refine v_callV (As := [.int (nI 1), .int (nI 1)]) (rest := []) (wr := []) cw_X8_211 (hy_X8_fails) g (c_R_fail1 C.l C.D a0 1 v_a0_thrown a0_tape v_a0_taped a0_out v_a0_outs a0_slots a0_kept a0_phase a0_secret a0_key a0_hide a0_iv a0_begin a0_each a0_root a0_power a0_work a0_w a0_h a0_state a0_sum a0_pad a0_text v_a0_texts a0_info v_a0_infos a0_made a0_blockKey a0_nonce a0_x a0_first a0_block a0_a a0_r a0_product a0_tag a0_sealed ) dX8_look_8 0 rfl rfl rfl (by decide) (by decide) (Nat.le_of_ble_eq_true rfl) [0] [] rfl rfl (by decide) rfl (by decide) (by decide) _ rfl (fun r wo hp2 => ?_)
  obtain ⟨rfl, rfl⟩ := hp2
  show VJ C 0 0 11 [(0, .ref a0), (1, .int p1)] [.int (nI 1)] [(a0, .inr (8, [.int (nI 1), .ref a0_tape, .int (nI v_a0_taped), .ref a0_out, .int (nI v_a0_outs), .ref a0_slots, .ref a0_kept, .ref a0_phase, .ref a0_secret, .ref a0_key, .ref a0_hide, .ref a0_iv, .ref a0_begin, .ref a0_each, .ref a0_root, .ref a0_power, .ref a0_work, .ref a0_w, .ref a0_h, .ref a0_state, .ref a0_sum, .ref a0_pad, .ref a0_text, .int (nI v_a0_texts), .ref a0_info, .int (nI v_a0_infos), .ref a0_made, .ref a0_blockKey, .ref a0_nonce, .ref a0_x, .ref a0_first, .ref a0_block, .ref a0_a, .ref a0_r, .ref a0_product, .ref a0_tag, .ref a0_sealed]))]
  refine v_if_eqN g 16 dX8_look_11 (by decide) (by decide) (fun h => absurd h (by decide)) (fun _ => ?_)
  refine v_iconst g dX8_look_14 (v := nI 0) (by decide +kernel) ?_
  exact v_iret g R dX8_look_15 (by decide) (by decide) ⟨rfl, rfl⟩
