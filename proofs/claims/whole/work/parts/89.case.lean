/-! the law: what a call does to both -/
set_option maxRecDepth 100000 in
set_option maxHeartbeats 4000000 in
theorem k_feed {C : Cx} {k n i b L ao : Nat} {xs : Nat → Int32} {ad am : Nat → Nat} {S : Sc} {M : Sm} {tj : Nat → Int64} (g : vG C code RL 8 room_1) (hNA : NoA C.s) (hT : noTr C.l) (hX : va_X b L xs C.s C.s.heap) (hbl : b < C.s.heap.size) (hbA : ¬ C.A b) (hL : L < 2 ^ 31) (hi : i + 5 ≤ L) (hk : k + 1 ≤ 601024) (hn : n + 6 ≤ 7293034) (hB : IB S) (hM : IM M) (hE : Eqv S.k (coM M))
    (KK : ∀ (S' : Sc) (M' : Sm) (tj' : Nat → Int64), IB S' → IM M' → Eqv S'.k (coM M') → VJ C (k + 1) (n + 6) 1147 [(0, .ref b), (1, .ref (ad 0)), (2, .ref (am 0)), (3, .ref ao), (4, .int (nI i))] [] ((ao, aJ C.D 1 tj') :: (BW C.D ad S' ++ MW C.D am M'))) : VJ C k n 120 [(0, .ref b), (1, .ref (ad 0)), (2, .ref (am 0)), (3, .ref ao), (4, .int (nI i))] [] ((ao, aJ C.D 1 tj) :: (BW C.D ad S ++ MW C.D am M)) := by
  refine v_aload_n g dlaw_120 1 rfl 1 rfl ?_
  refine v_aload_n g dlaw_121 0 rfl 0 rfl ?_
  refine v_iload g dlaw_122 4 rfl ?_
  refine v_iconst g dlaw_124 (v := nI 1) (by decide +kernel) ?_
  refine v_iaddN g dlaw_125 ?_
  refine v_sld g hX hbl hbA (by omega) hL dlaw_126 ?_
  refine v_aload_n g dlaw_127 0 rfl 0 rfl ?_
  refine v_iload g dlaw_128 4 rfl ?_
  refine v_iconst g dlaw_130 (v := nI 2) (by decide +kernel) ?_
  refine v_iaddN g dlaw_131 ?_
  refine v_sld g hX hbl hbA (by omega) hL dlaw_132 ?_
  refine v_i2lW g ((xs (i + 2)).toBitVec) rfl dlaw_133 ?_
  refine v_bipush g dlaw_134 (v := nI 32) (by decide +kernel) ?_
  refine v_lshlX g (by omega) dlaw_136 ?_
  refine v_aload_n g dlaw_137 0 rfl 0 rfl ?_
  refine v_iload g dlaw_138 4 rfl ?_
  refine v_iconst g dlaw_140 (v := nI 3) (by decide +kernel) ?_
  refine v_iaddN g dlaw_141 ?_
  refine v_sld g hX hbl hbA (by omega) hL dlaw_142 ?_
  refine v_i2lW g ((xs (i + 3)).toBitVec) rfl dlaw_143 ?_
  refine v_ldc2 g dlaw_144 kl_L_73 ?_
  refine v_landX g (((xs (i + 3)).toBitVec).signExtend 64) (4294967295#64) rfl (xL_n _) dlaw_147 ?_
  refine v_lorX g ((((xs (i + 2)).toBitVec).signExtend 64) <<< 32) ((((xs (i + 3)).toBitVec).signExtend 64) &&& 4294967295#64) rfl rfl dlaw_148 ?_
  refine v_aload_n g dlaw_149 3 rfl 3 rfl ?_
  refine v_callSW0 (As := [.ref (ad 0), .int (xs (i + 1)), .long (xL (((((xs (i + 2)).toBitVec).signExtend 64) <<< 32) ||| ((((xs (i + 3)).toBitVec).signExtend 64) &&& 4294967295#64))), .ref ao]) (rest := []) ws_75 hw_L_feed g hNA (vMW.frameR (w_feed C.l hT C.D ad S hB ao tj (xs (i + 1)) ((((xs (i + 2)).toBitVec.signExtend 64) <<< 32) ||| (((xs (i + 3)).toBitVec.signExtend 64) &&& 4294967295#64))) (MW C.D am M)) dlaw_150 rfl (by decide) ⟨hk, hn⟩ (by decide) _ rfl (fun r wo h => ?_)
  obtain ⟨wo1, ⟨S1, c1, a1, tj1, rfl, rfl, hR1, ha1, hB1⟩, rfl⟩ := h
  show VJ C (k + 1) (n + 6) 153 [(0, .ref b), (1, .ref (ad 0)), (2, .ref (am 0)), (3, .ref ao), (4, .int (nI i))] [.int (nI c1)] ((ao, aJ C.D 1 tj1) :: (BW C.D ad S1 ++ MW C.D am M))
  refine v_istore g [(5, .int (nI c1)), (0, .ref b), (1, .ref (ad 0)), (2, .ref (am 0)), (3, .ref ao), (4, .int (nI i))] dlaw_153 (by decide) rfl ?_
  refine v_aload_n g dlaw_155 2 rfl 3 rfl ?_
  refine v_aload_n g dlaw_156 0 rfl 1 rfl ?_
  refine v_iload g dlaw_157 5 rfl ?_
  refine v_iconst g dlaw_159 (v := nI 1) (by decide +kernel) ?_
  refine v_iaddN g dlaw_160 ?_
  refine v_sld g hX hbl hbA (by omega) hL dlaw_161 ?_
  refine v_aload_n g dlaw_162 0 rfl 1 rfl ?_
  refine v_iload g dlaw_163 5 rfl ?_
  refine v_iconst g dlaw_165 (v := nI 2) (by decide +kernel) ?_
  refine v_iaddN g dlaw_166 ?_
  refine v_sld g hX hbl hbA (by omega) hL dlaw_167 ?_
  refine v_i2lW g ((xs (i + 2)).toBitVec) rfl dlaw_168 ?_
  refine v_bipush g dlaw_169 (v := nI 32) (by decide +kernel) ?_
  refine v_lshlX g (by omega) dlaw_171 ?_
  refine v_aload_n g dlaw_172 0 rfl 1 rfl ?_
  refine v_iload g dlaw_173 5 rfl ?_
  refine v_iconst g dlaw_175 (v := nI 3) (by decide +kernel) ?_
  refine v_iaddN g dlaw_176 ?_
  refine v_sld g hX hbl hbA (by omega) hL dlaw_177 ?_
  refine v_i2lW g ((xs (i + 3)).toBitVec) rfl dlaw_178 ?_
  refine v_ldc2 g dlaw_179 kl_L_73 ?_
  refine v_landX g (((xs (i + 3)).toBitVec).signExtend 64) (4294967295#64) rfl (xL_n _) dlaw_182 ?_
  refine v_lorX g ((((xs (i + 2)).toBitVec).signExtend 64) <<< 32) ((((xs (i + 3)).toBitVec).signExtend 64) &&& 4294967295#64) rfl rfl dlaw_183 ?_
  refine v_callV0 (As := [.int (xs (i + 1)), .long (xL (((((xs (i + 2)).toBitVec).signExtend 64) <<< 32) ||| ((((xs (i + 3)).toBitVec).signExtend 64) &&& 4294967295#64)))]) (rest := []) cw_L_80 (hy_X8_feed) g (vM.frameL (mr_feed C.l C.D am M hM (xs (i + 1)) ((((xs (i + 2)).toBitVec.signExtend 64) <<< 32) ||| (((xs (i + 3)).toBitVec.signExtend 64) &&& 4294967295#64))) ((ao, aJ C.D 1 tj1) :: BW C.D ad S1)) dlaw_184 87 rfl rfl rfl (by decide) ⟨hk, hn⟩ (by decide) _ rfl (fun r wo h => ?_)
  obtain ⟨wo3, ⟨M1, c2, a2, rfl, rfl, hR2, ht2, hM1⟩, rfl⟩ := h
  show VJ C (k + 1) (n + 6) 187 [(5, .int (nI c1)), (0, .ref b), (1, .ref (ad 0)), (2, .ref (am 0)), (3, .ref ao), (4, .int (nI i))] [.int a2] ((ao, aJ C.D 1 tj1) :: (BW C.D ad S1 ++ MW C.D am M1))
  obtain ⟨rfl, hA, hE1⟩ := det_feed hE hB.1 _ _ hR1 hR2
  refine v_istore g [(6, .int a2), (5, .int (nI c1)), (0, .ref b), (1, .ref (ad 0)), (2, .ref (am 0)), (3, .ref ao), (4, .int (nI i))] dlaw_187 (by decide) rfl ?_
  refine v_aload_n g dlaw_189 2 rfl 4 rfl ?_
  refine v_callV0 (As := []) (rest := []) cw_L_81 (hy_X8_thrown) g (vM.frameL (mr_thrown C.l C.D am M1) ((ao, aJ C.D 1 tj1) :: BW C.D ad S1)) dlaw_190 87 rfl rfl rfl (by decide) ⟨hk, hn⟩ (by decide) _ rfl (fun r wo h => ?_)
  obtain ⟨wo4, ⟨rfl, rfl⟩, rfl⟩ := h
  show VJ C (k + 1) (n + 6) 193 [(6, .int a2), (5, .int (nI c1)), (0, .ref b), (1, .ref (ad 0)), (2, .ref (am 0)), (3, .ref ao), (4, .int (nI i))] [.int (nI M1.f_thrown)] ((ao, aJ C.D 1 tj1) :: (BW C.D ad S1 ++ MW C.D am M1))
  rw [ht2]
  refine v_iload g dlaw_193 1 rfl ?_
  refine v_icmp_eq g 200 dlaw_195 (by decide) (fun _ => ?_) (fun h => absurd rfl h)
  refine v_iload g dlaw_200 1 rfl ?_
  refine v_if_neN g 217 dlaw_202 (by decide) (Nat.lt_trans (cb_feed hR1) (by decide)) (fun _ => ?_) (fun hc => ?_)
  · skip
    refine v_goto g 1147 dlaw_217 (by decide) ?_
    exact v_lpick [2, 3, 4, 5, 6] [(0, .ref b), (1, .ref (ad 0)), (2, .ref (am 0)), (3, .ref ao), (4, .int (nI i))] rfl (KK S1 M1 tj1 hB1 hM1 hE1)
  · skip
    refine v_aload_n g dlaw_205 3 rfl 5 rfl ?_
    refine v_iconst g dlaw_206 (v := nI 0) (by decide +kernel) ?_
    refine v_laldJ g 0 rfl (by decide) (by decide) dlaw_207 ?_
    refine v_iload g dlaw_208 0 rfl ?_
    refine v_i2l g dlaw_210 ?_
    refine v_lcmp g dlaw_211 ?_
    refine v_if_eq g 217 dlaw_212 (by decide) (fun _ => ?_) (fun h => absurd ((lg_cmp_eq _ _).mpr ((ha1 hc).trans (congrArg Int32.toInt64 (hA hc)))) h)
    refine v_goto g 1147 dlaw_217 (by decide) ?_
    exact v_lpick [2, 3, 4, 5, 6] [(0, .ref b), (1, .ref (ad 0)), (2, .ref (am 0)), (3, .ref ao), (4, .int (nI i))] rfl (KK S1 M1 tj1 hB1 hM1 hE1)
set_option maxRecDepth 100000 in
set_option maxHeartbeats 4000000 in
theorem k_wipe {C : Cx} {k n i b L ao : Nat} {xs : Nat → Int32} {ad am : Nat → Nat} {S : Sc} {M : Sm} {tj : Nat → Int64} (g : vG C code RL 8 room_1) (hNA : NoA C.s) (hT : noTr C.l) (hX : va_X b L xs C.s C.s.heap) (hbl : b < C.s.heap.size) (hbA : ¬ C.A b) (hL : L < 2 ^ 31) (hi : i + 5 ≤ L) (hk : k + 1 ≤ 601024) (hn : n + 6 ≤ 7293034) (hB : IB S) (hM : IM M) (hE : Eqv S.k (coM M))
    (KK : ∀ (S' : Sc) (M' : Sm) (tj' : Nat → Int64), IB S' → IM M' → Eqv S'.k (coM M') → VJ C (k + 1) (n + 6) 1147 [(0, .ref b), (1, .ref (ad 0)), (2, .ref (am 0)), (3, .ref ao), (4, .int (nI i))] [] ((ao, aJ C.D 1 tj') :: (BW C.D ad S' ++ MW C.D am M'))) : VJ C k n 220 [(0, .ref b), (1, .ref (ad 0)), (2, .ref (am 0)), (3, .ref ao), (4, .int (nI i))] [] ((ao, aJ C.D 1 tj) :: (BW C.D ad S ++ MW C.D am M)) := by
  refine v_aload_n g dlaw_220 1 rfl 1 rfl ?_
  refine v_callV0 (As := []) (rest := []) cw_L_85 (hy_X7_wipe) g (vM.frameR (vM.frameL (b_wipe C.l C.D ad S hB) [(ao, aJ C.D 1 tj)]) (MW C.D am M)) dlaw_221 1 rfl rfl rfl (by decide) ⟨Nat.le_of_succ_le hk, Nat.le_trans (Nat.le_add_right n 6) hn⟩ (by decide) _ rfl (fun r wo h => ?_)
  obtain ⟨wo1, ⟨wo2, ⟨S1, rfl, rfl, hR1, hB1⟩, rfl⟩, rfl⟩ := h
  show VJ C k n 224 [(0, .ref b), (1, .ref (ad 0)), (2, .ref (am 0)), (3, .ref ao), (4, .int (nI i))] [.int (nI S.k.tn)] ((ao, aJ C.D 1 tj) :: (BW C.D ad S1 ++ MW C.D am M))
  refine v_aload_n g dlaw_224 2 rfl 2 rfl ?_
  refine v_callV0 (As := []) (rest := [.int (nI S.k.tn)]) cw_L_88 (hy_X8_wipe) g (vM.frameL (mm_wipe C.l C.D am M hM) ((ao, aJ C.D 1 tj) :: BW C.D ad S1)) dlaw_225 87 rfl rfl rfl (by decide) ⟨Nat.le_of_succ_le hk, Nat.le_trans (Nat.le_add_right n 6) hn⟩ (Nat.le_of_ble_eq_true rfl) _ rfl (fun r wo h => ?_)
  obtain ⟨wo3, ⟨M1, rfl, rfl, hR2, ht2, hM1⟩, rfl⟩ := h
  show VJ C k n 228 [(0, .ref b), (1, .ref (ad 0)), (2, .ref (am 0)), (3, .ref ao), (4, .int (nI i))] [.int (nI ((coM M).tn)), .int (nI S.k.tn)] ((ao, aJ C.D 1 tj) :: (BW C.D ad S1 ++ MW C.D am M1))
  have hE1 : Eqv S1.k (coM M1) := ⟨eqT.zero hR1.1 hR2.1, hE.2.1.same hR1.2.1 hR2.2.1, hE.2.2.1.same hR1.2.2.1 hR2.2.2.1, hE.2.2.2.same hR1.2.2.2 hR2.2.2.2⟩
  refine v_icmp_eq g 1147 dlaw_228 (by decide) (fun _ => ?_) (fun h => absurd (congrArg nI hE.1.1) h)
  refine v_widen (Nat.le_succ k) (Nat.le_add_right n 6) ?_
  exact v_lpick [0, 1, 2, 3, 4] [(0, .ref b), (1, .ref (ad 0)), (2, .ref (am 0)), (3, .ref ao), (4, .int (nI i))] rfl (KK S1 M1 tj hB1 hM1 hE1)
set_option maxRecDepth 100000 in
set_option maxHeartbeats 4000000 in
theorem k_digest {C : Cx} {k n i b L ao : Nat} {xs : Nat → Int32} {ad am : Nat → Nat} {S : Sc} {M : Sm} {tj : Nat → Int64} (g : vG C code RL 8 room_1) (hNA : NoA C.s) (hT : noTr C.l) (hX : va_X b L xs C.s C.s.heap) (hbl : b < C.s.heap.size) (hbA : ¬ C.A b) (hL : L < 2 ^ 31) (hi : i + 5 ≤ L) (hk : k + 1 ≤ 601024) (hn : n + 6 ≤ 7293034) (hB : IB S) (hM : IM M) (hE : Eqv S.k (coM M))
    (KK : ∀ (S' : Sc) (M' : Sm) (tj' : Nat → Int64), IB S' → IM M' → Eqv S'.k (coM M') → VJ C (k + 1) (n + 6) 1147 [(0, .ref b), (1, .ref (ad 0)), (2, .ref (am 0)), (3, .ref ao), (4, .int (nI i))] [] ((ao, aJ C.D 1 tj') :: (BW C.D ad S' ++ MW C.D am M'))) : VJ C k n 317 [(0, .ref b), (1, .ref (ad 0)), (2, .ref (am 0)), (3, .ref ao), (4, .int (nI i))] [] ((ao, aJ C.D 1 tj) :: (BW C.D ad S ++ MW C.D am M)) := by
  refine v_aload_n g dlaw_317 1 rfl 1 rfl ?_
  refine v_callV0 (As := []) (rest := []) cw_L_93 (hy_X7_digest) g (vM.frameR (vM.frameL (b_digest C.l C.D ad S hB) [(ao, aJ C.D 1 tj)]) (MW C.D am M)) dlaw_318 1 rfl rfl rfl (by decide) ⟨Nat.le_of_succ_le hk, Nat.le_trans (Nat.le_add_right n 6) hn⟩ (by decide) _ rfl (fun r wo h => ?_)
  obtain ⟨wo1, ⟨wo2, ⟨S1, rfl, rfl, hR1, hB1⟩, rfl⟩, rfl⟩ := h
  show VJ C k n 321 [(0, .ref b), (1, .ref (ad 0)), (2, .ref (am 0)), (3, .ref ao), (4, .int (nI i))] [] ((ao, aJ C.D 1 tj) :: (BW C.D ad S1 ++ MW C.D am M))
  refine v_aload_n g dlaw_321 2 rfl 2 rfl ?_
  refine v_callV0 (As := []) (rest := []) cw_L_96 (hy_X8_digest) g (vM.frameL (mm_digest C.l C.D am M hM) ((ao, aJ C.D 1 tj) :: BW C.D ad S1)) dlaw_322 87 rfl rfl rfl (by decide) ⟨Nat.le_of_succ_le hk, Nat.le_trans (Nat.le_add_right n 6) hn⟩ (Nat.le_of_ble_eq_true rfl) _ rfl (fun r wo h => ?_)
  obtain ⟨wo3, ⟨M1, rfl, rfl, hR2, ht2, hM1⟩, rfl⟩ := h
  show VJ C k n 325 [(0, .ref b), (1, .ref (ad 0)), (2, .ref (am 0)), (3, .ref ao), (4, .int (nI i))] [] ((ao, aJ C.D 1 tj) :: (BW C.D ad S1 ++ MW C.D am M1))
  have hT0 : S.k.tn = (coM M).tn := hE.1.1
  have hE1 : Eqv S1.k (coM M1) := eq_out hE hR1 hR2 (fun j _ => by rw [← hT0]; exact congrFun (digF_congr hE.1.2) j)
  refine v_goto g 1147 dlaw_325 (by decide) ?_
  refine v_widen (Nat.le_succ k) (Nat.le_add_right n 6) ?_
  exact v_lpick [0, 1, 2, 3, 4] [(0, .ref b), (1, .ref (ad 0)), (2, .ref (am 0)), (3, .ref ao), (4, .int (nI i))] rfl (KK S1 M1 tj hB1 hM1 hE1)
set_option maxRecDepth 100000 in
set_option maxHeartbeats 4000000 in
theorem k_keep0 {C : Cx} {k n i b L ao : Nat} {xs : Nat → Int32} {ad am : Nat → Nat} {S : Sc} {M : Sm} {tj : Nat → Int64} (g : vG C code RL 8 room_1) (hNA : NoA C.s) (hT : noTr C.l) (hX : va_X b L xs C.s C.s.heap) (hbl : b < C.s.heap.size) (hbA : ¬ C.A b) (hL : L < 2 ^ 31) (hi : i + 5 ≤ L) (hk : k + 1 ≤ 601024) (hn : n + 6 ≤ 7293034) (hB : IB S) (hM : IM M) (hE : Eqv S.k (coM M)) (hz : xs (i + 2) = 0)
    (KK : ∀ (S' : Sc) (M' : Sm) (tj' : Nat → Int64), IB S' → IM M' → Eqv S'.k (coM M') → VJ C (k + 1) (n + 6) 1147 [(0, .ref b), (1, .ref (ad 0)), (2, .ref (am 0)), (3, .ref ao), (4, .int (nI i))] [] ((ao, aJ C.D 1 tj') :: (BW C.D ad S' ++ MW C.D am M'))) : VJ C k n 233 [(0, .ref b), (1, .ref (ad 0)), (2, .ref (am 0)), (3, .ref ao), (4, .int (nI i))] [] ((ao, aJ C.D 1 tj) :: (BW C.D ad S ++ MW C.D am M)) := by
  refine v_aload_n g dlaw_233 1 rfl 1 rfl ?_
  refine v_aload_n g dlaw_234 0 rfl 0 rfl ?_
  refine v_iload g dlaw_235 4 rfl ?_
  refine v_iconst g dlaw_237 (v := nI 1) (by decide +kernel) ?_
  refine v_iaddN g dlaw_238 ?_
  refine v_sld g hX hbl hbA (by omega) hL dlaw_239 ?_
  refine v_aload_n g dlaw_240 0 rfl 0 rfl ?_
  refine v_iload g dlaw_241 4 rfl ?_
  refine v_iconst g dlaw_243 (v := nI 2) (by decide +kernel) ?_
  refine v_iaddN g dlaw_244 ?_
  refine v_sld g hX hbl hbA (by omega) hL dlaw_245 ?_
  refine v_if_eq g 253 dlaw_246 (by decide) (fun _ => ?_) (fun h => absurd hz h)
  refine v_iconst g dlaw_253 (v := nI 0) (by decide +kernel) ?_
  refine v_aload_n g dlaw_254 3 rfl 3 rfl ?_
  refine v_callSW0 (As := [.ref (ad 0), .int (xs (i + 1)), .int (nI 0), .ref ao]) (rest := []) ws_89 hw_L_keep g hNA (vMW.frameR (w_keep0 C.l hT C.D ad S hB ao tj (xs (i + 1))) (MW C.D am M)) dlaw_255 rfl (by decide) ⟨hk, hn⟩ (by decide) _ rfl (fun r wo h => ?_)
  obtain ⟨wo1, ⟨S1, c1, a1, tj1, rfl, rfl, hR1, ha1, hB1⟩, rfl⟩ := h
  show VJ C (k + 1) (n + 6) 258 [(0, .ref b), (1, .ref (ad 0)), (2, .ref (am 0)), (3, .ref ao), (4, .int (nI i))] [.int (nI c1)] ((ao, aJ C.D 1 tj1) :: (BW C.D ad S1 ++ MW C.D am M))
  refine v_istore g [(5, .int (nI c1)), (0, .ref b), (1, .ref (ad 0)), (2, .ref (am 0)), (3, .ref ao), (4, .int (nI i))] dlaw_258 (by decide) rfl ?_
  refine v_aload_n g dlaw_260 2 rfl 3 rfl ?_
  refine v_aload_n g dlaw_261 0 rfl 1 rfl ?_
  refine v_iload g dlaw_262 5 rfl ?_
  refine v_iconst g dlaw_264 (v := nI 1) (by decide +kernel) ?_
  refine v_iaddN g dlaw_265 ?_
  refine v_sld g hX hbl hbA (by omega) hL dlaw_266 ?_
  refine v_aload_n g dlaw_267 0 rfl 1 rfl ?_
  refine v_iload g dlaw_268 5 rfl ?_
  refine v_iconst g dlaw_270 (v := nI 2) (by decide +kernel) ?_
  refine v_iaddN g dlaw_271 ?_
  refine v_sld g hX hbl hbA (by omega) hL dlaw_272 ?_
  refine v_if_eq g 280 dlaw_273 (by decide) (fun _ => ?_) (fun h => absurd hz h)
  refine v_iconst g dlaw_280 (v := nI 0) (by decide +kernel) ?_
  refine v_callV0 (As := [.int (xs (i + 1)), .int (nI 0)]) (rest := []) cw_L_92 (hy_X8_keep) g (vM.frameL (mr_keep0 C.l C.D am M hM (xs (i + 1))) ((ao, aJ C.D 1 tj1) :: BW C.D ad S1)) dlaw_281 87 rfl rfl rfl (by decide) ⟨hk, hn⟩ (by decide) _ rfl (fun r wo h => ?_)
  obtain ⟨wo3, ⟨M1, c2, a2, rfl, rfl, hR2, ht2, hM1⟩, rfl⟩ := h
  show VJ C (k + 1) (n + 6) 284 [(5, .int (nI c1)), (0, .ref b), (1, .ref (ad 0)), (2, .ref (am 0)), (3, .ref ao), (4, .int (nI i))] [.int a2] ((ao, aJ C.D 1 tj1) :: (BW C.D ad S1 ++ MW C.D am M1))
  obtain ⟨rfl, hA, hE1⟩ := det_keep hE hB.1 _ _ hR1 hR2
  refine v_istore g [(6, .int a2), (5, .int (nI c1)), (0, .ref b), (1, .ref (ad 0)), (2, .ref (am 0)), (3, .ref ao), (4, .int (nI i))] dlaw_284 (by decide) rfl ?_
  refine v_aload_n g dlaw_286 2 rfl 4 rfl ?_
  refine v_callV0 (As := []) (rest := []) cw_L_81 (hy_X8_thrown) g (vM.frameL (mr_thrown C.l C.D am M1) ((ao, aJ C.D 1 tj1) :: BW C.D ad S1)) dlaw_287 87 rfl rfl rfl (by decide) ⟨hk, hn⟩ (by decide) _ rfl (fun r wo h => ?_)
  obtain ⟨wo4, ⟨rfl, rfl⟩, rfl⟩ := h
  show VJ C (k + 1) (n + 6) 290 [(6, .int a2), (5, .int (nI c1)), (0, .ref b), (1, .ref (ad 0)), (2, .ref (am 0)), (3, .ref ao), (4, .int (nI i))] [.int (nI M1.f_thrown)] ((ao, aJ C.D 1 tj1) :: (BW C.D ad S1 ++ MW C.D am M1))
  rw [ht2]
  refine v_iload g dlaw_290 1 rfl ?_
  refine v_icmp_eq g 297 dlaw_292 (by decide) (fun _ => ?_) (fun h => absurd rfl h)
  refine v_iload g dlaw_297 1 rfl ?_
  refine v_if_neN g 314 dlaw_299 (by decide) (Nat.lt_trans (cb_keep hR1) (by decide)) (fun _ => ?_) (fun hc => ?_)
  · skip
    refine v_goto g 1147 dlaw_314 (by decide) ?_
    exact v_lpick [2, 3, 4, 5, 6] [(0, .ref b), (1, .ref (ad 0)), (2, .ref (am 0)), (3, .ref ao), (4, .int (nI i))] rfl (KK S1 M1 tj1 hB1 hM1 hE1)
  · skip
    refine v_aload_n g dlaw_302 3 rfl 5 rfl ?_
    refine v_iconst g dlaw_303 (v := nI 0) (by decide +kernel) ?_
    refine v_laldJ g 0 rfl (by decide) (by decide) dlaw_304 ?_
    refine v_iload g dlaw_305 0 rfl ?_
    refine v_i2l g dlaw_307 ?_
    refine v_lcmp g dlaw_308 ?_
    refine v_if_eq g 314 dlaw_309 (by decide) (fun _ => ?_) (fun h => absurd ((lg_cmp_eq _ _).mpr ((ha1 hc).trans (congrArg Int32.toInt64 (hA hc)))) h)
    refine v_goto g 1147 dlaw_314 (by decide) ?_
    exact v_lpick [2, 3, 4, 5, 6] [(0, .ref b), (1, .ref (ad 0)), (2, .ref (am 0)), (3, .ref ao), (4, .int (nI i))] rfl (KK S1 M1 tj1 hB1 hM1 hE1)
set_option maxRecDepth 100000 in
set_option maxHeartbeats 4000000 in
theorem k_keep1 {C : Cx} {k n i b L ao : Nat} {xs : Nat → Int32} {ad am : Nat → Nat} {S : Sc} {M : Sm} {tj : Nat → Int64} (g : vG C code RL 8 room_1) (hNA : NoA C.s) (hT : noTr C.l) (hX : va_X b L xs C.s C.s.heap) (hbl : b < C.s.heap.size) (hbA : ¬ C.A b) (hL : L < 2 ^ 31) (hi : i + 5 ≤ L) (hk : k + 1 ≤ 601024) (hn : n + 6 ≤ 7293034) (hB : IB S) (hM : IM M) (hE : Eqv S.k (coM M)) (hz : ¬ xs (i + 2) = 0)
    (KK : ∀ (S' : Sc) (M' : Sm) (tj' : Nat → Int64), IB S' → IM M' → Eqv S'.k (coM M') → VJ C (k + 1) (n + 6) 1147 [(0, .ref b), (1, .ref (ad 0)), (2, .ref (am 0)), (3, .ref ao), (4, .int (nI i))] [] ((ao, aJ C.D 1 tj') :: (BW C.D ad S' ++ MW C.D am M'))) : VJ C k n 233 [(0, .ref b), (1, .ref (ad 0)), (2, .ref (am 0)), (3, .ref ao), (4, .int (nI i))] [] ((ao, aJ C.D 1 tj) :: (BW C.D ad S ++ MW C.D am M)) := by
  refine v_aload_n g dlaw_233 1 rfl 1 rfl ?_
  refine v_aload_n g dlaw_234 0 rfl 0 rfl ?_
  refine v_iload g dlaw_235 4 rfl ?_
  refine v_iconst g dlaw_237 (v := nI 1) (by decide +kernel) ?_
  refine v_iaddN g dlaw_238 ?_
  refine v_sld g hX hbl hbA (by omega) hL dlaw_239 ?_
  refine v_aload_n g dlaw_240 0 rfl 0 rfl ?_
  refine v_iload g dlaw_241 4 rfl ?_
  refine v_iconst g dlaw_243 (v := nI 2) (by decide +kernel) ?_
  refine v_iaddN g dlaw_244 ?_
  refine v_sld g hX hbl hbA (by omega) hL dlaw_245 ?_
  refine v_if_eq g 253 dlaw_246 (by decide) (fun h => absurd h hz) (fun _ => ?_)
  refine v_iconst g dlaw_249 (v := nI 1) (by decide +kernel) ?_
  refine v_goto g 254 dlaw_250 (by decide) ?_
  refine v_aload_n g dlaw_254 3 rfl 3 rfl ?_
  refine v_callSW0 (As := [.ref (ad 0), .int (xs (i + 1)), .int (nI 1), .ref ao]) (rest := []) ws_89 hw_L_keep g hNA (vMW.frameR (w_keep1 C.l hT C.D ad S hB ao tj (xs (i + 1))) (MW C.D am M)) dlaw_255 rfl (by decide) ⟨hk, hn⟩ (by decide) _ rfl (fun r wo h => ?_)
  obtain ⟨wo1, ⟨S1, c1, a1, tj1, rfl, rfl, hR1, ha1, hB1⟩, rfl⟩ := h
  show VJ C (k + 1) (n + 6) 258 [(0, .ref b), (1, .ref (ad 0)), (2, .ref (am 0)), (3, .ref ao), (4, .int (nI i))] [.int (nI c1)] ((ao, aJ C.D 1 tj1) :: (BW C.D ad S1 ++ MW C.D am M))
  refine v_istore g [(5, .int (nI c1)), (0, .ref b), (1, .ref (ad 0)), (2, .ref (am 0)), (3, .ref ao), (4, .int (nI i))] dlaw_258 (by decide) rfl ?_
  refine v_aload_n g dlaw_260 2 rfl 3 rfl ?_
  refine v_aload_n g dlaw_261 0 rfl 1 rfl ?_
  refine v_iload g dlaw_262 5 rfl ?_
  refine v_iconst g dlaw_264 (v := nI 1) (by decide +kernel) ?_
  refine v_iaddN g dlaw_265 ?_
  refine v_sld g hX hbl hbA (by omega) hL dlaw_266 ?_
  refine v_aload_n g dlaw_267 0 rfl 1 rfl ?_
  refine v_iload g dlaw_268 5 rfl ?_
  refine v_iconst g dlaw_270 (v := nI 2) (by decide +kernel) ?_
  refine v_iaddN g dlaw_271 ?_
  refine v_sld g hX hbl hbA (by omega) hL dlaw_272 ?_
  refine v_if_eq g 280 dlaw_273 (by decide) (fun h => absurd h hz) (fun _ => ?_)
  refine v_iconst g dlaw_276 (v := nI 1) (by decide +kernel) ?_
  refine v_goto g 281 dlaw_277 (by decide) ?_
  refine v_callV0 (As := [.int (xs (i + 1)), .int (nI 1)]) (rest := []) cw_L_92 (hy_X8_keep) g (vM.frameL (mr_keep1 C.l C.D am M hM (xs (i + 1))) ((ao, aJ C.D 1 tj1) :: BW C.D ad S1)) dlaw_281 87 rfl rfl rfl (by decide) ⟨hk, hn⟩ (by decide) _ rfl (fun r wo h => ?_)
  obtain ⟨wo3, ⟨M1, c2, a2, rfl, rfl, hR2, ht2, hM1⟩, rfl⟩ := h
  show VJ C (k + 1) (n + 6) 284 [(5, .int (nI c1)), (0, .ref b), (1, .ref (ad 0)), (2, .ref (am 0)), (3, .ref ao), (4, .int (nI i))] [.int a2] ((ao, aJ C.D 1 tj1) :: (BW C.D ad S1 ++ MW C.D am M1))
  obtain ⟨rfl, hA, hE1⟩ := det_keep hE hB.1 _ _ hR1 hR2
  refine v_istore g [(6, .int a2), (5, .int (nI c1)), (0, .ref b), (1, .ref (ad 0)), (2, .ref (am 0)), (3, .ref ao), (4, .int (nI i))] dlaw_284 (by decide) rfl ?_
  refine v_aload_n g dlaw_286 2 rfl 4 rfl ?_
  refine v_callV0 (As := []) (rest := []) cw_L_81 (hy_X8_thrown) g (vM.frameL (mr_thrown C.l C.D am M1) ((ao, aJ C.D 1 tj1) :: BW C.D ad S1)) dlaw_287 87 rfl rfl rfl (by decide) ⟨hk, hn⟩ (by decide) _ rfl (fun r wo h => ?_)
  obtain ⟨wo4, ⟨rfl, rfl⟩, rfl⟩ := h
  show VJ C (k + 1) (n + 6) 290 [(6, .int a2), (5, .int (nI c1)), (0, .ref b), (1, .ref (ad 0)), (2, .ref (am 0)), (3, .ref ao), (4, .int (nI i))] [.int (nI M1.f_thrown)] ((ao, aJ C.D 1 tj1) :: (BW C.D ad S1 ++ MW C.D am M1))
  rw [ht2]
  refine v_iload g dlaw_290 1 rfl ?_
  refine v_icmp_eq g 297 dlaw_292 (by decide) (fun _ => ?_) (fun h => absurd rfl h)
  refine v_iload g dlaw_297 1 rfl ?_
  refine v_if_neN g 314 dlaw_299 (by decide) (Nat.lt_trans (cb_keep hR1) (by decide)) (fun _ => ?_) (fun hc => ?_)
  · skip
    refine v_goto g 1147 dlaw_314 (by decide) ?_
    exact v_lpick [2, 3, 4, 5, 6] [(0, .ref b), (1, .ref (ad 0)), (2, .ref (am 0)), (3, .ref ao), (4, .int (nI i))] rfl (KK S1 M1 tj1 hB1 hM1 hE1)
  · skip
    refine v_aload_n g dlaw_302 3 rfl 5 rfl ?_
    refine v_iconst g dlaw_303 (v := nI 0) (by decide +kernel) ?_
    refine v_laldJ g 0 rfl (by decide) (by decide) dlaw_304 ?_
    refine v_iload g dlaw_305 0 rfl ?_
    refine v_i2l g dlaw_307 ?_
    refine v_lcmp g dlaw_308 ?_
    refine v_if_eq g 314 dlaw_309 (by decide) (fun _ => ?_) (fun h => absurd ((lg_cmp_eq _ _).mpr ((ha1 hc).trans (congrArg Int32.toInt64 (hA hc)))) h)
    refine v_goto g 1147 dlaw_314 (by decide) ?_
    exact v_lpick [2, 3, 4, 5, 6] [(0, .ref b), (1, .ref (ad 0)), (2, .ref (am 0)), (3, .ref ao), (4, .int (nI i))] rfl (KK S1 M1 tj1 hB1 hM1 hE1)
