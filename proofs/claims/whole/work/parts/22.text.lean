/-! texts: rows for Strings that the facts hold -/
section TXT
variable {C : Cx} {cc : ByteArray} {own : String} {nL : Nat} {rm : Room} {k n pc : Nat} {lv : List (Nat × Value)} {st : List Value} {ws : va_W}
theorem v_ldcS (g : vG C cc own nL rm) {tx : String} {idx q : Nat} (hR : vk_R own idx tx q C.s) (hd : decode cc pc = .ok (.ldc idx, 2)) (K : VJ C k n (pc + 2) lv (.ref q :: st) ws) : VJ C k n pc lv st ws := fun ls H locs hl hP hD hS => va_ldcS g.x g.b g.ow hR hd (K ls H locs hl hP hD hS)
theorem v_tabIn (g : vG C cc own nL rm) {dflt lo hi : Int} {offs : Array Int} {len : Nat} {x : Int32} {off : Int} (tgt : Nat) (hd : decode cc pc = .ok (.tableswitch dflt lo hi offs, len)) (h1 : ¬ x.toInt < lo) (h2 : ¬ hi < x.toInt) (ho : offs[(x.toInt - lo).toNat]? = some off) (ht : (pc : Int) + off = (tgt : Int)) (K : VJ C k n tgt lv st ws) : VJ C k n pc lv (.int x :: st) ws := fun ls H locs hl hP hD hS => lv_tableIn g.x g.b hd h1 h2 ho ht (K ls H locs hl hP hD hS)
theorem v_tabOut (g : vG C cc own nL rm) {dflt lo hi : Int} {offs : Array Int} {len : Nat} {x : Int32} (tgt : Nat) (hd : decode cc pc = .ok (.tableswitch dflt lo hi offs, len)) (h : x.toInt < lo ∨ hi < x.toInt) (ht : (pc : Int) + dflt = (tgt : Int)) (K : VJ C k n tgt lv st ws) : VJ C k n pc lv (.int x :: st) ws := fun ls H locs hl hP hD hS => lv_tableOut g.x g.b hd h ht (K ls H locs hl hP hD hS)
theorem v_getO (g : vG C cc own nL rm) {o nm d : String} {idx q : Nat} {v : Value} (hE : va_OF o nm d v q C.A C.s C.s.heap) (hlk : Cond.fieldLink own idx o nm d ∈ lw_tbl) (hd : decode cc pc = .ok (.getfield idx, 3)) (K : VJ C k n (pc + 3) lv (v :: st) ws) : VJ C k n pc lv (.ref q :: st) ws := fun ls H locs hl hP hD hS => vk_getf g.x g.b hE hS g.ow (g.w hlk rfl) (fun _ h => h) hd (K ls H locs hl hP hD hS)
theorem v_getZ (g : vG C cc own nL rm) {S nm d : String} {idx : Nat} {v : Value} (hZ : va_Z S nm d v C.A C.s C.s.heap) (hlk : Cond.fieldLink own idx S nm d ∈ lw_tbl) (hd : decode cc pc = .ok (.getstatic idx, 3)) (K : VJ C k n (pc + 3) lv (v :: st) ws) : VJ C k n pc lv st ws := fun ls H locs hl hP hD hS => va_gets g.x g.b hZ hS g.ow (g.w hlk rfl) (fun _ h => h) hd (K ls H locs hl hP hD hS)
theorem v_alenT (g : vG C cc own nL rm) {ty : FieldType} {t N : Nat} {f : Nat → Value} (hT : va_T ty t N f C.A C.s C.s.heap) (hd : decode cc pc = .ok (.arraylength, 1)) (K : VJ C k n (pc + 1) lv (.int (nI N) :: st) ws) : VJ C k n pc lv (.ref t :: st) ws := fun ls H locs hl hP hD hS => va_tlen g.x g.b hT hS (v := nI N) rfl hd (K ls H locs hl hP hD hS)
theorem v_baldT (g : vG C cc own nL rm) {t N j : Nat} {f : Nat → By} (hT : va_T .byte t N (fun j => .int (bI (f j))) C.A C.s C.s.heap) (hj : j < N) (hN : N < 2 ^ 31) (hd : decode cc pc = .ok (.baload, 1)) (K : VJ C k n (pc + 1) lv (.int (bI (f j)) :: st) ws) : VJ C k n pc lv (.int (nI j) :: .ref t :: st) ws := fun ls H locs hl hP hD hS => va_tb g.x g.b hT hS (vp_in_nI hj hN) (by rw [nI_clamp (Nat.lt_trans hj hN)]) hd (K ls H locs hl hP hD hS)
theorem c_nar : ∀ c : Fin 256, ((nI c.val).toUInt32 % 65536).toInt32 = nI c.val ∧ narrow .char (.int (nI c.val)) = .int (nI c.val) := by decide +kernel
theorem v_i2cN (g : vG C cc own nL rm) {a : Nat} (ha : a < 256) (hd : decode cc pc = .ok (.i2c, 1)) (K : VJ C k n (pc + 1) lv (.int (nI a) :: st) ws) : VJ C k n pc lv (.int (nI a) :: st) ws := fun ls H locs hl hP hD hS => lv_i2c g.x g.b hd (c_nar ⟨a, ha⟩).1 (K ls H locs hl hP hD hS)
theorem v_pull {v : Value} (w : Value) (h : v = w) (K : VJ C k n pc lv (w :: st) ws) : VJ C k n pc lv (v :: st) ws := by rw [h]; exact K
theorem v_callVO {y : MethodName} {cc' : ByteArray} {maxL' idx b np : Nat} {ret' : Option FieldType} {rm' : Room} {As rest : List Value} {wi wr : va_W} {post : Option Value → va_W → Prop}
    (w : GoodIn lw_tbl (wsV own idx y.cls y [.code y cc' maxL' ret'])) (hy : y.cls ≠ "java/lang/invoke/MethodHandle" ∧ y.cls ≠ "java/lang/invoke/VarHandle" ∧ (parseMethodDescriptor y.desc).map (fun d => d.parameters.length) = some np)
    (g : vG C cc own nL rm) (M : vM C.l C.D y cc' maxL' ret' rm' (.ref b :: As) wi post) (hd : decode cc pc = .ok (.invokevirtual idx, 3)) (hO : va_O y.cls b C.A C.s C.s.heap) (hnp : As.length = np)
    (hR : rm'.frames + 1 ≤ rm.frames ∧ 8 + (maxL' + 11) + rm'.locals ≤ rm.locals) (hroom : k + rm'.cells ≤ rm.cells ∧ n + rm'.slots ≤ rm.slots) (hst : (rest.map fun v => v.category).sum ≤ 8)
    (isC isR : List Nat) (hC : isC.map (fun i => ws[i]?) = wi.map some) (hCf : isC.filterMap (fun i => ws[i]?) = wi) (hCn : va_nd isC = true) (hRr : isR.map (fun i => ws[i]?) = wr.map some) (hn : va_nd isR = true) (hdis : ∀ i ∈ isR, i ∉ isC)
    (st0 : List Value) (hst0 : st0 = As.reverse ++ .ref b :: rest) (KK : ∀ (r : Option Value) (wo : va_W), post r wo → VJ C (k + rm'.cells) (n + rm'.slots) (pc + 3) lv (r.toList ++ rest) (wr ++ wo)) : VJ C k n pc lv st0 ws := fun ls H locs hl hP hD hS => by
  subst hst0
  have hF := va_free (wc := wi) hD hS g.hA isC hC
  have hpre := v_pre (wi := wi) (av := .ref b :: As) g hP hD hS hF isC hC hCf hCn
  have hRR := g.rmE
  refine v_back (y := y) (va_runV (C := y.cls) (As := As) (rest := rest) ⟨g.x, g.b, g.ml, g.ow, g.wss w⟩ (M H.size) (cwV np (g.wss w) (good_self w) rfl rfl rfl ⟨rfl, hy⟩ (by rw [hRR]; exact hR)) ⟨hpre.1, (by obtain ⟨cell, h1, h2, h3, -⟩ := hO.kept hS.2.1; exact ⟨cell, h1, h2, h3⟩), hpre.2⟩ rfl hnp hl.1 rfl (lv_room hst) hd (by rw [hRR]; exact hroom)) hl hP hD hS hF isC isR hC hRr hn hdis KK
end TXT
theorem fls_9 : Cond.fieldLink RJ0 9 "java/lang/String" "value" "[B" ∈ lw_tbl := List.mem_of_getElem? (i := 1082) (by decide +kernel)
theorem fls_15 : Cond.fieldLink RJ0 15 "java/lang/String" "coder" "B" ∈ lw_tbl := List.mem_of_getElem? (i := 1083) (by decide +kernel)
theorem sls_38 : Cond.fieldLink RJ0 38 "java/lang/String" "COMPACT_STRINGS" "Z" ∈ lw_tbl := List.mem_of_getElem? (i := 505) (by decide +kernel)
theorem sls_1053 : Cond.fieldLink RJ0 1053 "jdk/internal/util/Preconditions" "SIOOBE_FORMATTER" "Ljava/util/function/BiFunction;" ∈ lw_tbl := List.mem_of_getElem? (i := 521) (by decide +kernel)
theorem lbN_le : ∀ i, i < 11 → lbN i ≤ 10 := by decide
theorem dJ0_coder_0 : decode cJ0_coder 0 = .ok (.getstatic 38, 3) := by decide +kernel
theorem dJ0_coder_3 : decode cJ0_coder 3 = .ok (.ifCond .eq 10, 3) := by decide +kernel
theorem dJ0_coder_6 : decode cJ0_coder 6 = .ok (.aload_n 0, 1) := by decide +kernel
theorem dJ0_coder_7 : decode cJ0_coder 7 = .ok (.getfield 15, 3) := by decide +kernel
theorem dJ0_coder_10 : decode cJ0_coder 10 = .ok (.goto 4, 3) := by decide +kernel
theorem dJ0_coder_13 : decode cJ0_coder 13 = .ok (.iconst 1, 1) := by decide +kernel
theorem dJ0_coder_14 : decode cJ0_coder 14 = .ok (.ireturn, 1) := by decide +kernel
theorem dJ0_isLatin1_0 : decode cJ0_isLatin1 0 = .ok (.getstatic 38, 3) := by decide +kernel
theorem dJ0_isLatin1_3 : decode cJ0_isLatin1 3 = .ok (.ifCond .eq 14, 3) := by decide +kernel
theorem dJ0_isLatin1_6 : decode cJ0_isLatin1 6 = .ok (.aload_n 0, 1) := by decide +kernel
theorem dJ0_isLatin1_7 : decode cJ0_isLatin1 7 = .ok (.getfield 15, 3) := by decide +kernel
theorem dJ0_isLatin1_10 : decode cJ0_isLatin1 10 = .ok (.ifCond .ne 7, 3) := by decide +kernel
theorem dJ0_isLatin1_13 : decode cJ0_isLatin1 13 = .ok (.iconst 1, 1) := by decide +kernel
theorem dJ0_isLatin1_14 : decode cJ0_isLatin1 14 = .ok (.goto 4, 3) := by decide +kernel
theorem dJ0_isLatin1_17 : decode cJ0_isLatin1 17 = .ok (.iconst 0, 1) := by decide +kernel
theorem dJ0_isLatin1_18 : decode cJ0_isLatin1 18 = .ok (.ireturn, 1) := by decide +kernel
theorem dJ0_length_0 : decode cJ0_length 0 = .ok (.aload_n 0, 1) := by decide +kernel
theorem dJ0_length_1 : decode cJ0_length 1 = .ok (.getfield 9, 3) := by decide +kernel
theorem dJ0_length_4 : decode cJ0_length 4 = .ok (.arraylength, 1) := by decide +kernel
theorem dJ0_length_5 : decode cJ0_length 5 = .ok (.aload_n 0, 1) := by decide +kernel
theorem dJ0_length_6 : decode cJ0_length 6 = .ok (.invokevirtual 335, 3) := by decide +kernel
theorem dJ0_length_9 : decode cJ0_length 9 = .ok (.ishr, 1) := by decide +kernel
theorem dJ0_length_10 : decode cJ0_length 10 = .ok (.ireturn, 1) := by decide +kernel
theorem dJ1_charAt_0 : decode cJ1_charAt 0 = .ok (.iload_n 1, 1) := by decide +kernel
theorem dJ1_charAt_1 : decode cJ1_charAt 1 = .ok (.aload_n 0, 1) := by decide +kernel
theorem dJ1_charAt_2 : decode cJ1_charAt 2 = .ok (.arraylength, 1) := by decide +kernel
theorem dJ1_charAt_3 : decode cJ1_charAt 3 = .ok (.invokestatic 9, 3) := by decide +kernel
theorem dJ1_charAt_6 : decode cJ1_charAt 6 = .ok (.aload_n 0, 1) := by decide +kernel
theorem dJ1_charAt_7 : decode cJ1_charAt 7 = .ok (.iload_n 1, 1) := by decide +kernel
theorem dJ1_charAt_8 : decode cJ1_charAt 8 = .ok (.baload, 1) := by decide +kernel
theorem dJ1_charAt_9 : decode cJ1_charAt 9 = .ok (.sipush 255, 3) := by decide +kernel
theorem dJ1_charAt_12 : decode cJ1_charAt 12 = .ok (.iand, 1) := by decide +kernel
theorem dJ1_charAt_13 : decode cJ1_charAt 13 = .ok (.i2c, 1) := by decide +kernel
theorem dJ1_charAt_14 : decode cJ1_charAt 14 = .ok (.ireturn, 1) := by decide +kernel
theorem dJ0_charAt_0 : decode cJ0_charAt 0 = .ok (.aload_n 0, 1) := by decide +kernel
theorem dJ0_charAt_1 : decode cJ0_charAt 1 = .ok (.invokevirtual 492, 3) := by decide +kernel
theorem dJ0_charAt_4 : decode cJ0_charAt 4 = .ok (.ifCond .eq 12, 3) := by decide +kernel
theorem dJ0_charAt_7 : decode cJ0_charAt 7 = .ok (.aload_n 0, 1) := by decide +kernel
theorem dJ0_charAt_8 : decode cJ0_charAt 8 = .ok (.getfield 9, 3) := by decide +kernel
theorem dJ0_charAt_11 : decode cJ0_charAt 11 = .ok (.iload_n 1, 1) := by decide +kernel
theorem dJ0_charAt_12 : decode cJ0_charAt 12 = .ok (.invokestatic 495, 3) := by decide +kernel
theorem dJ0_charAt_15 : decode cJ0_charAt 15 = .ok (.ireturn, 1) := by decide +kernel
theorem dJ0_charAt_16 : decode cJ0_charAt 16 = .ok (.aload_n 0, 1) := by decide +kernel
theorem dJ0_charAt_17 : decode cJ0_charAt 17 = .ok (.getfield 9, 3) := by decide +kernel
theorem dJ0_charAt_20 : decode cJ0_charAt 20 = .ok (.iload_n 1, 1) := by decide +kernel
theorem dJ0_charAt_21 : decode cJ0_charAt 21 = .ok (.invokestatic 498, 3) := by decide +kernel
theorem dJ0_charAt_24 : decode cJ0_charAt 24 = .ok (.ireturn, 1) := by decide +kernel
theorem dX2_labelText_0 : decode cX2_labelText 0 = .ok (.iload_n 0, 1) := by decide +kernel
theorem dX2_labelText_1 : decode cX2_labelText 1 = .ok (.tableswitch 85 0 9 #[55, 58, 61, 64, 67, 70, 73, 76, 79, 82], 55) := by decide +kernel
theorem dX2_labelText_56 : decode cX2_labelText 56 = .ok (.ldc 100, 2) := by decide +kernel
theorem dX2_labelText_58 : decode cX2_labelText 58 = .ok (.areturn, 1) := by decide +kernel
theorem dX2_labelText_59 : decode cX2_labelText 59 = .ok (.ldc 102, 2) := by decide +kernel
theorem dX2_labelText_61 : decode cX2_labelText 61 = .ok (.areturn, 1) := by decide +kernel
theorem dX2_labelText_62 : decode cX2_labelText 62 = .ok (.ldc 104, 2) := by decide +kernel
theorem dX2_labelText_64 : decode cX2_labelText 64 = .ok (.areturn, 1) := by decide +kernel
theorem dX2_labelText_65 : decode cX2_labelText 65 = .ok (.ldc 106, 2) := by decide +kernel
theorem dX2_labelText_67 : decode cX2_labelText 67 = .ok (.areturn, 1) := by decide +kernel
theorem dX2_labelText_68 : decode cX2_labelText 68 = .ok (.ldc 108, 2) := by decide +kernel
theorem dX2_labelText_70 : decode cX2_labelText 70 = .ok (.areturn, 1) := by decide +kernel
theorem dX2_labelText_71 : decode cX2_labelText 71 = .ok (.ldc 110, 2) := by decide +kernel
theorem dX2_labelText_73 : decode cX2_labelText 73 = .ok (.areturn, 1) := by decide +kernel
theorem dX2_labelText_74 : decode cX2_labelText 74 = .ok (.ldc 112, 2) := by decide +kernel
theorem dX2_labelText_76 : decode cX2_labelText 76 = .ok (.areturn, 1) := by decide +kernel
theorem dX2_labelText_77 : decode cX2_labelText 77 = .ok (.ldc 114, 2) := by decide +kernel
theorem dX2_labelText_79 : decode cX2_labelText 79 = .ok (.areturn, 1) := by decide +kernel
theorem dX2_labelText_80 : decode cX2_labelText 80 = .ok (.ldc 116, 2) := by decide +kernel
theorem dX2_labelText_82 : decode cX2_labelText 82 = .ok (.areturn, 1) := by decide +kernel
theorem dX2_labelText_83 : decode cX2_labelText 83 = .ok (.ldc 118, 2) := by decide +kernel
theorem dX2_labelText_85 : decode cX2_labelText 85 = .ok (.areturn, 1) := by decide +kernel
theorem dX2_labelText_86 : decode cX2_labelText 86 = .ok (.ldc 120, 2) := by decide +kernel
theorem dX2_labelText_88 : decode cX2_labelText 88 = .ok (.areturn, 1) := by decide +kernel
theorem dJ4_checkIndex_0 : decode cJ4_checkIndex 0 = .ok (.iload_n 0, 1) := by decide +kernel
theorem dJ4_checkIndex_1 : decode cJ4_checkIndex 1 = .ok (.ifCond .lt 8, 3) := by decide +kernel
theorem dJ4_checkIndex_4 : decode cJ4_checkIndex 4 = .ok (.iload_n 0, 1) := by decide +kernel
theorem dJ4_checkIndex_5 : decode cJ4_checkIndex 5 = .ok (.iload_n 1, 1) := by decide +kernel
theorem dJ4_checkIndex_6 : decode cJ4_checkIndex 6 = .ok (.if_icmp .lt 10, 3) := by decide +kernel
theorem dJ4_checkIndex_9 : decode cJ4_checkIndex 9 = .ok (.aload_n 2, 1) := by decide +kernel
theorem dJ4_checkIndex_10 : decode cJ4_checkIndex 10 = .ok (.iload_n 0, 1) := by decide +kernel
theorem dJ4_checkIndex_11 : decode cJ4_checkIndex 11 = .ok (.iload_n 1, 1) := by decide +kernel
theorem dJ4_checkIndex_12 : decode cJ4_checkIndex 12 = .ok (.invokestatic 95, 3) := by decide +kernel
theorem dJ4_checkIndex_15 : decode cJ4_checkIndex 15 = .ok (.athrow, 1) := by decide +kernel
theorem dJ4_checkIndex_16 : decode cJ4_checkIndex 16 = .ok (.iload_n 0, 1) := by decide +kernel
theorem dJ4_checkIndex_17 : decode cJ4_checkIndex 17 = .ok (.ireturn, 1) := by decide +kernel
theorem dJ0_checkIndex_0 : decode cJ0_checkIndex 0 = .ok (.iload_n 0, 1) := by decide +kernel
theorem dJ0_checkIndex_1 : decode cJ0_checkIndex 1 = .ok (.iload_n 1, 1) := by decide +kernel
theorem dJ0_checkIndex_2 : decode cJ0_checkIndex 2 = .ok (.getstatic 1053, 3) := by decide +kernel
theorem dJ0_checkIndex_5 : decode cJ0_checkIndex 5 = .ok (.invokestatic 1059, 3) := by decide +kernel
theorem dJ0_checkIndex_8 : decode cJ0_checkIndex 8 = .ok (.pop, 1) := by decide +kernel
theorem dJ0_checkIndex_9 : decode cJ0_checkIndex 9 = .ok (.return_, 1) := by decide +kernel
set_option maxHeartbeats 4000000 in
theorem c_PR_check (l : Launch) (D : va_G) (a b : Nat) (v : Value) (hv : v = .null ∨ ∃ t, v = .ref t) (h1 : a < b) (h2 : b < 2 ^ 31) : vM l D yJ4_checkIndex cJ4_checkIndex 3 (some .int) { frames := 0, cells := 0, slots := 0, locals := 0 } [.int (nI a), .int (nI b), v] [] (fun r wo => r = some (.int (nI a)) ∧ wo = []) := by
  rcases hv with rfl | ⟨t, rfl⟩
  · refine vM.of (by decide) (Nat.le_of_ble_eq_true rfl) (fun C hCl hCD g R => ?_)
    refine v_iload_n g dJ4_checkIndex_0 0 rfl 0 rfl ?_
    refine v_if_ltN g 9 dJ4_checkIndex_1 (by decide) (by omega) (fun h => h.elim) (fun _ => ?_)
    refine v_iload_n g dJ4_checkIndex_4 0 rfl 0 rfl ?_
    refine v_iload_n g dJ4_checkIndex_5 1 rfl 1 rfl ?_
    refine v_icmp_ltN g 16 dJ4_checkIndex_6 (by decide) (by omega) (by omega) (fun _ => ?_) (fun h => absurd h (by omega))
    refine v_iload_n g dJ4_checkIndex_16 0 rfl 0 rfl ?_
    exact v_iret g R dJ4_checkIndex_17 (by decide) (by decide) ⟨rfl, rfl⟩
  · refine vM.of (by decide) (Nat.le_of_ble_eq_true rfl) (fun C hCl hCD g R => ?_)
    refine v_iload_n g dJ4_checkIndex_0 0 rfl 0 rfl ?_
    refine v_if_ltN g 9 dJ4_checkIndex_1 (by decide) (by omega) (fun h => h.elim) (fun _ => ?_)
    refine v_iload_n g dJ4_checkIndex_4 0 rfl 0 rfl ?_
    refine v_iload_n g dJ4_checkIndex_5 1 rfl 1 rfl ?_
    refine v_icmp_ltN g 16 dJ4_checkIndex_6 (by decide) (by omega) (by omega) (fun _ => ?_) (fun h => absurd h (by omega))
    refine v_iload_n g dJ4_checkIndex_16 0 rfl 0 rfl ?_
    exact v_iret g R dJ4_checkIndex_17 (by decide) (by decide) ⟨rfl, rfl⟩
theorem zq_val {S n d : String} {A : Nat → Prop} {U : State} {H : Heap} (h : va_Zq S n d A U H) : ∃ v : Value, (v = .null ∨ ∃ t, v = .ref t) ∧ va_Z S n d v A U H := by
  rcases h with h | ⟨t, h⟩
  · exact ⟨_, Or.inl rfl, h⟩
  · exact ⟨_, Or.inr ⟨t, rfl⟩, h⟩
set_option maxHeartbeats 4000000 in
theorem c_ST_check (l : Launch) (D : va_G) (a b : Nat) (h1 : a < b) (h2 : b < 2 ^ 31) : vM l D yJ0_checkIndex cJ0_checkIndex 2 none { frames := 1, cells := 0, slots := 0, locals := 22 } [.int (nI a), .int (nI b)] [] (fun r wo => r = none ∧ wo = []) := by
  refine vM.of (by decide) (Nat.le_of_ble_eq_true rfl) (fun C hCl hCD g R => ?_)
  refine v_iload_n g dJ0_checkIndex_0 0 rfl 0 rfl ?_
  refine v_iload_n g dJ0_checkIndex_1 1 rfl 1 rfl ?_
  obtain ⟨v, hv, hZ⟩ := zq_val g.gx.2.2.1
  refine v_getZ g hZ sls_1053 dJ0_checkIndex_2 ?_
  refine v_callS (As := [.int (nI a), .int (nI b), v]) (rest := []) (wr := []) cw_J0_1059 (hy_J4_checkIndex) g (c_PR_check C.l C.D a b v hv h1 h2) dJ0_checkIndex_5 rfl (by decide) (by decide) (by decide) [] [] rfl rfl (by decide) rfl (by decide) (by decide) _ rfl (fun r wo hp => ?_)
  obtain ⟨rfl, rfl⟩ := hp
  refine v_pop g dJ0_checkIndex_8 rfl ?_
  exact v_ret g R dJ0_checkIndex_9 (by decide) (by decide) ⟨rfl, rfl⟩
set_option maxHeartbeats 4000000 in
set_option maxRecDepth 100000 in
theorem c_ST_coder (l : Launch) (D : va_G) (i0 : Nat)  (h0 : i0 < 11) : vM l D yJ0_coder cJ0_coder 1 (some .byte) { frames := 0, cells := 0, slots := 0, locals := 0 } [.ref (D.2 101 i0)] [] (fun r wo => r = some (.int 0) ∧ wo = []) := by
  refine vM.of (by decide) (Nat.le_of_ble_eq_true rfl) (fun C hCl hCD g R => ?_)
  subst hCl; subst hCD
  show VJ C 0 0 0 [(0, .ref (C.D.2 101 i0))] [] []
  refine v_getZ g g.gx.2.2.2.1 sls_38 dJ0_coder_0 ?_
  refine v_if_eq g 13 dJ0_coder_3 (by decide) (fun h => absurd h (by decide)) (fun _ => ?_)
  refine v_aload_n g dJ0_coder_6 0 rfl 0 rfl ?_
  refine v_getO g (g.gx.2.2.2.2.1 i0 (by omega)).2.2.1 fls_15 dJ0_coder_7 ?_
  refine v_goto g 14 dJ0_coder_10 (by decide) ?_
  exact v_tret g R dJ0_coder_14 rfl (by decide) (by decide) ⟨rfl, rfl⟩
set_option maxHeartbeats 4000000 in
set_option maxRecDepth 100000 in
theorem c_ST_latin (l : Launch) (D : va_G) (i0 : Nat)  (h0 : i0 < 11) : vM l D yJ0_isLatin1 cJ0_isLatin1 1 (some .boolean) { frames := 0, cells := 0, slots := 0, locals := 0 } [.ref (D.2 101 i0)] [] (fun r wo => r = some (.int (nI 1)) ∧ wo = []) := by
  refine vM.of (by decide) (Nat.le_of_ble_eq_true rfl) (fun C hCl hCD g R => ?_)
  subst hCl; subst hCD
  show VJ C 0 0 0 [(0, .ref (C.D.2 101 i0))] [] []
  refine v_getZ g g.gx.2.2.2.1 sls_38 dJ0_isLatin1_0 ?_
  refine v_if_eq g 17 dJ0_isLatin1_3 (by decide) (fun h => absurd h (by decide)) (fun _ => ?_)
  refine v_aload_n g dJ0_isLatin1_6 0 rfl 0 rfl ?_
  refine v_getO g (g.gx.2.2.2.2.1 i0 (by omega)).2.2.1 fls_15 dJ0_isLatin1_7 ?_
  refine v_if_ne g 17 dJ0_isLatin1_10 (by decide) (fun h => absurd rfl h) (fun _ => ?_)
  refine v_iconst g dJ0_isLatin1_13 (v := nI 1) (by decide +kernel) ?_
  refine v_goto g 18 dJ0_isLatin1_14 (by decide) ?_
  exact v_zret g R dJ0_isLatin1_18 rfl (by decide) (by decide) ⟨rfl, rfl⟩
set_option maxHeartbeats 4000000 in
set_option maxRecDepth 100000 in
theorem c_ST_length (l : Launch) (D : va_G) (i0 : Nat)  (h0 : i0 < 11) : vM l D yJ0_length cJ0_length 1 (some .int) { frames := 1, cells := 0, slots := 0, locals := 20 } [.ref (D.2 101 i0)] [] (fun r wo => r = some (.int (nI (lbN i0))) ∧ wo = []) := by
  refine vM.of (by decide) (Nat.le_of_ble_eq_true rfl) (fun C hCl hCD g R => ?_)
  subst hCl; subst hCD
  show VJ C 0 0 0 [(0, .ref (C.D.2 101 i0))] [] []
  have hlb := lbN_le i0 h0
  refine v_aload_n g dJ0_length_0 0 rfl 0 rfl ?_
  refine v_getO g (g.gx.2.2.2.2.1 i0 (by omega)).2.2.2.1 fls_9 dJ0_length_1 ?_
  refine v_alenT g (g.gx.2.2.2.2.1 i0 (by omega)).2.2.2.2 dJ0_length_4 ?_
  refine v_aload_n g dJ0_length_5 0 rfl 0 rfl ?_
  refine v_callVO (As := []) (rest := [.int (nI (lbN i0))]) (wr := []) cw_J0_335 (hy_J0_coder) g (c_ST_coder C.l C.D i0 (by omega)) dJ0_length_6 (g.gx.2.2.2.2.1 i0 (by omega)).2.1 rfl (by decide) (by decide) (Nat.le_of_ble_eq_true rfl) [] [] rfl rfl (by decide) rfl (by decide) (by decide) _ rfl (fun r wo hp1 => ?_)
  obtain ⟨rfl, rfl⟩ := hp1
  show VJ C 0 0 9 [(0, .ref (C.D.2 101 i0))] [.int 0, .int (nI (lbN i0))] []
  refine v_ishr g dJ0_length_9 ?_
  refine v_toi (nI (lbN i0)) (sb_shr0 _) ?_
  exact v_iret g R dJ0_length_10 (by decide) (by decide) ⟨rfl, rfl⟩
set_option maxHeartbeats 4000000 in
set_option maxRecDepth 100000 in
theorem c_L1_char (l : Launch) (D : va_G) (i0 : Nat) (p1 : Nat)  (h0 : i0 < 11) (h1 : p1 < lbN i0) : vM l D yJ1_charAt cJ1_charAt 2 (some .char) { frames := 2, cells := 0, slots := 0, locals := 50 } [.ref (D.2 102 i0), .int (nI p1)] [] (fun r wo => r = some (.int (nI ((lbF i0 p1).toNat))) ∧ wo = []) := by
  refine vM.of (by decide) (Nat.le_of_ble_eq_true rfl) (fun C hCl hCD g R => ?_)
  subst hCl; subst hCD
  show VJ C 0 0 0 [(0, .ref (C.D.2 102 i0)), (1, .int (nI p1))] [] []
  have hlb := lbN_le i0 h0
  refine v_iload_n g dJ1_charAt_0 1 rfl 1 rfl ?_
  refine v_aload_n g dJ1_charAt_1 0 rfl 0 rfl ?_
  refine v_alenT g (g.gx.2.2.2.2.1 i0 (by omega)).2.2.2.2 dJ1_charAt_2 ?_
  refine v_callS (As := [.int (nI p1), .int (nI (lbN i0))]) (rest := []) (wr := []) cw_J1_9 (hy_J0_checkIndex) g (c_ST_check C.l C.D p1 (lbN i0) h1 (by omega)) dJ1_charAt_3 rfl (by decide) (by decide) (by decide) [] [] rfl rfl (by decide) rfl (by decide) (by decide) _ rfl (fun r wo hp => ?_)
  obtain ⟨rfl, rfl⟩ := hp
  show VJ C 0 0 6 [(0, .ref (C.D.2 102 i0)), (1, .int (nI p1))] [] []
  have hc := (lbF i0 p1).isLt
  refine v_aload_n g dJ1_charAt_6 0 rfl 0 rfl ?_
  refine v_iload_n g dJ1_charAt_7 1 rfl 1 rfl ?_
  refine v_baldT g (g.gx.2.2.2.2.1 i0 (by omega)).2.2.2.2 (by omega) (by omega) dJ1_charAt_8 ?_
  refine v_sipush g dJ1_charAt_9 (v := nI 255) (by decide +kernel) ?_
  refine v_iandBN g dJ1_charAt_12 ?_
  refine v_i2cN g (by omega) dJ1_charAt_13 ?_
  exact v_tret g R dJ1_charAt_14 (c_nar ⟨_, hc⟩).2 (by decide) (by decide) ⟨rfl, rfl⟩
set_option maxHeartbeats 4000000 in
set_option maxRecDepth 100000 in
theorem c_ST_char (l : Launch) (D : va_G) (i0 : Nat) (p1 : Nat)  (h0 : i0 < 11) (h1 : p1 < lbN i0) : vM l D yJ0_charAt cJ0_charAt 2 (some .char) { frames := 3, cells := 0, slots := 0, locals := 71 } [.ref (D.2 101 i0), .int (nI p1)] [] (fun r wo => r = some (.int (nI ((lbF i0 p1).toNat))) ∧ wo = []) := by
  refine vM.of (by decide) (Nat.le_of_ble_eq_true rfl) (fun C hCl hCD g R => ?_)
  subst hCl; subst hCD
  show VJ C 0 0 0 [(0, .ref (C.D.2 101 i0)), (1, .int (nI p1))] [] []
  have hc := (lbF i0 p1).isLt
  refine v_aload_n g dJ0_charAt_0 0 rfl 0 rfl ?_
  refine v_callVO (As := []) (rest := []) (wr := []) cw_J0_492 (hy_J0_isLatin1) g (c_ST_latin C.l C.D i0 (by omega)) dJ0_charAt_1 (g.gx.2.2.2.2.1 i0 (by omega)).2.1 rfl (by decide) (by decide) (Nat.le_of_ble_eq_true rfl) [] [] rfl rfl (by decide) rfl (by decide) (by decide) _ rfl (fun r wo hp1 => ?_)
  obtain ⟨rfl, rfl⟩ := hp1
  show VJ C 0 0 4 [(0, .ref (C.D.2 101 i0)), (1, .int (nI p1))] [.int (nI 1)] []
  refine v_if_eqN g 16 dJ0_charAt_4 (by decide) (by decide) (fun h => absurd h (by decide)) (fun _ => ?_)
  refine v_aload_n g dJ0_charAt_7 0 rfl 0 rfl ?_
  refine v_getO g (g.gx.2.2.2.2.1 i0 (by omega)).2.2.2.1 fls_9 dJ0_charAt_8 ?_
  refine v_iload_n g dJ0_charAt_11 1 rfl 1 rfl ?_
  refine v_callS (As := [.ref (C.D.2 102 i0), .int (nI p1)]) (rest := []) (wr := []) cw_J0_495 (hy_J1_charAt) g (c_L1_char C.l C.D i0 p1 (by omega) (by omega)) dJ0_charAt_12 rfl (by decide) (by decide) (Nat.le_of_ble_eq_true rfl) [] [] rfl rfl (by decide) rfl (by decide) (by decide) _ rfl (fun r wo hp2 => ?_)
  obtain ⟨rfl, rfl⟩ := hp2
  show VJ C 0 0 15 [(0, .ref (C.D.2 101 i0)), (1, .int (nI p1))] [.int (nI ((lbF i0 p1).toNat))] []
  exact v_tret g R dJ0_charAt_15 (c_nar ⟨_, hc⟩).2 (by decide) (by decide) ⟨rfl, rfl⟩
set_option maxHeartbeats 4000000 in
set_option maxRecDepth 100000 in
theorem c_KM_text (l : Launch) (D : va_G) (p0 : Nat)  (h0 : p0 < 11) : vM l D yX2_labelText cX2_labelText 1 (some (.object "java/lang/String")) { frames := 0, cells := 0, slots := 0, locals := 0 } [.int (nI p0)] [] (fun r wo => r = some (.ref (D.2 101 p0)) ∧ wo = []) := by
  refine vM.of (by decide) (Nat.le_of_ble_eq_true rfl) (fun C hCl hCD g R => ?_)
  subst hCl; subst hCD
  show VJ C 0 0 0 [(0, .int (nI p0))] [] []
  refine v_iload_n g dX2_labelText_0 0 rfl 0 rfl ?_
  have hc : p0 = 0 ∨ p0 = 1 ∨ p0 = 2 ∨ p0 = 3 ∨ p0 = 4 ∨ p0 = 5 ∨ p0 = 6 ∨ p0 = 7 ∨ p0 = 8 ∨ p0 = 9 ∨ p0 = 10 := by omega
  rcases hc with rfl | rfl | rfl | rfl | rfl | rfl | rfl | rfl | rfl | rfl | rfl
  · refine v_tabIn g 56 dX2_labelText_1 (by decide) (by decide) (off := 55) (by decide) (by decide) ?_
    refine v_ldcS g (g.gx.2.2.2.2.1 0 (by decide)).1 dX2_labelText_56 ?_
    exact v_aret g R dX2_labelText_58 (by decide) (by decide) ⟨rfl, rfl⟩
  · refine v_tabIn g 59 dX2_labelText_1 (by decide) (by decide) (off := 58) (by decide) (by decide) ?_
    refine v_ldcS g (g.gx.2.2.2.2.1 1 (by decide)).1 dX2_labelText_59 ?_
    exact v_aret g R dX2_labelText_61 (by decide) (by decide) ⟨rfl, rfl⟩
  · refine v_tabIn g 62 dX2_labelText_1 (by decide) (by decide) (off := 61) (by decide) (by decide) ?_
    refine v_ldcS g (g.gx.2.2.2.2.1 2 (by decide)).1 dX2_labelText_62 ?_
    exact v_aret g R dX2_labelText_64 (by decide) (by decide) ⟨rfl, rfl⟩
  · refine v_tabIn g 65 dX2_labelText_1 (by decide) (by decide) (off := 64) (by decide) (by decide) ?_
    refine v_ldcS g (g.gx.2.2.2.2.1 3 (by decide)).1 dX2_labelText_65 ?_
    exact v_aret g R dX2_labelText_67 (by decide) (by decide) ⟨rfl, rfl⟩
  · refine v_tabIn g 68 dX2_labelText_1 (by decide) (by decide) (off := 67) (by decide) (by decide) ?_
    refine v_ldcS g (g.gx.2.2.2.2.1 4 (by decide)).1 dX2_labelText_68 ?_
    exact v_aret g R dX2_labelText_70 (by decide) (by decide) ⟨rfl, rfl⟩
  · refine v_tabIn g 71 dX2_labelText_1 (by decide) (by decide) (off := 70) (by decide) (by decide) ?_
    refine v_ldcS g (g.gx.2.2.2.2.1 5 (by decide)).1 dX2_labelText_71 ?_
    exact v_aret g R dX2_labelText_73 (by decide) (by decide) ⟨rfl, rfl⟩
  · refine v_tabIn g 74 dX2_labelText_1 (by decide) (by decide) (off := 73) (by decide) (by decide) ?_
    refine v_ldcS g (g.gx.2.2.2.2.1 6 (by decide)).1 dX2_labelText_74 ?_
    exact v_aret g R dX2_labelText_76 (by decide) (by decide) ⟨rfl, rfl⟩
  · refine v_tabIn g 77 dX2_labelText_1 (by decide) (by decide) (off := 76) (by decide) (by decide) ?_
    refine v_ldcS g (g.gx.2.2.2.2.1 7 (by decide)).1 dX2_labelText_77 ?_
    exact v_aret g R dX2_labelText_79 (by decide) (by decide) ⟨rfl, rfl⟩
  · refine v_tabIn g 80 dX2_labelText_1 (by decide) (by decide) (off := 79) (by decide) (by decide) ?_
    refine v_ldcS g (g.gx.2.2.2.2.1 8 (by decide)).1 dX2_labelText_80 ?_
    exact v_aret g R dX2_labelText_82 (by decide) (by decide) ⟨rfl, rfl⟩
  · refine v_tabIn g 83 dX2_labelText_1 (by decide) (by decide) (off := 82) (by decide) (by decide) ?_
    refine v_ldcS g (g.gx.2.2.2.2.1 9 (by decide)).1 dX2_labelText_83 ?_
    exact v_aret g R dX2_labelText_85 (by decide) (by decide) ⟨rfl, rfl⟩
  · refine v_tabOut g 86 dX2_labelText_1 (by decide) (by decide) ?_
    refine v_ldcS g (g.gx.2.2.2.2.1 10 (by decide)).1 dX2_labelText_86 ?_
    exact v_aret g R dX2_labelText_88 (by decide) (by decide) ⟨rfl, rfl⟩
