/-! the law: rows -/
def S00 : Sc := (((fun _ => 0#8), 0, (fun _ => 0#8), 0, (fun _ _ => 0#8), (fun _ => 0), (fun _ => NA), (fun _ _ => 0#8), (fun _ _ => 0#8), (fun _ _ => 0#8), (fun _ _ => 0#8)), (fun _ => 0#8), (fun _ => 0), (fun _ => 0), (fun _ => 0), (fun _ => 0), 0, 0, (fun _ => 0#32), (fun _ => 0#32), (fun _ => 0#8), (fun _ => 0#8), (fun _ => 0#8), (fun _ => 0#8), (fun _ => 0#8), (fun _ => 0#8), 0, (fun _ => 0#32), (fun _ => 0#32), (fun _ => 0#8), (fun _ => 0), (fun _ => 0), (fun _ => 0), (fun _ => 0), (fun _ => 0#8), (fun _ => 0#8), (fun _ => 0#8), (fun _ => 0#8))
theorem v5_0 : v5 0 0 0 0 0 = (fun _ => 0) := by
  funext j
  match j with
  | 0 => rfl
  | 1 => rfl
  | 2 => rfl
  | 3 => rfl
  | 4 => rfl
  | j + 5 => rfl
theorem IB00 : IB S00 := ⟨⟨Nat.zero_le _, Nat.zero_le _, fun _ _ => Nat.zero_le _, fun _ _ => Or.inl rfl⟩, fun _ _ h => absurd rfl h⟩
set_option maxRecDepth 100000 in
set_option maxHeartbeats 4000000 in
theorem mr_thrown (l : Launch) (D : va_G) (ad : Nat → Nat) (M : Sm) : vM l D yX8_thrown cX8_thrown 1 (some .int) { frames := 0, cells := 0, slots := 0, locals := 0 } [.ref (ad 0)] (MW D ad M) (fun r ws' => r = some (.int (nI M.f_thrown)) ∧ ws' = MW D ad M) := by
  refine vM.lift (c_R_thrown l D (ad 0) M.f_thrown (ad 1) M.f_taped (ad 2) M.f_outs (ad 3) (ad 4) (ad 5) (ad 6) (ad 7) (ad 8) (ad 9) (ad 10) (ad 11) (ad 12) (ad 13) (ad 14) (ad 15) (ad 16) (ad 17) (ad 18) (ad 19) (ad 20) M.f_texts (ad 21) M.f_infos (ad 22) (ad 23) (ad 24) (ad 25) (ad 26) (ad 27) (ad 28) (ad 29) (ad 30) (ad 31) (ad 32)) (ws := MW D ad M) (wr := [mw1 D ad M, mw2 D ad M, mw3 D ad M, mw4 D ad M, mw5 D ad M, mw6 D ad M, mw7 D ad M, mw8 D ad M, mw9 D ad M, mw10 D ad M, mw11 D ad M, mw12 D ad M, mw13 D ad M, mw14 D ad M, mw15 D ad M, mw16 D ad M, mw17 D ad M, mw18 D ad M, mw19 D ad M, mw20 D ad M, mw21 D ad M, mw22 D ad M, mw23 D ad M, mw24 D ad M, mw25 D ad M, mw26 D ad M, mw27 D ad M, mw28 D ad M, mw29 D ad M, mw30 D ad M, mw31 D ad M, mw32 D ad M]) [0] [1, 2, 3, 4, 5, 6, 7, 8, 9, 10, 11, 12, 13, 14, 15, 16, 17, 18, 19, 20, 21, 22, 23, 24, 25, 26, 27, 28, 29, 30, 31, 32] rfl rfl (by decide) rfl (by decide) (by decide) (fun r wo h => ?_)
  obtain ⟨rfl, rfl⟩ := h
  exact ⟨[32, 0, 1, 2, 3, 4, 5, 6, 7, 8, 9, 10, 11, 12, 13, 14, 15, 16, 17, 18, 19, 20, 21, 22, 23, 24, 25, 26, 27, 28, 29, 30, 31], MW D ad M, by decide, rfl, rfl, rfl, rfl⟩
section LAWR
variable {C : Cx} {cc : ByteArray} {own : String} {nL : Nat} {rm : Room} {k n pc : Nat} {lv : List (Nat × Value)} {st : List Value} {ws : va_W}
theorem v_sld (g : vG C cc own nL rm) {b L j : Nat} {xs : Nat → Int32} (hX : va_X b L xs C.s C.s.heap) (hbl : b < C.s.heap.size) (hbA : ¬ C.A b) (hj : j < L) (hL : L < 2 ^ 31) (hd : decode cc pc = .ok (.iaload, 1)) (K : VJ C k n (pc + 1) lv (.int (xs j) :: st) ws) : VJ C k n pc lv (.int (nI j) :: .ref b :: st) ws := fun ls H locs hl hP hD hS => by
  refine va_sld g.x g.b hX hbl hbA hS (vp_in_nI hj hL) hd ?_
  rw [nI_clamp (Nat.lt_trans hj hL)]
  exact K ls H locs hl hP hD hS
theorem v_slen (g : vG C cc own nL rm) {b L : Nat} {xs : Nat → Int32} (hX : va_X b L xs C.s C.s.heap) (hbl : b < C.s.heap.size) (hbA : ¬ C.A b) (hd : decode cc pc = .ok (.arraylength, 1)) (K : VJ C k n (pc + 1) lv (.int (nI L) :: st) ws) : VJ C k n pc lv (.ref b :: st) ws := fun ls H locs hl hP hD hS => va_slen g.x g.b hX hbl hbA hS hd (K ls H locs hl hP hD hS)
theorem v_widen {k' n' : Nat} (hk : k ≤ k') (hn : n ≤ n') (K : VJ C k' n' pc lv st ws) : VJ C k n pc lv st ws := fun ls H locs hl hP hD hS => W.widen hk hn (K ls H locs hl hP hD hS)
theorem v_last1 {x : Nat × va_E} (K : VJ C k n pc lv st (x :: ws)) : VJ C k n pc lv st (ws ++ [x]) := fun ls H locs hl hP hD hS =>
  K ls H locs hl (va_P.app (w1 := [x]) hP.right hP.left) (va_D.app (w1 := [x]) hD.right hD.left (fun i j p q hp hq e => hD.apart j i q p hq hp e.symm)) hS
theorem v_callI0 {y : MethodName} {cc' : ByteArray} {maxL' idx b np : Nat} {rm' : Room} {As rest : List Value} {post : Option Value → va_W → Prop} (w : GoodIn lw_tbl [.methodLink own idx y, .instanceMethod y, .initialized y.cls, .code y cc' maxL' none]) (hin : y.name = "<init>") (hy : y.cls ≠ "java/lang/invoke/MethodHandle" ∧ y.cls ≠ "java/lang/invoke/VarHandle" ∧ (parseMethodDescriptor y.desc).map (fun d => d.parameters.length) = some np)
    (g : vG C cc own nL rm) (M : vM C.l C.D y cc' maxL' none rm' (.ref b :: As) ws post) (hd : decode cc pc = .ok (.invokespecial idx, 3)) (hnp : As.length = np) (hR : rm'.frames + 1 ≤ rm.frames ∧ 8 + (maxL' + 11) + rm'.locals ≤ rm.locals) (hroom : k + rm'.cells ≤ rm.cells ∧ n + rm'.slots ≤ rm.slots) (hst : (rest.map fun v => v.category).sum ≤ 8)
    (st0 : List Value) (hst0 : st0 = As.reverse ++ .ref b :: rest) (KK : ∀ (r : Option Value) (wo : va_W), post r wo → VJ C (k + rm'.cells) (n + rm'.slots) (pc + 3) lv (r.toList ++ rest) wo) : VJ C k n pc lv st0 ws :=
  v_callI w hin hy g M hd hnp hR hroom hst (List.range ws.length) [] (rg_map ws) (rg_fm ws) (rg_nd _) (wr := []) rfl rfl (fun _ h => absurd h List.not_mem_nil) st0 hst0 (fun r wo h => KK r wo h)
end LAWR
theorem lp_in {q L : Nat} (h : q < L / 5) (hL : L ≤ 2560) : ¬ nI L - nI 5 < nI (5 * q) := fun z => by
  have z := Int32.lt_iff_toInt_lt.mp z
  rw [sub_toInt (by omega) (by decide), nI_toInt (by omega)] at z
  omega
theorem lp_out {q L : Nat} (h : q = L / 5) (hL : L ≤ 2560) : nI L - nI 5 < nI (5 * q) := by
  apply Int32.lt_iff_toInt_lt.mpr
  rw [sub_toInt (by omega) (by decide), nI_toInt (by omega)]
  omega
theorem and31 (x : Int32) : ∃ t, t < 32 ∧ wI (x.toBitVec &&& 31#32) = nI t := by
  refine ⟨(x.toBitVec &&& 31#32).toNat, ?_, ?_⟩
  · rw [BitVec.toNat_and, show (31#32).toNat = 2 ^ 5 - 1 from by decide, Nat.and_two_pow_sub_one_eq_mod]
    exact Nat.mod_lt _ (by decide)
  · rw [wI_n, BitVec.ofNat_toNat, BitVec.setWidth_eq]
