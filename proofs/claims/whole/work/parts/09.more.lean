/-! copies, static arrays -/
theorem cp_of {α β : Type} (F : α → β) (f t : Nat → α) (sp dp m : Nat) : va_cpy (fun j => F (f j)) (fun j => F (t j)) sp dp m = fun j => F (va_cpy f t sp dp m j) := by
  funext j
  unfold va_cpy
  by_cases h : dp ≤ j ∧ j < dp + m
  · rw [if_pos h, if_pos h]
  · rw [if_neg h, if_neg h]
/-- the words that a call of System.arraycopy needs -/
def acw (own : String) (idx : Nat) : Prop := Cond.methodLink own idx arraycopyName ∈ lw_tbl ∧ Cond.native arraycopyName ∈ lw_tbl ∧ Cond.static arraycopyName ∈ lw_tbl ∧ Cond.initialized "java/lang/System" ∈ lw_tbl
def mnw (own : String) (idx : Nat) : Prop := Cond.methodLink own idx Lib.Math.min.name ∈ lw_tbl ∧ Cond.static Lib.Math.min.name ∈ lw_tbl ∧ Cond.initialized "java/lang/Math" ∈ lw_tbl ∧ Cond.code Lib.Math.min.name Lib.Math.min.code 2 (some .int) ∈ lw_tbl
section CPY
variable {C : Cx} {cc : ByteArray} {own : String} {nL : Nat} {rm : Room} {k n pc : Nat} {lv : List (Nat × Value)} {st : List Value} {ws : va_W}
theorem v_acpW (g : vG C cc own nL rm) {idx a0 a N0 N1 sp dp m : Nat} {f t : Nat → Wd} (hw : acw own idx) (t' : Nat → Wd) (ht : t' = va_cpy f t sp dp m) (q0 q1 : Nat) (ws' : va_W) (he0 : ws[q0]? = some (a0, aW C.D N0 f)) (he1 : ws[q1]? = some (a, aW C.D N1 t)) (h4 : sp + m ≤ N0) (h5 : dp + m ≤ N1) (hN0 : N0 < 2 ^ 31) (hN1 : N1 < 2 ^ 31)
    (hfr : 1 ≤ rm.frames) (hlo : (st.map fun v => v.category).sum + 18 ≤ rm.locals) (hd : decode cc pc = .ok (.invokestatic idx, 3)) (hs : ws.set q1 (a, aW C.D N1 t') = ws') (K : VJ C k n (pc + 3) lv st ws') : VJ C k n pc lv (.int (nI m) :: .int (nI dp) :: .ref a :: .int (nI sp) :: .ref a0 :: st) ws := fun ls H locs hl hP hD hS => by
  have c1 := nI_clamp (n := sp) (by omega); have c2 := nI_clamp (n := dp) (by omega); have c3 := nI_clamp (n := m) (by omega)
  refine va_copyi g.x g.b (g.ml.trans hl.1.symm) g.ow (g.w hw.1 rfl) (g.w hw.2.1 rfl) (g.w hw.2.2.1 rfl) (g.w hw.2.2.2 rfl) g.K hP hD hS q0 q1 1 1 he0 he1 rfl rfl rfl (nI_pos (by omega)) (nI_pos (by omega)) (nI_pos (by omega)) (by rw [c1, c3]; exact h4) (by rw [c2, c3]; exact h5) (fun _ _ => rfl) (by rw [g.rmE]; exact hfr) (by rw [g.rmE]; exact hlo) hd ?_
  rw [c1, c2, c3, cp_of wI, ← ht, hs]
  exact fun H1 locs1 hP1 hD1 hS1 => K ls H1 locs1 hl hP1 hD1 hS1
theorem v_acpB (g : vG C cc own nL rm) {idx a0 a N0 N1 sp dp m : Nat} {f t : Nat → By} (hw : acw own idx) (t' : Nat → By) (ht : t' = va_cpy f t sp dp m) (q0 q1 : Nat) (ws' : va_W) (he0 : ws[q0]? = some (a0, aB C.D N0 f)) (he1 : ws[q1]? = some (a, aB C.D N1 t)) (h4 : sp + m ≤ N0) (h5 : dp + m ≤ N1) (hN0 : N0 < 2 ^ 31) (hN1 : N1 < 2 ^ 31)
    (hfr : 1 ≤ rm.frames) (hlo : (st.map fun v => v.category).sum + 18 ≤ rm.locals) (hd : decode cc pc = .ok (.invokestatic idx, 3)) (hs : ws.set q1 (a, aB C.D N1 t') = ws') (K : VJ C k n (pc + 3) lv st ws') : VJ C k n pc lv (.int (nI m) :: .int (nI dp) :: .ref a :: .int (nI sp) :: .ref a0 :: st) ws := fun ls H locs hl hP hD hS => by
  have c1 := nI_clamp (n := sp) (by omega); have c2 := nI_clamp (n := dp) (by omega); have c3 := nI_clamp (n := m) (by omega)
  refine va_copyi g.x g.b (g.ml.trans hl.1.symm) g.ow (g.w hw.1 rfl) (g.w hw.2.1 rfl) (g.w hw.2.2.1 rfl) (g.w hw.2.2.2 rfl) g.K hP hD hS q0 q1 0 0 he0 he1 rfl rfl rfl (nI_pos (by omega)) (nI_pos (by omega)) (nI_pos (by omega)) (by rw [c1, c3]; exact h4) (by rw [c2, c3]; exact h5) (fun _ _ => bI_fit _) (by rw [g.rmE]; exact hfr) (by rw [g.rmE]; exact hlo) hd ?_
  rw [c1, c2, c3, cp_of bI, ← ht, hs]
  exact fun H1 locs1 hP1 hD1 hS1 => K ls H1 locs1 hl hP1 hD1 hS1
theorem v_acpL (g : vG C cc own nL rm) {idx a0 a N0 N1 sp dp m : Nat} {f t : Nat → Nat} (hw : acw own idx) (t' : Nat → Nat) (ht : t' = va_cpy f t sp dp m) (q0 q1 : Nat) (ws' : va_W) (he0 : ws[q0]? = some (a0, aL C.D N0 f)) (he1 : ws[q1]? = some (a, aL C.D N1 t)) (h4 : sp + m ≤ N0) (h5 : dp + m ≤ N1) (hN0 : N0 < 2 ^ 31) (hN1 : N1 < 2 ^ 31)
    (hfr : 1 ≤ rm.frames) (hlo : (st.map fun v => v.category).sum + 18 ≤ rm.locals) (hd : decode cc pc = .ok (.invokestatic idx, 3)) (hs : ws.set q1 (a, aL C.D N1 t') = ws') (K : VJ C k n (pc + 3) lv st ws') : VJ C k n pc lv (.int (nI m) :: .int (nI dp) :: .ref a :: .int (nI sp) :: .ref a0 :: st) ws := fun ls H locs hl hP hD hS => by
  have c1 := nI_clamp (n := sp) (by omega); have c2 := nI_clamp (n := dp) (by omega); have c3 := nI_clamp (n := m) (by omega)
  refine va_copyl g.x g.b (g.ml.trans hl.1.symm) g.ow (g.w hw.1 rfl) (g.w hw.2.1 rfl) (g.w hw.2.2.1 rfl) (g.w hw.2.2.2 rfl) g.K hP hD hS q0 q1 2 2 he0 he1 rfl rfl rfl (nI_pos (by omega)) (nI_pos (by omega)) (nI_pos (by omega)) (by rw [c1, c3]; exact h4) (by rw [c2, c3]; exact h5) (fun _ _ => rfl) (by rw [g.rmE]; exact hfr) (by rw [g.rmE]; exact hlo) hd ?_
  rw [c1, c2, c3, cp_of lN, ← ht, hs]
  exact fun H1 locs1 hP1 hD1 hS1 => K ls H1 locs1 hl hP1 hD1 hS1
/-- the first m places of a static array of ints over the first of an own one -/
theorem v_acpT (g : vG C cc own nL rm) {idx t0 a N0 N1 m : Nat} {f t : Nat → Wd} (hw : acw own idx) (hT : va_T .int t0 N0 (fun j => .int (wI (f j))) C.A C.s C.s.heap) (t' : Nat → Wd) (ht : t' = va_cpy f t 0 0 m) (q1 : Nat) (ws' : va_W) (he1 : ws[q1]? = some (a, aW C.D N1 t)) (h4 : m ≤ N0) (h5 : m ≤ N1) (hN1 : N1 < 2 ^ 31)
    (hfr : 1 ≤ rm.frames) (hlo : (st.map fun v => v.category).sum + 18 ≤ rm.locals) (hd : decode cc pc = .ok (.invokestatic idx, 3)) (hs : ws.set q1 (a, aW C.D N1 t') = ws') (K : VJ C k n (pc + 3) lv st ws') : VJ C k n pc lv (.int (nI m) :: .int (nI 0) :: .ref a :: .int (nI 0) :: .ref t0 :: st) ws := fun ls H locs hl hP hD hS => by
  intro T hTH X
  obtain ⟨src, s1, s2, s3, s4, -, s5, s6⟩ := hT
  obtain ⟨u1, kS, u2, cS, u3⟩ := s2
  obtain ⟨-, kD, v2, cD, v3⟩ := (g.K.2 1 _ rfl).1 N1 (fun j => .int (wI (t j)))
  have m0 : (nI 0).toNatClampNeg = 0 := nI_clamp (by omega)
  have mm : (nI m).toNatClampNeg = m := nI_clamp (by omega)
  have i0 : (nI 0).toInt = 0 := nI_toInt (by omega)
  have im : (nI m).toInt = (m : Int) := nI_toInt (by omega)
  have hsrc : T.heap[t0]? = some src := by rw [hTH, hS.2.1 t0 (Array.getElem?_eq_some_iff.mp s1).1 s6]; exact s1
  have hdst : T.heap[a]? = some (vp_cell (C.D.1 101) (N1, .inl (fun j => wI (t j)))) := by rw [hTH]; exact hP q1 _ he1
  have hsz : (vp_cell (C.D.1 101) (N1, .inl (fun j => wI (t j)))).slots.size = N1 := by show (arrV _ _ _).slots.size = N1; rw [arrV_size]
  obtain ⟨vm', X', step⟩ := X.arraycopy g.x g.ow (g.w hw.1 rfl) (g.w hw.2.1 rfl) (g.w hw.2.2.1 rfl) (g.w hw.2.2.2 rfl) (srcPos := nI 0) (destPos := nI 0) (n := nI m) hsrc hdst u1 (fun _ h => by cases h) s3 (fun h => by cases h) u2 v2 u3 v3 (by simp [refKind])
    (nI_pos (by omega)) (nI_pos (by omega)) (nI_pos (by omega)) (by rw [i0, im]; omega) (by rw [i0, im, hsz]; omega)
    (fun vm₁ _ i hi => by
      rw [mm] at hi
      have e : src.slots.getD ((nI 0).toNatClampNeg + i) .null = .int (wI (f i)) := by
        rw [m0, Nat.zero_add, Array.getD_eq_getD_getElem?, s5 i (by omega)]; rfl
      rw [e]
      exact ⟨rfl, trivial⟩)
    (g := F0 C.m pc ls (.int (nI m) :: .int (nI 0) :: .ref a :: .int (nI 0) :: .ref t0 :: st)) rfl (hl.1.trans g.ml.symm) (rest := st) rfl (by rw [g.b]; exact hd) (by rw [g.rmE]; exact hfr) (by rw [g.rmE]; show 2 * 0 + _ + 18 ≤ _; omega)
  have e1 : copied src (vp_cell (C.D.1 101) (N1, .inl (fun j => wI (t j)))) (nI 0) (nI 0) (nI m) = vp_cell (C.D.1 101) (N1, .inl (fun j => wI (t' j))) := by
    have e2 := va_copiedX (fun z => Value.int z) src (C.D.1 101) (n0 := N0) (n1 := N1) (sp := 0) (dp := 0) (n := m) (fun j => wI (f j)) (fun j => wI (t j)) s5 (by omega)
    rw [cp_of wI, ← ht] at e2
    show (vp_cell (C.D.1 101) (N1, .inl (fun j => wI (t j)))).storeRun (nI 0).toNatClampNeg (src.stretch (nI 0).toNatClampNeg (nI m).toNatClampNeg) = _
    rw [m0, mm]
    exact e2
  rw [e1] at X' step
  have ha : a < H.size := by rw [← hTH]; exact (Array.getElem?_eq_some_iff.mp hdst).1
  have oq : ∀ q : Nat, q ≠ a → (H.setIfInBounds a (vp_cell (C.D.1 101) (N1, .inl (fun j => wI (t' j)))))[q]? = H[q]? := fun q hq => by simp [Array.getElem?_setIfInBounds, Ne.symm hq]
  have hP2 := hP.set (e := aW C.D N1 t') hD he1 (show (H.setIfInBounds a _)[a]? = some _ by simp [Array.getElem?_setIfInBounds, ha]) oq
  have hD2 := hD.set (e := aW C.D N1 t') he1
  rw [hs] at hP2 hD2
  have hAa : C.A a := hD.2 q1 _ he1
  obtain ⟨u, r1, r2⟩ := K ls _ _ hl hP2 hD2 ⟨by simp; exact hS.1, fun q h1 h2 => by
      rw [oq q (fun e => h2 (by rw [e]; exact hAa))]; exact hS.2.1 q h1 h2, fun q hq => by
      rcases List.mem_append.mp hq with h | h
      · exact hS.2.2 q h
      · obtain ⟨z, -, hz⟩ := List.mem_map.mp h
        rw [← hz]; exact hAa⟩ _ (by rw [← hTH]; rfl) X'
  exact ⟨u, step u r1, r2⟩
/-- a static array's reference, and what it holds -/
theorem v_gets (g : vG C cc own nL rm) {S nm : String} {i idx N : Nat} {f : Nat → Wd} (hG : Gs C.D i S nm N f C.A C.s C.s.heap) (hlk : Cond.fieldLink own idx S nm "[I" ∈ lw_tbl) (hd : decode cc pc = .ok (.getstatic idx, 3)) (K : VJ C k n (pc + 3) lv (.ref (C.D.2 100 i) :: st) ws) : VJ C k n pc lv st ws := fun ls H locs hl hP hD hS =>
  va_gets g.x g.b hG.1 hS g.ow (g.w hlk rfl) (fun _ h => h) hd (K ls H locs hl hP hD hS)
theorem v_ialdT (g : vG C cc own nL rm) {S nm : String} {i j N : Nat} {f : Nat → Wd} (hG : Gs C.D i S nm N f C.A C.s C.s.heap) (hj : j < N) (hN : N < 2 ^ 31) (hd : decode cc pc = .ok (.iaload, 1)) (K : VJ C k n (pc + 1) lv (.int (wI (f j)) :: st) ws) : VJ C k n pc lv (.int (nI j) :: .ref (C.D.2 100 i) :: st) ws := fun ls H locs hl hP hD hS =>
  va_ti g.x g.b hG.2 hS (vp_in_nI hj hN) (by rw [nI_clamp (Nat.lt_trans hj hN)]) hd (K ls H locs hl hP hD hS)
theorem vG.g0 (g : vG C cc own nL rm) : Gs C.D 0 "SealBox$Digester" "SQUARE_ROOTS" 8 shI C.A C.s C.s.heap := g.gv.2.2.2.1
theorem vG.g1 (g : vG C cc own nL rm) : Gs C.D 1 "SealBox$Digester" "CUBE_ROOTS" 64 shK C.A C.s C.s.heap := g.gv.2.2.2.2.1
theorem vG.g2 (g : vG C cc own nL rm) : Gs C.D 2 "SealBox$KeyStream" "OPENING_WORDS" 4 cc_o C.A C.s C.s.heap := g.gv.2.2.2.2.2.1
theorem vG.gx (g : vG C cc own nL rm) : Gx C.D C.A C.s C.s.heap := g.gv.2.2.2.2.2.2
/-- Math.min -/
theorem v_min (g : vG C cc own nL rm) {idx a b : Nat} (hw : mnw own idx) (ha : a < 2 ^ 31) (hb : b < 2 ^ 31) (hfr : 1 ≤ rm.frames) (hlo : (st.map fun v => v.category).sum + 13 ≤ rm.locals) (hk : k ≤ rm.cells) (hn : n ≤ rm.slots) (hd : decode cc pc = .ok (.invokestatic idx, 3)) (K : VJ C k n (pc + 3) lv (.int (nI (min a b)) :: st) ws) : VJ C k n pc lv (.int (nI b) :: .int (nI a) :: st) ws := fun ls H locs hl hP hD hS => by
  refine va_mmin g.x g.b (g.ml.trans hl.1.symm) g.ow (g.w hw.1 rfl) (g.w hw.2.1 rfl) (g.w hw.2.2.1 rfl) (g.w hw.2.2.2 rfl) (by rw [g.rmE]; exact hfr) (by rw [g.rmE]; exact hlo) (by rw [g.rmE]; exact hk) (by rw [g.rmE]; exact hn) hd ?_
  have e : (if nI b < nI a then nI b else nI a) = nI (min a b) := by
    by_cases h : b < a
    · rw [if_pos ((nI_ltI hb ha).mpr h), Nat.min_eq_right (by omega)]
    · rw [if_neg (fun q => h ((nI_ltI hb ha).mp q)), Nat.min_eq_left (by omega)]
  rw [e]
  exact K ls H locs hl hP hD hS
end CPY
theorem ac_X7_146 : acw RX7 146 := ⟨List.mem_of_getElem? (i := 583) (by decide +kernel), List.mem_of_getElem? (i := 287) (by decide +kernel), List.mem_of_getElem? (i := 286) (by decide +kernel), List.mem_of_getElem? (i := 58) (by decide +kernel)⟩
theorem ac_X4_23 : acw RX4 23 := ⟨List.mem_of_getElem? (i := 425) (by decide +kernel), List.mem_of_getElem? (i := 287) (by decide +kernel), List.mem_of_getElem? (i := 286) (by decide +kernel), List.mem_of_getElem? (i := 58) (by decide +kernel)⟩
theorem ac_X0_23 : acw RX0 23 := ⟨List.mem_of_getElem? (i := 285) (by decide +kernel), List.mem_of_getElem? (i := 287) (by decide +kernel), List.mem_of_getElem? (i := 286) (by decide +kernel), List.mem_of_getElem? (i := 58) (by decide +kernel)⟩
theorem ac_X2_67 : acw RX2 67 := ⟨List.mem_of_getElem? (i := 444) (by decide +kernel), List.mem_of_getElem? (i := 287) (by decide +kernel), List.mem_of_getElem? (i := 286) (by decide +kernel), List.mem_of_getElem? (i := 58) (by decide +kernel)⟩
theorem ac_X3_23 : acw RX3 23 := ⟨List.mem_of_getElem? (i := 565) (by decide +kernel), List.mem_of_getElem? (i := 287) (by decide +kernel), List.mem_of_getElem? (i := 286) (by decide +kernel), List.mem_of_getElem? (i := 58) (by decide +kernel)⟩
theorem ac_X6_28 : acw RX6 28 := ⟨List.mem_of_getElem? (i := 595) (by decide +kernel), List.mem_of_getElem? (i := 287) (by decide +kernel), List.mem_of_getElem? (i := 286) (by decide +kernel), List.mem_of_getElem? (i := 58) (by decide +kernel)⟩
theorem ac_X5_54 : acw RX5 54 := ⟨List.mem_of_getElem? (i := 675) (by decide +kernel), List.mem_of_getElem? (i := 287) (by decide +kernel), List.mem_of_getElem? (i := 286) (by decide +kernel), List.mem_of_getElem? (i := 58) (by decide +kernel)⟩
theorem mn_X7_202 : mnw RX7 202 := ⟨List.mem_of_getElem? (i := 755) (by decide +kernel), List.mem_of_getElem? (i := 423) (by decide +kernel), List.mem_of_getElem? (i := 57) (by decide +kernel), List.mem_of_getElem? (i := 424) (by decide +kernel)⟩
theorem mn_X4_17 : mnw RX4 17 := ⟨List.mem_of_getElem? (i := 422) (by decide +kernel), List.mem_of_getElem? (i := 423) (by decide +kernel), List.mem_of_getElem? (i := 57) (by decide +kernel), List.mem_of_getElem? (i := 424) (by decide +kernel)⟩
theorem mn_X2_61 : mnw RX2 61 := ⟨List.mem_of_getElem? (i := 468) (by decide +kernel), List.mem_of_getElem? (i := 423) (by decide +kernel), List.mem_of_getElem? (i := 57) (by decide +kernel), List.mem_of_getElem? (i := 424) (by decide +kernel)⟩
theorem mn_X6_44 : mnw RX6 44 := ⟨List.mem_of_getElem? (i := 607) (by decide +kernel), List.mem_of_getElem? (i := 423) (by decide +kernel), List.mem_of_getElem? (i := 57) (by decide +kernel), List.mem_of_getElem? (i := 424) (by decide +kernel)⟩
theorem mn_X5_87 : mnw RX5 87 := ⟨List.mem_of_getElem? (i := 682) (by decide +kernel), List.mem_of_getElem? (i := 423) (by decide +kernel), List.mem_of_getElem? (i := 57) (by decide +kernel), List.mem_of_getElem? (i := 424) (by decide +kernel)⟩
theorem sl_X0_20 : Cond.fieldLink RX0 20 "SealBox$Digester" "SQUARE_ROOTS" "[I" ∈ lw_tbl := List.mem_of_getElem? (i := 283) (by decide +kernel)
theorem sl_X0_52 : Cond.fieldLink RX0 52 "SealBox$Digester" "CUBE_ROOTS" "[I" ∈ lw_tbl := List.mem_of_getElem? (i := 299) (by decide +kernel)
theorem sl_X3_20 : Cond.fieldLink RX3 20 "SealBox$KeyStream" "OPENING_WORDS" "[I" ∈ lw_tbl := List.mem_of_getElem? (i := 563) (by decide +kernel)
theorem kl_X0_44 : Cond.constantLong RX0 44 (lN 8) ∈ lw_tbl := List.mem_of_getElem? (i := 309) (by decide +kernel)
theorem ki_X6_63 : Cond.constant RX6 63 (nI 67108863) ∈ lw_tbl := List.mem_of_getElem? (i := 601) (by decide +kernel)
theorem kl_X6_42 : Cond.constantLong RX6 42 (lN 4294967295) ∈ lw_tbl := List.mem_of_getElem? (i := 602) (by decide +kernel)
theorem kl_X6_64 : Cond.constantLong RX6 64 (lN 5) ∈ lw_tbl := List.mem_of_getElem? (i := 612) (by decide +kernel)
theorem kl_X6_66 : Cond.constantLong RX6 66 (lN 67108863) ∈ lw_tbl := List.mem_of_getElem? (i := 617) (by decide +kernel)
theorem kl_X6_68 : Cond.constantLong RX6 68 (lN 67108859) ∈ lw_tbl := List.mem_of_getElem? (i := 626) (by decide +kernel)
theorem kl_X7_208 : Cond.constantLong RX7 208 (lN 255) ∈ lw_tbl := List.mem_of_getElem? (i := 756) (by decide +kernel)
theorem kl_X8_125 : Cond.constantLong RX8 125 (lN 65535) ∈ lw_tbl := List.mem_of_getElem? (i := 782) (by decide +kernel)
theorem kl_X8_123 : Cond.constantLong RX8 123 (lN 4294967295) ∈ lw_tbl := List.mem_of_getElem? (i := 787) (by decide +kernel)
theorem kl_X8_134 : Cond.constantLong RX8 134 (lN 255) ∈ lw_tbl := List.mem_of_getElem? (i := 912) (by decide +kernel)
theorem kl_X8_136 : Cond.constantLong RX8 136 (lN 256) ∈ lw_tbl := List.mem_of_getElem? (i := 936) (by decide +kernel)
theorem kl_X8_157 : Cond.constantLong RX8 157 (lN 7038329) ∈ lw_tbl := List.mem_of_getElem? (i := 979) (by decide +kernel)
theorem kl_X8_159 : Cond.constantLong RX8 159 (lN 26998) ∈ lw_tbl := List.mem_of_getElem? (i := 980) (by decide +kernel)
theorem kl_X8_161 : Cond.constantLong RX8 161 (lN 1751737445) ∈ lw_tbl := List.mem_of_getElem? (i := 981) (by decide +kernel)
theorem kl_X8_163 : Cond.constantLong RX8 163 (lN 1953854062) ∈ lw_tbl := List.mem_of_getElem? (i := 982) (by decide +kernel)
theorem kl_X8_165 : Cond.constantLong RX8 165 (lN 28826387908665441) ∈ lw_tbl := List.mem_of_getElem? (i := 983) (by decide +kernel)
theorem kl_X8_167 : Cond.constantLong RX8 167 (lN 28826387908665442) ∈ lw_tbl := List.mem_of_getElem? (i := 984) (by decide +kernel)
theorem kl_X8_169 : Cond.constantLong RX8 169 (lN 29117702420570209) ∈ lw_tbl := List.mem_of_getElem? (i := 985) (by decide +kernel)
theorem kl_X8_171 : Cond.constantLong RX8 171 (lN 29117702420570210) ∈ lw_tbl := List.mem_of_getElem? (i := 986) (by decide +kernel)
theorem kl_X8_173 : Cond.constantLong RX8 173 (lN 127961779609697) ∈ lw_tbl := List.mem_of_getElem? (i := 987) (by decide +kernel)
theorem kl_X8_175 : Cond.constantLong RX8 175 (lN 127961779609698) ∈ lw_tbl := List.mem_of_getElem? (i := 988) (by decide +kernel)
theorem kl_X8_177 : Cond.constantLong RX8 177 (lN 1685024357) ∈ lw_tbl := List.mem_of_getElem? (i := 989) (by decide +kernel)
theorem kl_X8_193 : Cond.constantLong RX8 193 (lN 1634760805) ∈ lw_tbl := List.mem_of_getElem? (i := 1002) (by decide +kernel)
theorem kl_X8_195 : Cond.constantLong RX8 195 (lN 857760878) ∈ lw_tbl := List.mem_of_getElem? (i := 1003) (by decide +kernel)
theorem kl_X8_197 : Cond.constantLong RX8 197 (lN 2036477234) ∈ lw_tbl := List.mem_of_getElem? (i := 1004) (by decide +kernel)
theorem kl_X8_199 : Cond.constantLong RX8 199 (lN 1797285236) ∈ lw_tbl := List.mem_of_getElem? (i := 1005) (by decide +kernel)
theorem kl_L_73 : Cond.constantLong RL 73 (lN 4294967295) ∈ lw_tbl := List.mem_of_getElem? (i := 1080) (by decide +kernel)
