theorem layX0 : ∀ w ∈ u_ws RX0 TX0 5, w ∈ lw_tbl ∧ kw w = true := by decide +kernel
theorem layX1 : ∀ w ∈ u_ws RX1 TX1 5, w ∈ lw_tbl ∧ kw w = true := by decide +kernel
theorem layX2 : ∀ w ∈ u_ws RX2 TX2 6, w ∈ lw_tbl ∧ kw w = true := by decide +kernel
theorem layX3 : ∀ w ∈ u_ws RX3 TX3 3, w ∈ lw_tbl ∧ kw w = true := by decide +kernel
theorem layX4 : ∀ w ∈ u_ws RX4 TX4 2, w ∈ lw_tbl ∧ kw w = true := by decide +kernel
theorem layX5 : ∀ w ∈ u_ws RX5 TX5 5, w ∈ lw_tbl ∧ kw w = true := by decide +kernel
theorem layX6 : ∀ w ∈ u_ws RX6 TX6 5, w ∈ lw_tbl ∧ kw w = true := by decide +kernel
theorem layX7 : ∀ w ∈ u_ws RX7 TX7 10, w ∈ lw_tbl ∧ kw w = true := by decide +kernel
theorem layX8 : ∀ w ∈ u_ws RX8 TX8 37, w ∈ lw_tbl ∧ kw w = true := by decide +kernel
theorem fl_X7_14 : Cond.fieldLink RX7 14 RX7 (TX7 0).2.1 (TX7 0).2.2.1 ∈ lw_tbl := List.mem_of_getElem? (i := 240) (by decide +kernel)
theorem gf_X7_14 {C : Cx} {cc : ByteArray} {nL : Nat} {rm : Room} {k n pc : Nat} {lv : List (Nat × Value)} {st : List Value} {ws : va_W} {a : Nat} {fs : List Value} {v : Value} (g : vG C cc RX7 nL rm) (hd : decode cc pc = .ok (.getfield 14, 3)) (q : Nat) (he : ws[q]? = some (a, .inr (7, fs))) (hv : fs[0]? = some v) (K : VJ C k n (pc + 3) lv (v :: st) ws) : VJ C k n pc lv (.ref a :: st) ws := v_get layX7 rfl 0 (by decide) fl_X7_14 rfl g hd q he hv K
theorem fl_X7_18 : Cond.fieldLink RX7 18 RX7 (TX7 1).2.1 (TX7 1).2.2.1 ∈ lw_tbl := List.mem_of_getElem? (i := 241) (by decide +kernel)
theorem gf_X7_18 {C : Cx} {cc : ByteArray} {nL : Nat} {rm : Room} {k n pc : Nat} {lv : List (Nat × Value)} {st : List Value} {ws : va_W} {a : Nat} {fs : List Value} {v : Value} (g : vG C cc RX7 nL rm) (hd : decode cc pc = .ok (.getfield 18, 3)) (q : Nat) (he : ws[q]? = some (a, .inr (7, fs))) (hv : fs[1]? = some v) (K : VJ C k n (pc + 3) lv (v :: st) ws) : VJ C k n pc lv (.ref a :: st) ws := v_get layX7 rfl 1 (by decide) fl_X7_18 rfl g hd q he hv K
theorem fl_X7_21 : Cond.fieldLink RX7 21 RX7 (TX7 2).2.1 (TX7 2).2.2.1 ∈ lw_tbl := List.mem_of_getElem? (i := 242) (by decide +kernel)
theorem gf_X7_21 {C : Cx} {cc : ByteArray} {nL : Nat} {rm : Room} {k n pc : Nat} {lv : List (Nat × Value)} {st : List Value} {ws : va_W} {a : Nat} {fs : List Value} {v : Value} (g : vG C cc RX7 nL rm) (hd : decode cc pc = .ok (.getfield 21, 3)) (q : Nat) (he : ws[q]? = some (a, .inr (7, fs))) (hv : fs[2]? = some v) (K : VJ C k n (pc + 3) lv (v :: st) ws) : VJ C k n pc lv (.ref a :: st) ws := v_get layX7 rfl 2 (by decide) fl_X7_21 rfl g hd q he hv K
theorem fl_X7_24 : Cond.fieldLink RX7 24 RX7 (TX7 3).2.1 (TX7 3).2.2.1 ∈ lw_tbl := List.mem_of_getElem? (i := 243) (by decide +kernel)
theorem gf_X7_24 {C : Cx} {cc : ByteArray} {nL : Nat} {rm : Room} {k n pc : Nat} {lv : List (Nat × Value)} {st : List Value} {ws : va_W} {a : Nat} {fs : List Value} {v : Value} (g : vG C cc RX7 nL rm) (hd : decode cc pc = .ok (.getfield 24, 3)) (q : Nat) (he : ws[q]? = some (a, .inr (7, fs))) (hv : fs[3]? = some v) (K : VJ C k n (pc + 3) lv (v :: st) ws) : VJ C k n pc lv (.ref a :: st) ws := v_get layX7 rfl 3 (by decide) fl_X7_24 rfl g hd q he hv K
theorem fl_X7_30 : Cond.fieldLink RX7 30 RX7 (TX7 4).2.1 (TX7 4).2.2.1 ∈ lw_tbl := List.mem_of_getElem? (i := 244) (by decide +kernel)
theorem gf_X7_30 {C : Cx} {cc : ByteArray} {nL : Nat} {rm : Room} {k n pc : Nat} {lv : List (Nat × Value)} {st : List Value} {ws : va_W} {a : Nat} {fs : List Value} {v : Value} (g : vG C cc RX7 nL rm) (hd : decode cc pc = .ok (.getfield 30, 3)) (q : Nat) (he : ws[q]? = some (a, .inr (7, fs))) (hv : fs[4]? = some v) (K : VJ C k n (pc + 3) lv (v :: st) ws) : VJ C k n pc lv (.ref a :: st) ws := v_get layX7 rfl 4 (by decide) fl_X7_30 rfl g hd q he hv K
theorem fl_X7_37 : Cond.fieldLink RX7 37 RX7 (TX7 5).2.1 (TX7 5).2.2.1 ∈ lw_tbl := List.mem_of_getElem? (i := 245) (by decide +kernel)
theorem gf_X7_37 {C : Cx} {cc : ByteArray} {nL : Nat} {rm : Room} {k n pc : Nat} {lv : List (Nat × Value)} {st : List Value} {ws : va_W} {a : Nat} {fs : List Value} {v : Value} (g : vG C cc RX7 nL rm) (hd : decode cc pc = .ok (.getfield 37, 3)) (q : Nat) (he : ws[q]? = some (a, .inr (7, fs))) (hv : fs[5]? = some v) (K : VJ C k n (pc + 3) lv (v :: st) ws) : VJ C k n pc lv (.ref a :: st) ws := v_get layX7 rfl 5 (by decide) fl_X7_37 rfl g hd q he hv K
theorem fl_X7_46 : Cond.fieldLink RX7 46 RX7 (TX7 6).2.1 (TX7 6).2.2.1 ∈ lw_tbl := List.mem_of_getElem? (i := 246) (by decide +kernel)
theorem gf_X7_46 {C : Cx} {cc : ByteArray} {nL : Nat} {rm : Room} {k n pc : Nat} {lv : List (Nat × Value)} {st : List Value} {ws : va_W} {a : Nat} {fs : List Value} {v : Value} (g : vG C cc RX7 nL rm) (hd : decode cc pc = .ok (.getfield 46, 3)) (q : Nat) (he : ws[q]? = some (a, .inr (7, fs))) (hv : fs[6]? = some v) (K : VJ C k n (pc + 3) lv (v :: st) ws) : VJ C k n pc lv (.ref a :: st) ws := v_get layX7 rfl 6 (by decide) fl_X7_46 rfl g hd q he hv K
theorem fl_X7_53 : Cond.fieldLink RX7 53 RX7 (TX7 7).2.1 (TX7 7).2.2.1 ∈ lw_tbl := List.mem_of_getElem? (i := 247) (by decide +kernel)
theorem gf_X7_53 {C : Cx} {cc : ByteArray} {nL : Nat} {rm : Room} {k n pc : Nat} {lv : List (Nat × Value)} {st : List Value} {ws : va_W} {a : Nat} {fs : List Value} {v : Value} (g : vG C cc RX7 nL rm) (hd : decode cc pc = .ok (.getfield 53, 3)) (q : Nat) (he : ws[q]? = some (a, .inr (7, fs))) (hv : fs[7]? = some v) (K : VJ C k n (pc + 3) lv (v :: st) ws) : VJ C k n pc lv (.ref a :: st) ws := v_get layX7 rfl 7 (by decide) fl_X7_53 rfl g hd q he hv K
theorem fl_X7_60 : Cond.fieldLink RX7 60 RX7 (TX7 8).2.1 (TX7 8).2.2.1 ∈ lw_tbl := List.mem_of_getElem? (i := 248) (by decide +kernel)
theorem gf_X7_60 {C : Cx} {cc : ByteArray} {nL : Nat} {rm : Room} {k n pc : Nat} {lv : List (Nat × Value)} {st : List Value} {ws : va_W} {a : Nat} {fs : List Value} {v : Value} (g : vG C cc RX7 nL rm) (hd : decode cc pc = .ok (.getfield 60, 3)) (q : Nat) (he : ws[q]? = some (a, .inr (7, fs))) (hv : fs[8]? = some v) (K : VJ C k n (pc + 3) lv (v :: st) ws) : VJ C k n pc lv (.ref a :: st) ws := v_get layX7 rfl 8 (by decide) fl_X7_60 rfl g hd q he hv K
theorem fl_X7_69 : Cond.fieldLink RX7 69 RX7 (TX7 9).2.1 (TX7 9).2.2.1 ∈ lw_tbl := List.mem_of_getElem? (i := 249) (by decide +kernel)
theorem gf_X7_69 {C : Cx} {cc : ByteArray} {nL : Nat} {rm : Room} {k n pc : Nat} {lv : List (Nat × Value)} {st : List Value} {ws : va_W} {a : Nat} {fs : List Value} {v : Value} (g : vG C cc RX7 nL rm) (hd : decode cc pc = .ok (.getfield 69, 3)) (q : Nat) (he : ws[q]? = some (a, .inr (7, fs))) (hv : fs[9]? = some v) (K : VJ C k n (pc + 3) lv (v :: st) ws) : VJ C k n pc lv (.ref a :: st) ws := v_get layX7 rfl 9 (by decide) fl_X7_69 rfl g hd q he hv K
theorem fl_X7_81 : Cond.fieldLinkNest RX7 81 RX4 (TX4 1).2.1 (TX4 1).2.2.1 "SealBox" ∈ lw_tbl := List.mem_of_getElem? (i := 85) (by decide +kernel)
theorem gf_X7_81 {C : Cx} {cc : ByteArray} {nL : Nat} {rm : Room} {k n pc : Nat} {lv : List (Nat × Value)} {st : List Value} {ws : va_W} {a : Nat} {fs : List Value} {v : Value} (g : vG C cc RX7 nL rm) (hd : decode cc pc = .ok (.getfield 81, 3)) (q : Nat) (he : ws[q]? = some (a, .inr (4, fs))) (hv : fs[1]? = some v) (K : VJ C k n (pc + 3) lv (v :: st) ws) : VJ C k n pc lv (.ref a :: st) ws := v_getN layX4 rfl 1 (by decide) fl_X7_81 rfl g hd q he hv K
theorem pf_X7_81 {C : Cx} {cc : ByteArray} {nL : Nat} {rm : Room} {k n pc : Nat} {lv : List (Nat × Value)} {st : List Value} {ws : va_W} {a : Nat} {fs : List Value} {x : Int32} (g : vG C cc RX7 nL rm) (hd : decode cc pc = .ok (.putfield 81, 3)) (q : Nat) (ws' : va_W) (he : ws[q]? = some (a, .inr (4, fs))) (hlen : 1 < fs.length) (hs : ws.set q (a, .inr (4, fs.set 1 (.int x))) = ws') (K : VJ C k n (pc + 3) lv st ws') : VJ C k n pc lv (.int x :: .ref a :: st) ws := v_putN layX4 tyX4 tyX4_ok nmX4 rfl 1 (by decide) fl_X7_81 rfl rfl (ty := .int) (by decide +kernel) rfl rfl g hd q ws' he hlen hs K
theorem fl_X7_105 : Cond.fieldLinkNest RX7 105 RX4 (TX4 0).2.1 (TX4 0).2.2.1 "SealBox" ∈ lw_tbl := List.mem_of_getElem? (i := 82) (by decide +kernel)
theorem gf_X7_105 {C : Cx} {cc : ByteArray} {nL : Nat} {rm : Room} {k n pc : Nat} {lv : List (Nat × Value)} {st : List Value} {ws : va_W} {a : Nat} {fs : List Value} {v : Value} (g : vG C cc RX7 nL rm) (hd : decode cc pc = .ok (.getfield 105, 3)) (q : Nat) (he : ws[q]? = some (a, .inr (4, fs))) (hv : fs[0]? = some v) (K : VJ C k n (pc + 3) lv (v :: st) ws) : VJ C k n pc lv (.ref a :: st) ws := v_getN layX4 rfl 0 (by decide) fl_X7_105 rfl g hd q he hv K
theorem fl_X7_145 : Cond.fieldLinkNest RX7 145 RX3 (TX3 2).2.1 (TX3 2).2.2.1 "SealBox" ∈ lw_tbl := List.mem_of_getElem? (i := 156) (by decide +kernel)
theorem gf_X7_145 {C : Cx} {cc : ByteArray} {nL : Nat} {rm : Room} {k n pc : Nat} {lv : List (Nat × Value)} {st : List Value} {ws : va_W} {a : Nat} {fs : List Value} {v : Value} (g : vG C cc RX7 nL rm) (hd : decode cc pc = .ok (.getfield 145, 3)) (q : Nat) (he : ws[q]? = some (a, .inr (3, fs))) (hv : fs[2]? = some v) (K : VJ C k n (pc + 3) lv (v :: st) ws) : VJ C k n pc lv (.ref a :: st) ws := v_getN layX3 rfl 2 (by decide) fl_X7_145 rfl g hd q he hv K
theorem fl_X7_161 : Cond.fieldLinkNest RX7 161 RX1 (TX1 0).2.1 (TX1 0).2.2.1 "SealBox" ∈ lw_tbl := List.mem_of_getElem? (i := 217) (by decide +kernel)
theorem gf_X7_161 {C : Cx} {cc : ByteArray} {nL : Nat} {rm : Room} {k n pc : Nat} {lv : List (Nat × Value)} {st : List Value} {ws : va_W} {a : Nat} {fs : List Value} {v : Value} (g : vG C cc RX7 nL rm) (hd : decode cc pc = .ok (.getfield 161, 3)) (q : Nat) (he : ws[q]? = some (a, .inr (1, fs))) (hv : fs[0]? = some v) (K : VJ C k n (pc + 3) lv (v :: st) ws) : VJ C k n pc lv (.ref a :: st) ws := v_getN layX1 rfl 0 (by decide) fl_X7_161 rfl g hd q he hv K
theorem fl_X7_164 : Cond.fieldLinkNest RX7 164 RX1 (TX1 4).2.1 (TX1 4).2.2.1 "SealBox" ∈ lw_tbl := List.mem_of_getElem? (i := 228) (by decide +kernel)
theorem gf_X7_164 {C : Cx} {cc : ByteArray} {nL : Nat} {rm : Room} {k n pc : Nat} {lv : List (Nat × Value)} {st : List Value} {ws : va_W} {a : Nat} {fs : List Value} {v : Value} (g : vG C cc RX7 nL rm) (hd : decode cc pc = .ok (.getfield 164, 3)) (q : Nat) (he : ws[q]? = some (a, .inr (1, fs))) (hv : fs[4]? = some v) (K : VJ C k n (pc + 3) lv (v :: st) ws) : VJ C k n pc lv (.ref a :: st) ws := v_getN layX1 rfl 4 (by decide) fl_X7_164 rfl g hd q he hv K
theorem pf_X7_164 {C : Cx} {cc : ByteArray} {nL : Nat} {rm : Room} {k n pc : Nat} {lv : List (Nat × Value)} {st : List Value} {ws : va_W} {a : Nat} {fs : List Value} {x : Int32} (g : vG C cc RX7 nL rm) (hd : decode cc pc = .ok (.putfield 164, 3)) (q : Nat) (ws' : va_W) (he : ws[q]? = some (a, .inr (1, fs))) (hlen : 4 < fs.length) (hs : ws.set q (a, .inr (1, fs.set 4 (.int x))) = ws') (K : VJ C k n (pc + 3) lv st ws') : VJ C k n pc lv (.int x :: .ref a :: st) ws := v_putN layX1 tyX1 tyX1_ok nmX1 rfl 4 (by decide) fl_X7_164 rfl rfl (ty := .int) (by decide +kernel) rfl rfl g hd q ws' he hlen hs K
theorem fl_X7_167 : Cond.fieldLinkNest RX7 167 RX1 (TX1 3).2.1 (TX1 3).2.2.1 "SealBox" ∈ lw_tbl := List.mem_of_getElem? (i := 226) (by decide +kernel)
theorem gf_X7_167 {C : Cx} {cc : ByteArray} {nL : Nat} {rm : Room} {k n pc : Nat} {lv : List (Nat × Value)} {st : List Value} {ws : va_W} {a : Nat} {fs : List Value} {v : Value} (g : vG C cc RX7 nL rm) (hd : decode cc pc = .ok (.getfield 167, 3)) (q : Nat) (he : ws[q]? = some (a, .inr (1, fs))) (hv : fs[3]? = some v) (K : VJ C k n (pc + 3) lv (v :: st) ws) : VJ C k n pc lv (.ref a :: st) ws := v_getN layX1 rfl 3 (by decide) fl_X7_167 rfl g hd q he hv K
theorem fl_X7_215 : Cond.fieldLinkNest RX7 215 RX1 (TX1 1).2.1 (TX1 1).2.2.1 "SealBox" ∈ lw_tbl := List.mem_of_getElem? (i := 220) (by decide +kernel)
theorem gf_X7_215 {C : Cx} {cc : ByteArray} {nL : Nat} {rm : Room} {k n pc : Nat} {lv : List (Nat × Value)} {st : List Value} {ws : va_W} {a : Nat} {fs : List Value} {v : Value} (g : vG C cc RX7 nL rm) (hd : decode cc pc = .ok (.getfield 215, 3)) (q : Nat) (he : ws[q]? = some (a, .inr (1, fs))) (hv : fs[1]? = some v) (K : VJ C k n (pc + 3) lv (v :: st) ws) : VJ C k n pc lv (.ref a :: st) ws := v_getN layX1 rfl 1 (by decide) fl_X7_215 rfl g hd q he hv K
theorem fl_X7_218 : Cond.fieldLinkNest RX7 218 RX1 (TX1 2).2.1 (TX1 2).2.2.1 "SealBox" ∈ lw_tbl := List.mem_of_getElem? (i := 223) (by decide +kernel)
theorem gf_X7_218 {C : Cx} {cc : ByteArray} {nL : Nat} {rm : Room} {k n pc : Nat} {lv : List (Nat × Value)} {st : List Value} {ws : va_W} {a : Nat} {fs : List Value} {v : Value} (g : vG C cc RX7 nL rm) (hd : decode cc pc = .ok (.getfield 218, 3)) (q : Nat) (he : ws[q]? = some (a, .inr (1, fs))) (hv : fs[2]? = some v) (K : VJ C k n (pc + 3) lv (v :: st) ws) : VJ C k n pc lv (.ref a :: st) ws := v_getN layX1 rfl 2 (by decide) fl_X7_218 rfl g hd q he hv K
theorem fl_X4_7 : Cond.fieldLink RX4 7 RX4 (TX4 0).2.1 (TX4 0).2.2.1 ∈ lw_tbl := List.mem_of_getElem? (i := 79) (by decide +kernel)
theorem gf_X4_7 {C : Cx} {cc : ByteArray} {nL : Nat} {rm : Room} {k n pc : Nat} {lv : List (Nat × Value)} {st : List Value} {ws : va_W} {a : Nat} {fs : List Value} {v : Value} (g : vG C cc RX4 nL rm) (hd : decode cc pc = .ok (.getfield 7, 3)) (q : Nat) (he : ws[q]? = some (a, .inr (4, fs))) (hv : fs[0]? = some v) (K : VJ C k n (pc + 3) lv (v :: st) ws) : VJ C k n pc lv (.ref a :: st) ws := v_get layX4 rfl 0 (by decide) fl_X4_7 rfl g hd q he hv K
theorem fl_X4_13 : Cond.fieldLink RX4 13 RX4 (TX4 1).2.1 (TX4 1).2.2.1 ∈ lw_tbl := List.mem_of_getElem? (i := 83) (by decide +kernel)
theorem gf_X4_13 {C : Cx} {cc : ByteArray} {nL : Nat} {rm : Room} {k n pc : Nat} {lv : List (Nat × Value)} {st : List Value} {ws : va_W} {a : Nat} {fs : List Value} {v : Value} (g : vG C cc RX4 nL rm) (hd : decode cc pc = .ok (.getfield 13, 3)) (q : Nat) (he : ws[q]? = some (a, .inr (4, fs))) (hv : fs[1]? = some v) (K : VJ C k n (pc + 3) lv (v :: st) ws) : VJ C k n pc lv (.ref a :: st) ws := v_get layX4 rfl 1 (by decide) fl_X4_13 rfl g hd q he hv K
theorem pf_X4_13 {C : Cx} {cc : ByteArray} {nL : Nat} {rm : Room} {k n pc : Nat} {lv : List (Nat × Value)} {st : List Value} {ws : va_W} {a : Nat} {fs : List Value} {x : Int32} (g : vG C cc RX4 nL rm) (hd : decode cc pc = .ok (.putfield 13, 3)) (q : Nat) (ws' : va_W) (he : ws[q]? = some (a, .inr (4, fs))) (hlen : 1 < fs.length) (hs : ws.set q (a, .inr (4, fs.set 1 (.int x))) = ws') (K : VJ C k n (pc + 3) lv st ws') : VJ C k n pc lv (.int x :: .ref a :: st) ws := v_put layX4 tyX4 tyX4_ok nmX4 rfl 1 (by decide) fl_X4_13 rfl rfl (ty := .int) (by decide +kernel) rfl rfl g hd q ws' he hlen hs K
theorem fl_X0_7 : Cond.fieldLink RX0 7 RX0 (TX0 0).2.1 (TX0 0).2.2.1 ∈ lw_tbl := List.mem_of_getElem? (i := 102) (by decide +kernel)
theorem gf_X0_7 {C : Cx} {cc : ByteArray} {nL : Nat} {rm : Room} {k n pc : Nat} {lv : List (Nat × Value)} {st : List Value} {ws : va_W} {a : Nat} {fs : List Value} {v : Value} (g : vG C cc RX0 nL rm) (hd : decode cc pc = .ok (.getfield 7, 3)) (q : Nat) (he : ws[q]? = some (a, .inr (0, fs))) (hv : fs[0]? = some v) (K : VJ C k n (pc + 3) lv (v :: st) ws) : VJ C k n pc lv (.ref a :: st) ws := v_get layX0 rfl 0 (by decide) fl_X0_7 rfl g hd q he hv K
theorem fl_X0_13 : Cond.fieldLink RX0 13 RX0 (TX0 1).2.1 (TX0 1).2.2.1 ∈ lw_tbl := List.mem_of_getElem? (i := 103) (by decide +kernel)
theorem gf_X0_13 {C : Cx} {cc : ByteArray} {nL : Nat} {rm : Room} {k n pc : Nat} {lv : List (Nat × Value)} {st : List Value} {ws : va_W} {a : Nat} {fs : List Value} {v : Value} (g : vG C cc RX0 nL rm) (hd : decode cc pc = .ok (.getfield 13, 3)) (q : Nat) (he : ws[q]? = some (a, .inr (0, fs))) (hv : fs[1]? = some v) (K : VJ C k n (pc + 3) lv (v :: st) ws) : VJ C k n pc lv (.ref a :: st) ws := v_get layX0 rfl 1 (by decide) fl_X0_13 rfl g hd q he hv K
theorem fl_X0_16 : Cond.fieldLink RX0 16 RX0 (TX0 2).2.1 (TX0 2).2.2.1 ∈ lw_tbl := List.mem_of_getElem? (i := 104) (by decide +kernel)
theorem gf_X0_16 {C : Cx} {cc : ByteArray} {nL : Nat} {rm : Room} {k n pc : Nat} {lv : List (Nat × Value)} {st : List Value} {ws : va_W} {a : Nat} {fs : List Value} {v : Value} (g : vG C cc RX0 nL rm) (hd : decode cc pc = .ok (.getfield 16, 3)) (q : Nat) (he : ws[q]? = some (a, .inr (0, fs))) (hv : fs[2]? = some v) (K : VJ C k n (pc + 3) lv (v :: st) ws) : VJ C k n pc lv (.ref a :: st) ws := v_get layX0 rfl 2 (by decide) fl_X0_16 rfl g hd q he hv K
theorem fl_X0_29 : Cond.fieldLink RX0 29 RX0 (TX0 3).2.1 (TX0 3).2.2.1 ∈ lw_tbl := List.mem_of_getElem? (i := 105) (by decide +kernel)
theorem gf_X0_29 {C : Cx} {cc : ByteArray} {nL : Nat} {rm : Room} {k n pc : Nat} {lv : List (Nat × Value)} {st : List Value} {ws : va_W} {a : Nat} {fs : List Value} {v : Value} (g : vG C cc RX0 nL rm) (hd : decode cc pc = .ok (.getfield 29, 3)) (q : Nat) (he : ws[q]? = some (a, .inr (0, fs))) (hv : fs[3]? = some v) (K : VJ C k n (pc + 3) lv (v :: st) ws) : VJ C k n pc lv (.ref a :: st) ws := v_get layX0 rfl 3 (by decide) fl_X0_29 rfl g hd q he hv K
theorem pf_X0_29 {C : Cx} {cc : ByteArray} {nL : Nat} {rm : Room} {k n pc : Nat} {lv : List (Nat × Value)} {st : List Value} {ws : va_W} {a : Nat} {fs : List Value} {x : Int32} (g : vG C cc RX0 nL rm) (hd : decode cc pc = .ok (.putfield 29, 3)) (q : Nat) (ws' : va_W) (he : ws[q]? = some (a, .inr (0, fs))) (hlen : 3 < fs.length) (hs : ws.set q (a, .inr (0, fs.set 3 (.int x))) = ws') (K : VJ C k n (pc + 3) lv st ws') : VJ C k n pc lv (.int x :: .ref a :: st) ws := v_put layX0 tyX0 tyX0_ok nmX0 rfl 3 (by decide) fl_X0_29 rfl rfl (ty := .int) (by decide +kernel) rfl rfl g hd q ws' he hlen hs K
theorem fl_X0_33 : Cond.fieldLink RX0 33 RX0 (TX0 4).2.1 (TX0 4).2.2.1 ∈ lw_tbl := List.mem_of_getElem? (i := 106) (by decide +kernel)
theorem gf_X0_33 {C : Cx} {cc : ByteArray} {nL : Nat} {rm : Room} {k n pc : Nat} {lv : List (Nat × Value)} {st : List Value} {ws : va_W} {a : Nat} {fs : List Value} {v : Value} (g : vG C cc RX0 nL rm) (hd : decode cc pc = .ok (.getfield 33, 3)) (q : Nat) (he : ws[q]? = some (a, .inr (0, fs))) (hv : fs[4]? = some v) (K : VJ C k n (pc + 3) lv (v :: st) ws) : VJ C k n pc lv (.ref a :: st) ws := v_get layX0 rfl 4 (by decide) fl_X0_33 rfl g hd q he hv K
theorem pf_X0_33 {C : Cx} {cc : ByteArray} {nL : Nat} {rm : Room} {k n pc : Nat} {lv : List (Nat × Value)} {st : List Value} {ws : va_W} {a : Nat} {fs : List Value} {x : Int64} (g : vG C cc RX0 nL rm) (hd : decode cc pc = .ok (.putfield 33, 3)) (q : Nat) (ws' : va_W) (he : ws[q]? = some (a, .inr (0, fs))) (hlen : 4 < fs.length) (hs : ws.set q (a, .inr (0, fs.set 4 (.long x))) = ws') (K : VJ C k n (pc + 3) lv st ws') : VJ C k n pc lv (.long x :: .ref a :: st) ws := v_put layX0 tyX0 tyX0_ok nmX0 rfl 4 (by decide) fl_X0_33 rfl rfl (ty := .long) (by decide +kernel) rfl rfl g hd q ws' he hlen hs K
theorem fl_X2_11 : Cond.fieldLink RX2 11 RX2 (TX2 1).2.1 (TX2 1).2.2.1 ∈ lw_tbl := List.mem_of_getElem? (i := 128) (by decide +kernel)
theorem gf_X2_11 {C : Cx} {cc : ByteArray} {nL : Nat} {rm : Room} {k n pc : Nat} {lv : List (Nat × Value)} {st : List Value} {ws : va_W} {a : Nat} {fs : List Value} {v : Value} (g : vG C cc RX2 nL rm) (hd : decode cc pc = .ok (.getfield 11, 3)) (q : Nat) (he : ws[q]? = some (a, .inr (2, fs))) (hv : fs[1]? = some v) (K : VJ C k n (pc + 3) lv (v :: st) ws) : VJ C k n pc lv (.ref a :: st) ws := v_get layX2 rfl 1 (by decide) fl_X2_11 rfl g hd q he hv K
theorem fl_X2_17 : Cond.fieldLink RX2 17 RX2 (TX2 2).2.1 (TX2 2).2.2.1 ∈ lw_tbl := List.mem_of_getElem? (i := 129) (by decide +kernel)
theorem gf_X2_17 {C : Cx} {cc : ByteArray} {nL : Nat} {rm : Room} {k n pc : Nat} {lv : List (Nat × Value)} {st : List Value} {ws : va_W} {a : Nat} {fs : List Value} {v : Value} (g : vG C cc RX2 nL rm) (hd : decode cc pc = .ok (.getfield 17, 3)) (q : Nat) (he : ws[q]? = some (a, .inr (2, fs))) (hv : fs[2]? = some v) (K : VJ C k n (pc + 3) lv (v :: st) ws) : VJ C k n pc lv (.ref a :: st) ws := v_get layX2 rfl 2 (by decide) fl_X2_17 rfl g hd q he hv K
theorem fl_X2_20 : Cond.fieldLink RX2 20 RX2 (TX2 3).2.1 (TX2 3).2.2.1 ∈ lw_tbl := List.mem_of_getElem? (i := 130) (by decide +kernel)
theorem gf_X2_20 {C : Cx} {cc : ByteArray} {nL : Nat} {rm : Room} {k n pc : Nat} {lv : List (Nat × Value)} {st : List Value} {ws : va_W} {a : Nat} {fs : List Value} {v : Value} (g : vG C cc RX2 nL rm) (hd : decode cc pc = .ok (.getfield 20, 3)) (q : Nat) (he : ws[q]? = some (a, .inr (2, fs))) (hv : fs[3]? = some v) (K : VJ C k n (pc + 3) lv (v :: st) ws) : VJ C k n pc lv (.ref a :: st) ws := v_get layX2 rfl 3 (by decide) fl_X2_20 rfl g hd q he hv K
theorem fl_X2_23 : Cond.fieldLink RX2 23 RX2 (TX2 4).2.1 (TX2 4).2.2.1 ∈ lw_tbl := List.mem_of_getElem? (i := 131) (by decide +kernel)
theorem gf_X2_23 {C : Cx} {cc : ByteArray} {nL : Nat} {rm : Room} {k n pc : Nat} {lv : List (Nat × Value)} {st : List Value} {ws : va_W} {a : Nat} {fs : List Value} {v : Value} (g : vG C cc RX2 nL rm) (hd : decode cc pc = .ok (.getfield 23, 3)) (q : Nat) (he : ws[q]? = some (a, .inr (2, fs))) (hv : fs[4]? = some v) (K : VJ C k n (pc + 3) lv (v :: st) ws) : VJ C k n pc lv (.ref a :: st) ws := v_get layX2 rfl 4 (by decide) fl_X2_23 rfl g hd q he hv K
theorem fl_X2_31 : Cond.fieldLink RX2 31 RX2 (TX2 5).2.1 (TX2 5).2.2.1 ∈ lw_tbl := List.mem_of_getElem? (i := 132) (by decide +kernel)
theorem gf_X2_31 {C : Cx} {cc : ByteArray} {nL : Nat} {rm : Room} {k n pc : Nat} {lv : List (Nat × Value)} {st : List Value} {ws : va_W} {a : Nat} {fs : List Value} {v : Value} (g : vG C cc RX2 nL rm) (hd : decode cc pc = .ok (.getfield 31, 3)) (q : Nat) (he : ws[q]? = some (a, .inr (2, fs))) (hv : fs[5]? = some v) (K : VJ C k n (pc + 3) lv (v :: st) ws) : VJ C k n pc lv (.ref a :: st) ws := v_get layX2 rfl 5 (by decide) fl_X2_31 rfl g hd q he hv K
theorem fl_X2_35 : Cond.fieldLink RX2 35 RX2 (TX2 0).2.1 (TX2 0).2.2.1 ∈ lw_tbl := List.mem_of_getElem? (i := 127) (by decide +kernel)
theorem gf_X2_35 {C : Cx} {cc : ByteArray} {nL : Nat} {rm : Room} {k n pc : Nat} {lv : List (Nat × Value)} {st : List Value} {ws : va_W} {a : Nat} {fs : List Value} {v : Value} (g : vG C cc RX2 nL rm) (hd : decode cc pc = .ok (.getfield 35, 3)) (q : Nat) (he : ws[q]? = some (a, .inr (2, fs))) (hv : fs[0]? = some v) (K : VJ C k n (pc + 3) lv (v :: st) ws) : VJ C k n pc lv (.ref a :: st) ws := v_get layX2 rfl 0 (by decide) fl_X2_35 rfl g hd q he hv K
theorem fl_X2_46 : Cond.fieldLinkNest RX2 46 RX4 (TX4 0).2.1 (TX4 0).2.2.1 "SealBox" ∈ lw_tbl := List.mem_of_getElem? (i := 80) (by decide +kernel)
theorem gf_X2_46 {C : Cx} {cc : ByteArray} {nL : Nat} {rm : Room} {k n pc : Nat} {lv : List (Nat × Value)} {st : List Value} {ws : va_W} {a : Nat} {fs : List Value} {v : Value} (g : vG C cc RX2 nL rm) (hd : decode cc pc = .ok (.getfield 46, 3)) (q : Nat) (he : ws[q]? = some (a, .inr (4, fs))) (hv : fs[0]? = some v) (K : VJ C k n (pc + 3) lv (v :: st) ws) : VJ C k n pc lv (.ref a :: st) ws := v_getN layX4 rfl 0 (by decide) fl_X2_46 rfl g hd q he hv K
theorem fl_X2_49 : Cond.fieldLinkNest RX2 49 RX4 (TX4 1).2.1 (TX4 1).2.2.1 "SealBox" ∈ lw_tbl := List.mem_of_getElem? (i := 84) (by decide +kernel)
theorem gf_X2_49 {C : Cx} {cc : ByteArray} {nL : Nat} {rm : Room} {k n pc : Nat} {lv : List (Nat × Value)} {st : List Value} {ws : va_W} {a : Nat} {fs : List Value} {v : Value} (g : vG C cc RX2 nL rm) (hd : decode cc pc = .ok (.getfield 49, 3)) (q : Nat) (he : ws[q]? = some (a, .inr (4, fs))) (hv : fs[1]? = some v) (K : VJ C k n (pc + 3) lv (v :: st) ws) : VJ C k n pc lv (.ref a :: st) ws := v_getN layX4 rfl 1 (by decide) fl_X2_49 rfl g hd q he hv K
theorem pf_X2_49 {C : Cx} {cc : ByteArray} {nL : Nat} {rm : Room} {k n pc : Nat} {lv : List (Nat × Value)} {st : List Value} {ws : va_W} {a : Nat} {fs : List Value} {x : Int32} (g : vG C cc RX2 nL rm) (hd : decode cc pc = .ok (.putfield 49, 3)) (q : Nat) (ws' : va_W) (he : ws[q]? = some (a, .inr (4, fs))) (hlen : 1 < fs.length) (hs : ws.set q (a, .inr (4, fs.set 1 (.int x))) = ws') (K : VJ C k n (pc + 3) lv st ws') : VJ C k n pc lv (.int x :: .ref a :: st) ws := v_putN layX4 tyX4 tyX4_ok nmX4 rfl 1 (by decide) fl_X2_49 rfl rfl (ty := .int) (by decide +kernel) rfl rfl g hd q ws' he hlen hs K
theorem fl_X3_7 : Cond.fieldLink RX3 7 RX3 (TX3 0).2.1 (TX3 0).2.2.1 ∈ lw_tbl := List.mem_of_getElem? (i := 152) (by decide +kernel)
theorem gf_X3_7 {C : Cx} {cc : ByteArray} {nL : Nat} {rm : Room} {k n pc : Nat} {lv : List (Nat × Value)} {st : List Value} {ws : va_W} {a : Nat} {fs : List Value} {v : Value} (g : vG C cc RX3 nL rm) (hd : decode cc pc = .ok (.getfield 7, 3)) (q : Nat) (he : ws[q]? = some (a, .inr (3, fs))) (hv : fs[0]? = some v) (K : VJ C k n (pc + 3) lv (v :: st) ws) : VJ C k n pc lv (.ref a :: st) ws := v_get layX3 rfl 0 (by decide) fl_X3_7 rfl g hd q he hv K
theorem fl_X3_13 : Cond.fieldLink RX3 13 RX3 (TX3 1).2.1 (TX3 1).2.2.1 ∈ lw_tbl := List.mem_of_getElem? (i := 153) (by decide +kernel)
theorem gf_X3_13 {C : Cx} {cc : ByteArray} {nL : Nat} {rm : Room} {k n pc : Nat} {lv : List (Nat × Value)} {st : List Value} {ws : va_W} {a : Nat} {fs : List Value} {v : Value} (g : vG C cc RX3 nL rm) (hd : decode cc pc = .ok (.getfield 13, 3)) (q : Nat) (he : ws[q]? = some (a, .inr (3, fs))) (hv : fs[1]? = some v) (K : VJ C k n (pc + 3) lv (v :: st) ws) : VJ C k n pc lv (.ref a :: st) ws := v_get layX3 rfl 1 (by decide) fl_X3_13 rfl g hd q he hv K
theorem fl_X3_16 : Cond.fieldLink RX3 16 RX3 (TX3 2).2.1 (TX3 2).2.2.1 ∈ lw_tbl := List.mem_of_getElem? (i := 154) (by decide +kernel)
theorem gf_X3_16 {C : Cx} {cc : ByteArray} {nL : Nat} {rm : Room} {k n pc : Nat} {lv : List (Nat × Value)} {st : List Value} {ws : va_W} {a : Nat} {fs : List Value} {v : Value} (g : vG C cc RX3 nL rm) (hd : decode cc pc = .ok (.getfield 16, 3)) (q : Nat) (he : ws[q]? = some (a, .inr (3, fs))) (hv : fs[2]? = some v) (K : VJ C k n (pc + 3) lv (v :: st) ws) : VJ C k n pc lv (.ref a :: st) ws := v_get layX3 rfl 2 (by decide) fl_X3_16 rfl g hd q he hv K
theorem fl_X6_11 : Cond.fieldLink RX6 11 RX6 (TX6 0).2.1 (TX6 0).2.2.1 ∈ lw_tbl := List.mem_of_getElem? (i := 170) (by decide +kernel)
theorem gf_X6_11 {C : Cx} {cc : ByteArray} {nL : Nat} {rm : Room} {k n pc : Nat} {lv : List (Nat × Value)} {st : List Value} {ws : va_W} {a : Nat} {fs : List Value} {v : Value} (g : vG C cc RX6 nL rm) (hd : decode cc pc = .ok (.getfield 11, 3)) (q : Nat) (he : ws[q]? = some (a, .inr (6, fs))) (hv : fs[0]? = some v) (K : VJ C k n (pc + 3) lv (v :: st) ws) : VJ C k n pc lv (.ref a :: st) ws := v_get layX6 rfl 0 (by decide) fl_X6_11 rfl g hd q he hv K
theorem fl_X6_15 : Cond.fieldLink RX6 15 RX6 (TX6 1).2.1 (TX6 1).2.2.1 ∈ lw_tbl := List.mem_of_getElem? (i := 171) (by decide +kernel)
theorem gf_X6_15 {C : Cx} {cc : ByteArray} {nL : Nat} {rm : Room} {k n pc : Nat} {lv : List (Nat × Value)} {st : List Value} {ws : va_W} {a : Nat} {fs : List Value} {v : Value} (g : vG C cc RX6 nL rm) (hd : decode cc pc = .ok (.getfield 15, 3)) (q : Nat) (he : ws[q]? = some (a, .inr (6, fs))) (hv : fs[1]? = some v) (K : VJ C k n (pc + 3) lv (v :: st) ws) : VJ C k n pc lv (.ref a :: st) ws := v_get layX6 rfl 1 (by decide) fl_X6_15 rfl g hd q he hv K
theorem fl_X6_18 : Cond.fieldLink RX6 18 RX6 (TX6 2).2.1 (TX6 2).2.2.1 ∈ lw_tbl := List.mem_of_getElem? (i := 172) (by decide +kernel)
theorem gf_X6_18 {C : Cx} {cc : ByteArray} {nL : Nat} {rm : Room} {k n pc : Nat} {lv : List (Nat × Value)} {st : List Value} {ws : va_W} {a : Nat} {fs : List Value} {v : Value} (g : vG C cc RX6 nL rm) (hd : decode cc pc = .ok (.getfield 18, 3)) (q : Nat) (he : ws[q]? = some (a, .inr (6, fs))) (hv : fs[2]? = some v) (K : VJ C k n (pc + 3) lv (v :: st) ws) : VJ C k n pc lv (.ref a :: st) ws := v_get layX6 rfl 2 (by decide) fl_X6_18 rfl g hd q he hv K
theorem fl_X6_21 : Cond.fieldLink RX6 21 RX6 (TX6 3).2.1 (TX6 3).2.2.1 ∈ lw_tbl := List.mem_of_getElem? (i := 173) (by decide +kernel)
theorem gf_X6_21 {C : Cx} {cc : ByteArray} {nL : Nat} {rm : Room} {k n pc : Nat} {lv : List (Nat × Value)} {st : List Value} {ws : va_W} {a : Nat} {fs : List Value} {v : Value} (g : vG C cc RX6 nL rm) (hd : decode cc pc = .ok (.getfield 21, 3)) (q : Nat) (he : ws[q]? = some (a, .inr (6, fs))) (hv : fs[3]? = some v) (K : VJ C k n (pc + 3) lv (v :: st) ws) : VJ C k n pc lv (.ref a :: st) ws := v_get layX6 rfl 3 (by decide) fl_X6_21 rfl g hd q he hv K
theorem fl_X6_24 : Cond.fieldLink RX6 24 RX6 (TX6 4).2.1 (TX6 4).2.2.1 ∈ lw_tbl := List.mem_of_getElem? (i := 174) (by decide +kernel)
theorem gf_X6_24 {C : Cx} {cc : ByteArray} {nL : Nat} {rm : Room} {k n pc : Nat} {lv : List (Nat × Value)} {st : List Value} {ws : va_W} {a : Nat} {fs : List Value} {v : Value} (g : vG C cc RX6 nL rm) (hd : decode cc pc = .ok (.getfield 24, 3)) (q : Nat) (he : ws[q]? = some (a, .inr (6, fs))) (hv : fs[4]? = some v) (K : VJ C k n (pc + 3) lv (v :: st) ws) : VJ C k n pc lv (.ref a :: st) ws := v_get layX6 rfl 4 (by decide) fl_X6_24 rfl g hd q he hv K
theorem fl_X5_9 : Cond.fieldLink RX5 9 RX5 (TX5 2).2.1 (TX5 2).2.2.1 ∈ lw_tbl := List.mem_of_getElem? (i := 195) (by decide +kernel)
theorem gf_X5_9 {C : Cx} {cc : ByteArray} {nL : Nat} {rm : Room} {k n pc : Nat} {lv : List (Nat × Value)} {st : List Value} {ws : va_W} {a : Nat} {fs : List Value} {v : Value} (g : vG C cc RX5 nL rm) (hd : decode cc pc = .ok (.getfield 9, 3)) (q : Nat) (he : ws[q]? = some (a, .inr (5, fs))) (hv : fs[2]? = some v) (K : VJ C k n (pc + 3) lv (v :: st) ws) : VJ C k n pc lv (.ref a :: st) ws := v_get layX5 rfl 2 (by decide) fl_X5_9 rfl g hd q he hv K
theorem fl_X5_15 : Cond.fieldLink RX5 15 RX5 (TX5 3).2.1 (TX5 3).2.2.1 ∈ lw_tbl := List.mem_of_getElem? (i := 196) (by decide +kernel)
theorem gf_X5_15 {C : Cx} {cc : ByteArray} {nL : Nat} {rm : Room} {k n pc : Nat} {lv : List (Nat × Value)} {st : List Value} {ws : va_W} {a : Nat} {fs : List Value} {v : Value} (g : vG C cc RX5 nL rm) (hd : decode cc pc = .ok (.getfield 15, 3)) (q : Nat) (he : ws[q]? = some (a, .inr (5, fs))) (hv : fs[3]? = some v) (K : VJ C k n (pc + 3) lv (v :: st) ws) : VJ C k n pc lv (.ref a :: st) ws := v_get layX5 rfl 3 (by decide) fl_X5_15 rfl g hd q he hv K
theorem fl_X5_18 : Cond.fieldLink RX5 18 RX5 (TX5 4).2.1 (TX5 4).2.2.1 ∈ lw_tbl := List.mem_of_getElem? (i := 197) (by decide +kernel)
theorem gf_X5_18 {C : Cx} {cc : ByteArray} {nL : Nat} {rm : Room} {k n pc : Nat} {lv : List (Nat × Value)} {st : List Value} {ws : va_W} {a : Nat} {fs : List Value} {v : Value} (g : vG C cc RX5 nL rm) (hd : decode cc pc = .ok (.getfield 18, 3)) (q : Nat) (he : ws[q]? = some (a, .inr (5, fs))) (hv : fs[4]? = some v) (K : VJ C k n (pc + 3) lv (v :: st) ws) : VJ C k n pc lv (.ref a :: st) ws := v_get layX5 rfl 4 (by decide) fl_X5_18 rfl g hd q he hv K
theorem fl_X5_21 : Cond.fieldLink RX5 21 RX5 (TX5 0).2.1 (TX5 0).2.2.1 ∈ lw_tbl := List.mem_of_getElem? (i := 193) (by decide +kernel)
theorem gf_X5_21 {C : Cx} {cc : ByteArray} {nL : Nat} {rm : Room} {k n pc : Nat} {lv : List (Nat × Value)} {st : List Value} {ws : va_W} {a : Nat} {fs : List Value} {v : Value} (g : vG C cc RX5 nL rm) (hd : decode cc pc = .ok (.getfield 21, 3)) (q : Nat) (he : ws[q]? = some (a, .inr (5, fs))) (hv : fs[0]? = some v) (K : VJ C k n (pc + 3) lv (v :: st) ws) : VJ C k n pc lv (.ref a :: st) ws := v_get layX5 rfl 0 (by decide) fl_X5_21 rfl g hd q he hv K
theorem fl_X5_25 : Cond.fieldLink RX5 25 RX5 (TX5 1).2.1 (TX5 1).2.2.1 ∈ lw_tbl := List.mem_of_getElem? (i := 194) (by decide +kernel)
theorem gf_X5_25 {C : Cx} {cc : ByteArray} {nL : Nat} {rm : Room} {k n pc : Nat} {lv : List (Nat × Value)} {st : List Value} {ws : va_W} {a : Nat} {fs : List Value} {v : Value} (g : vG C cc RX5 nL rm) (hd : decode cc pc = .ok (.getfield 25, 3)) (q : Nat) (he : ws[q]? = some (a, .inr (5, fs))) (hv : fs[1]? = some v) (K : VJ C k n (pc + 3) lv (v :: st) ws) : VJ C k n pc lv (.ref a :: st) ws := v_get layX5 rfl 1 (by decide) fl_X5_25 rfl g hd q he hv K
theorem fl_X5_43 : Cond.fieldLinkNest RX5 43 RX4 (TX4 0).2.1 (TX4 0).2.2.1 "SealBox" ∈ lw_tbl := List.mem_of_getElem? (i := 81) (by decide +kernel)
theorem gf_X5_43 {C : Cx} {cc : ByteArray} {nL : Nat} {rm : Room} {k n pc : Nat} {lv : List (Nat × Value)} {st : List Value} {ws : va_W} {a : Nat} {fs : List Value} {v : Value} (g : vG C cc RX5 nL rm) (hd : decode cc pc = .ok (.getfield 43, 3)) (q : Nat) (he : ws[q]? = some (a, .inr (4, fs))) (hv : fs[0]? = some v) (K : VJ C k n (pc + 3) lv (v :: st) ws) : VJ C k n pc lv (.ref a :: st) ws := v_getN layX4 rfl 0 (by decide) fl_X5_43 rfl g hd q he hv K
theorem fl_X5_46 : Cond.fieldLinkNest RX5 46 RX4 (TX4 1).2.1 (TX4 1).2.2.1 "SealBox" ∈ lw_tbl := List.mem_of_getElem? (i := 86) (by decide +kernel)
theorem gf_X5_46 {C : Cx} {cc : ByteArray} {nL : Nat} {rm : Room} {k n pc : Nat} {lv : List (Nat × Value)} {st : List Value} {ws : va_W} {a : Nat} {fs : List Value} {v : Value} (g : vG C cc RX5 nL rm) (hd : decode cc pc = .ok (.getfield 46, 3)) (q : Nat) (he : ws[q]? = some (a, .inr (4, fs))) (hv : fs[1]? = some v) (K : VJ C k n (pc + 3) lv (v :: st) ws) : VJ C k n pc lv (.ref a :: st) ws := v_getN layX4 rfl 1 (by decide) fl_X5_46 rfl g hd q he hv K
theorem pf_X5_46 {C : Cx} {cc : ByteArray} {nL : Nat} {rm : Room} {k n pc : Nat} {lv : List (Nat × Value)} {st : List Value} {ws : va_W} {a : Nat} {fs : List Value} {x : Int32} (g : vG C cc RX5 nL rm) (hd : decode cc pc = .ok (.putfield 46, 3)) (q : Nat) (ws' : va_W) (he : ws[q]? = some (a, .inr (4, fs))) (hlen : 1 < fs.length) (hs : ws.set q (a, .inr (4, fs.set 1 (.int x))) = ws') (K : VJ C k n (pc + 3) lv st ws') : VJ C k n pc lv (.int x :: .ref a :: st) ws := v_putN layX4 tyX4 tyX4_ok nmX4 rfl 1 (by decide) fl_X5_46 rfl rfl (ty := .int) (by decide +kernel) rfl rfl g hd q ws' he hlen hs K
theorem fl_X5_64 : Cond.fieldLinkNest RX5 64 RX1 (TX1 3).2.1 (TX1 3).2.2.1 "SealBox" ∈ lw_tbl := List.mem_of_getElem? (i := 225) (by decide +kernel)
theorem gf_X5_64 {C : Cx} {cc : ByteArray} {nL : Nat} {rm : Room} {k n pc : Nat} {lv : List (Nat × Value)} {st : List Value} {ws : va_W} {a : Nat} {fs : List Value} {v : Value} (g : vG C cc RX5 nL rm) (hd : decode cc pc = .ok (.getfield 64, 3)) (q : Nat) (he : ws[q]? = some (a, .inr (1, fs))) (hv : fs[3]? = some v) (K : VJ C k n (pc + 3) lv (v :: st) ws) : VJ C k n pc lv (.ref a :: st) ws := v_getN layX1 rfl 3 (by decide) fl_X5_64 rfl g hd q he hv K
theorem fl_X5_80 : Cond.fieldLinkNest RX5 80 RX3 (TX3 2).2.1 (TX3 2).2.2.1 "SealBox" ∈ lw_tbl := List.mem_of_getElem? (i := 155) (by decide +kernel)
theorem gf_X5_80 {C : Cx} {cc : ByteArray} {nL : Nat} {rm : Room} {k n pc : Nat} {lv : List (Nat × Value)} {st : List Value} {ws : va_W} {a : Nat} {fs : List Value} {v : Value} (g : vG C cc RX5 nL rm) (hd : decode cc pc = .ok (.getfield 80, 3)) (q : Nat) (he : ws[q]? = some (a, .inr (3, fs))) (hv : fs[2]? = some v) (K : VJ C k n (pc + 3) lv (v :: st) ws) : VJ C k n pc lv (.ref a :: st) ws := v_getN layX3 rfl 2 (by decide) fl_X5_80 rfl g hd q he hv K
theorem fl_X5_81 : Cond.fieldLinkNest RX5 81 RX1 (TX1 2).2.1 (TX1 2).2.2.1 "SealBox" ∈ lw_tbl := List.mem_of_getElem? (i := 222) (by decide +kernel)
theorem gf_X5_81 {C : Cx} {cc : ByteArray} {nL : Nat} {rm : Room} {k n pc : Nat} {lv : List (Nat × Value)} {st : List Value} {ws : va_W} {a : Nat} {fs : List Value} {v : Value} (g : vG C cc RX5 nL rm) (hd : decode cc pc = .ok (.getfield 81, 3)) (q : Nat) (he : ws[q]? = some (a, .inr (1, fs))) (hv : fs[2]? = some v) (K : VJ C k n (pc + 3) lv (v :: st) ws) : VJ C k n pc lv (.ref a :: st) ws := v_getN layX1 rfl 2 (by decide) fl_X5_81 rfl g hd q he hv K
theorem fl_X5_84 : Cond.fieldLinkNest RX5 84 RX1 (TX1 1).2.1 (TX1 1).2.2.1 "SealBox" ∈ lw_tbl := List.mem_of_getElem? (i := 219) (by decide +kernel)
theorem gf_X5_84 {C : Cx} {cc : ByteArray} {nL : Nat} {rm : Room} {k n pc : Nat} {lv : List (Nat × Value)} {st : List Value} {ws : va_W} {a : Nat} {fs : List Value} {v : Value} (g : vG C cc RX5 nL rm) (hd : decode cc pc = .ok (.getfield 84, 3)) (q : Nat) (he : ws[q]? = some (a, .inr (1, fs))) (hv : fs[1]? = some v) (K : VJ C k n (pc + 3) lv (v :: st) ws) : VJ C k n pc lv (.ref a :: st) ws := v_getN layX1 rfl 1 (by decide) fl_X5_84 rfl g hd q he hv K
theorem fl_X1_14 : Cond.fieldLink RX1 14 RX1 (TX1 0).2.1 (TX1 0).2.2.1 ∈ lw_tbl := List.mem_of_getElem? (i := 216) (by decide +kernel)
theorem gf_X1_14 {C : Cx} {cc : ByteArray} {nL : Nat} {rm : Room} {k n pc : Nat} {lv : List (Nat × Value)} {st : List Value} {ws : va_W} {a : Nat} {fs : List Value} {v : Value} (g : vG C cc RX1 nL rm) (hd : decode cc pc = .ok (.getfield 14, 3)) (q : Nat) (he : ws[q]? = some (a, .inr (1, fs))) (hv : fs[0]? = some v) (K : VJ C k n (pc + 3) lv (v :: st) ws) : VJ C k n pc lv (.ref a :: st) ws := v_get layX1 rfl 0 (by decide) fl_X1_14 rfl g hd q he hv K
theorem fl_X1_20 : Cond.fieldLink RX1 20 RX1 (TX1 1).2.1 (TX1 1).2.2.1 ∈ lw_tbl := List.mem_of_getElem? (i := 218) (by decide +kernel)
theorem gf_X1_20 {C : Cx} {cc : ByteArray} {nL : Nat} {rm : Room} {k n pc : Nat} {lv : List (Nat × Value)} {st : List Value} {ws : va_W} {a : Nat} {fs : List Value} {v : Value} (g : vG C cc RX1 nL rm) (hd : decode cc pc = .ok (.getfield 20, 3)) (q : Nat) (he : ws[q]? = some (a, .inr (1, fs))) (hv : fs[1]? = some v) (K : VJ C k n (pc + 3) lv (v :: st) ws) : VJ C k n pc lv (.ref a :: st) ws := v_get layX1 rfl 1 (by decide) fl_X1_20 rfl g hd q he hv K
theorem fl_X1_23 : Cond.fieldLink RX1 23 RX1 (TX1 2).2.1 (TX1 2).2.2.1 ∈ lw_tbl := List.mem_of_getElem? (i := 221) (by decide +kernel)
theorem gf_X1_23 {C : Cx} {cc : ByteArray} {nL : Nat} {rm : Room} {k n pc : Nat} {lv : List (Nat × Value)} {st : List Value} {ws : va_W} {a : Nat} {fs : List Value} {v : Value} (g : vG C cc RX1 nL rm) (hd : decode cc pc = .ok (.getfield 23, 3)) (q : Nat) (he : ws[q]? = some (a, .inr (1, fs))) (hv : fs[2]? = some v) (K : VJ C k n (pc + 3) lv (v :: st) ws) : VJ C k n pc lv (.ref a :: st) ws := v_get layX1 rfl 2 (by decide) fl_X1_23 rfl g hd q he hv K
theorem fl_X1_26 : Cond.fieldLink RX1 26 RX1 (TX1 3).2.1 (TX1 3).2.2.1 ∈ lw_tbl := List.mem_of_getElem? (i := 224) (by decide +kernel)
theorem gf_X1_26 {C : Cx} {cc : ByteArray} {nL : Nat} {rm : Room} {k n pc : Nat} {lv : List (Nat × Value)} {st : List Value} {ws : va_W} {a : Nat} {fs : List Value} {v : Value} (g : vG C cc RX1 nL rm) (hd : decode cc pc = .ok (.getfield 26, 3)) (q : Nat) (he : ws[q]? = some (a, .inr (1, fs))) (hv : fs[3]? = some v) (K : VJ C k n (pc + 3) lv (v :: st) ws) : VJ C k n pc lv (.ref a :: st) ws := v_get layX1 rfl 3 (by decide) fl_X1_26 rfl g hd q he hv K
theorem fl_X1_29 : Cond.fieldLink RX1 29 RX1 (TX1 4).2.1 (TX1 4).2.2.1 ∈ lw_tbl := List.mem_of_getElem? (i := 227) (by decide +kernel)
theorem gf_X1_29 {C : Cx} {cc : ByteArray} {nL : Nat} {rm : Room} {k n pc : Nat} {lv : List (Nat × Value)} {st : List Value} {ws : va_W} {a : Nat} {fs : List Value} {v : Value} (g : vG C cc RX1 nL rm) (hd : decode cc pc = .ok (.getfield 29, 3)) (q : Nat) (he : ws[q]? = some (a, .inr (1, fs))) (hv : fs[4]? = some v) (K : VJ C k n (pc + 3) lv (v :: st) ws) : VJ C k n pc lv (.ref a :: st) ws := v_get layX1 rfl 4 (by decide) fl_X1_29 rfl g hd q he hv K
theorem pf_X1_29 {C : Cx} {cc : ByteArray} {nL : Nat} {rm : Room} {k n pc : Nat} {lv : List (Nat × Value)} {st : List Value} {ws : va_W} {a : Nat} {fs : List Value} {x : Int32} (g : vG C cc RX1 nL rm) (hd : decode cc pc = .ok (.putfield 29, 3)) (q : Nat) (ws' : va_W) (he : ws[q]? = some (a, .inr (1, fs))) (hlen : 4 < fs.length) (hs : ws.set q (a, .inr (1, fs.set 4 (.int x))) = ws') (K : VJ C k n (pc + 3) lv st ws') : VJ C k n pc lv (.int x :: .ref a :: st) ws := v_put layX1 tyX1 tyX1_ok nmX1 rfl 4 (by decide) fl_X1_29 rfl rfl (ty := .int) (by decide +kernel) rfl rfl g hd q ws' he hlen hs K
theorem fl_X8_7 : Cond.fieldLink RX8 7 RX8 (TX8 1).2.1 (TX8 1).2.2.1 ∈ lw_tbl := List.mem_of_getElem? (i := 789) (by decide +kernel)
theorem gf_X8_7 {C : Cx} {cc : ByteArray} {nL : Nat} {rm : Room} {k n pc : Nat} {lv : List (Nat × Value)} {st : List Value} {ws : va_W} {a : Nat} {fs : List Value} {v : Value} (g : vG C cc RX8 nL rm) (hd : decode cc pc = .ok (.getfield 7, 3)) (q : Nat) (he : ws[q]? = some (a, .inr (8, fs))) (hv : fs[1]? = some v) (K : VJ C k n (pc + 3) lv (v :: st) ws) : VJ C k n pc lv (.ref a :: st) ws := v_get layX8 rfl 1 (by decide) fl_X8_7 rfl g hd q he hv K
theorem fl_X8_13 : Cond.fieldLink RX8 13 RX8 (TX8 3).2.1 (TX8 3).2.2.1 ∈ lw_tbl := List.mem_of_getElem? (i := 791) (by decide +kernel)
theorem gf_X8_13 {C : Cx} {cc : ByteArray} {nL : Nat} {rm : Room} {k n pc : Nat} {lv : List (Nat × Value)} {st : List Value} {ws : va_W} {a : Nat} {fs : List Value} {v : Value} (g : vG C cc RX8 nL rm) (hd : decode cc pc = .ok (.getfield 13, 3)) (q : Nat) (he : ws[q]? = some (a, .inr (8, fs))) (hv : fs[3]? = some v) (K : VJ C k n (pc + 3) lv (v :: st) ws) : VJ C k n pc lv (.ref a :: st) ws := v_get layX8 rfl 3 (by decide) fl_X8_13 rfl g hd q he hv K
theorem fl_X8_16 : Cond.fieldLink RX8 16 RX8 (TX8 5).2.1 (TX8 5).2.2.1 ∈ lw_tbl := List.mem_of_getElem? (i := 793) (by decide +kernel)
theorem gf_X8_16 {C : Cx} {cc : ByteArray} {nL : Nat} {rm : Room} {k n pc : Nat} {lv : List (Nat × Value)} {st : List Value} {ws : va_W} {a : Nat} {fs : List Value} {v : Value} (g : vG C cc RX8 nL rm) (hd : decode cc pc = .ok (.getfield 16, 3)) (q : Nat) (he : ws[q]? = some (a, .inr (8, fs))) (hv : fs[5]? = some v) (K : VJ C k n (pc + 3) lv (v :: st) ws) : VJ C k n pc lv (.ref a :: st) ws := v_get layX8 rfl 5 (by decide) fl_X8_16 rfl g hd q he hv K
theorem fl_X8_19 : Cond.fieldLink RX8 19 RX8 (TX8 6).2.1 (TX8 6).2.2.1 ∈ lw_tbl := List.mem_of_getElem? (i := 794) (by decide +kernel)
theorem gf_X8_19 {C : Cx} {cc : ByteArray} {nL : Nat} {rm : Room} {k n pc : Nat} {lv : List (Nat × Value)} {st : List Value} {ws : va_W} {a : Nat} {fs : List Value} {v : Value} (g : vG C cc RX8 nL rm) (hd : decode cc pc = .ok (.getfield 19, 3)) (q : Nat) (he : ws[q]? = some (a, .inr (8, fs))) (hv : fs[6]? = some v) (K : VJ C k n (pc + 3) lv (v :: st) ws) : VJ C k n pc lv (.ref a :: st) ws := v_get layX8 rfl 6 (by decide) fl_X8_19 rfl g hd q he hv K
theorem fl_X8_22 : Cond.fieldLink RX8 22 RX8 (TX8 7).2.1 (TX8 7).2.2.1 ∈ lw_tbl := List.mem_of_getElem? (i := 795) (by decide +kernel)
theorem gf_X8_22 {C : Cx} {cc : ByteArray} {nL : Nat} {rm : Room} {k n pc : Nat} {lv : List (Nat × Value)} {st : List Value} {ws : va_W} {a : Nat} {fs : List Value} {v : Value} (g : vG C cc RX8 nL rm) (hd : decode cc pc = .ok (.getfield 22, 3)) (q : Nat) (he : ws[q]? = some (a, .inr (8, fs))) (hv : fs[7]? = some v) (K : VJ C k n (pc + 3) lv (v :: st) ws) : VJ C k n pc lv (.ref a :: st) ws := v_get layX8 rfl 7 (by decide) fl_X8_22 rfl g hd q he hv K
theorem fl_X8_25 : Cond.fieldLink RX8 25 RX8 (TX8 8).2.1 (TX8 8).2.2.1 ∈ lw_tbl := List.mem_of_getElem? (i := 796) (by decide +kernel)
theorem gf_X8_25 {C : Cx} {cc : ByteArray} {nL : Nat} {rm : Room} {k n pc : Nat} {lv : List (Nat × Value)} {st : List Value} {ws : va_W} {a : Nat} {fs : List Value} {v : Value} (g : vG C cc RX8 nL rm) (hd : decode cc pc = .ok (.getfield 25, 3)) (q : Nat) (he : ws[q]? = some (a, .inr (8, fs))) (hv : fs[8]? = some v) (K : VJ C k n (pc + 3) lv (v :: st) ws) : VJ C k n pc lv (.ref a :: st) ws := v_get layX8 rfl 8 (by decide) fl_X8_25 rfl g hd q he hv K
theorem fl_X8_28 : Cond.fieldLink RX8 28 RX8 (TX8 9).2.1 (TX8 9).2.2.1 ∈ lw_tbl := List.mem_of_getElem? (i := 797) (by decide +kernel)
theorem gf_X8_28 {C : Cx} {cc : ByteArray} {nL : Nat} {rm : Room} {k n pc : Nat} {lv : List (Nat × Value)} {st : List Value} {ws : va_W} {a : Nat} {fs : List Value} {v : Value} (g : vG C cc RX8 nL rm) (hd : decode cc pc = .ok (.getfield 28, 3)) (q : Nat) (he : ws[q]? = some (a, .inr (8, fs))) (hv : fs[9]? = some v) (K : VJ C k n (pc + 3) lv (v :: st) ws) : VJ C k n pc lv (.ref a :: st) ws := v_get layX8 rfl 9 (by decide) fl_X8_28 rfl g hd q he hv K
theorem fl_X8_31 : Cond.fieldLink RX8 31 RX8 (TX8 10).2.1 (TX8 10).2.2.1 ∈ lw_tbl := List.mem_of_getElem? (i := 798) (by decide +kernel)
theorem gf_X8_31 {C : Cx} {cc : ByteArray} {nL : Nat} {rm : Room} {k n pc : Nat} {lv : List (Nat × Value)} {st : List Value} {ws : va_W} {a : Nat} {fs : List Value} {v : Value} (g : vG C cc RX8 nL rm) (hd : decode cc pc = .ok (.getfield 31, 3)) (q : Nat) (he : ws[q]? = some (a, .inr (8, fs))) (hv : fs[10]? = some v) (K : VJ C k n (pc + 3) lv (v :: st) ws) : VJ C k n pc lv (.ref a :: st) ws := v_get layX8 rfl 10 (by decide) fl_X8_31 rfl g hd q he hv K
theorem fl_X8_34 : Cond.fieldLink RX8 34 RX8 (TX8 11).2.1 (TX8 11).2.2.1 ∈ lw_tbl := List.mem_of_getElem? (i := 799) (by decide +kernel)
theorem gf_X8_34 {C : Cx} {cc : ByteArray} {nL : Nat} {rm : Room} {k n pc : Nat} {lv : List (Nat × Value)} {st : List Value} {ws : va_W} {a : Nat} {fs : List Value} {v : Value} (g : vG C cc RX8 nL rm) (hd : decode cc pc = .ok (.getfield 34, 3)) (q : Nat) (he : ws[q]? = some (a, .inr (8, fs))) (hv : fs[11]? = some v) (K : VJ C k n (pc + 3) lv (v :: st) ws) : VJ C k n pc lv (.ref a :: st) ws := v_get layX8 rfl 11 (by decide) fl_X8_34 rfl g hd q he hv K
theorem fl_X8_37 : Cond.fieldLink RX8 37 RX8 (TX8 12).2.1 (TX8 12).2.2.1 ∈ lw_tbl := List.mem_of_getElem? (i := 800) (by decide +kernel)
theorem gf_X8_37 {C : Cx} {cc : ByteArray} {nL : Nat} {rm : Room} {k n pc : Nat} {lv : List (Nat × Value)} {st : List Value} {ws : va_W} {a : Nat} {fs : List Value} {v : Value} (g : vG C cc RX8 nL rm) (hd : decode cc pc = .ok (.getfield 37, 3)) (q : Nat) (he : ws[q]? = some (a, .inr (8, fs))) (hv : fs[12]? = some v) (K : VJ C k n (pc + 3) lv (v :: st) ws) : VJ C k n pc lv (.ref a :: st) ws := v_get layX8 rfl 12 (by decide) fl_X8_37 rfl g hd q he hv K
theorem fl_X8_41 : Cond.fieldLink RX8 41 RX8 (TX8 13).2.1 (TX8 13).2.2.1 ∈ lw_tbl := List.mem_of_getElem? (i := 801) (by decide +kernel)
theorem gf_X8_41 {C : Cx} {cc : ByteArray} {nL : Nat} {rm : Room} {k n pc : Nat} {lv : List (Nat × Value)} {st : List Value} {ws : va_W} {a : Nat} {fs : List Value} {v : Value} (g : vG C cc RX8 nL rm) (hd : decode cc pc = .ok (.getfield 41, 3)) (q : Nat) (he : ws[q]? = some (a, .inr (8, fs))) (hv : fs[13]? = some v) (K : VJ C k n (pc + 3) lv (v :: st) ws) : VJ C k n pc lv (.ref a :: st) ws := v_get layX8 rfl 13 (by decide) fl_X8_41 rfl g hd q he hv K
theorem fl_X8_44 : Cond.fieldLink RX8 44 RX8 (TX8 14).2.1 (TX8 14).2.2.1 ∈ lw_tbl := List.mem_of_getElem? (i := 802) (by decide +kernel)
theorem gf_X8_44 {C : Cx} {cc : ByteArray} {nL : Nat} {rm : Room} {k n pc : Nat} {lv : List (Nat × Value)} {st : List Value} {ws : va_W} {a : Nat} {fs : List Value} {v : Value} (g : vG C cc RX8 nL rm) (hd : decode cc pc = .ok (.getfield 44, 3)) (q : Nat) (he : ws[q]? = some (a, .inr (8, fs))) (hv : fs[14]? = some v) (K : VJ C k n (pc + 3) lv (v :: st) ws) : VJ C k n pc lv (.ref a :: st) ws := v_get layX8 rfl 14 (by decide) fl_X8_44 rfl g hd q he hv K
theorem fl_X8_47 : Cond.fieldLink RX8 47 RX8 (TX8 15).2.1 (TX8 15).2.2.1 ∈ lw_tbl := List.mem_of_getElem? (i := 803) (by decide +kernel)
theorem gf_X8_47 {C : Cx} {cc : ByteArray} {nL : Nat} {rm : Room} {k n pc : Nat} {lv : List (Nat × Value)} {st : List Value} {ws : va_W} {a : Nat} {fs : List Value} {v : Value} (g : vG C cc RX8 nL rm) (hd : decode cc pc = .ok (.getfield 47, 3)) (q : Nat) (he : ws[q]? = some (a, .inr (8, fs))) (hv : fs[15]? = some v) (K : VJ C k n (pc + 3) lv (v :: st) ws) : VJ C k n pc lv (.ref a :: st) ws := v_get layX8 rfl 15 (by decide) fl_X8_47 rfl g hd q he hv K
theorem fl_X8_50 : Cond.fieldLink RX8 50 RX8 (TX8 16).2.1 (TX8 16).2.2.1 ∈ lw_tbl := List.mem_of_getElem? (i := 804) (by decide +kernel)
theorem gf_X8_50 {C : Cx} {cc : ByteArray} {nL : Nat} {rm : Room} {k n pc : Nat} {lv : List (Nat × Value)} {st : List Value} {ws : va_W} {a : Nat} {fs : List Value} {v : Value} (g : vG C cc RX8 nL rm) (hd : decode cc pc = .ok (.getfield 50, 3)) (q : Nat) (he : ws[q]? = some (a, .inr (8, fs))) (hv : fs[16]? = some v) (K : VJ C k n (pc + 3) lv (v :: st) ws) : VJ C k n pc lv (.ref a :: st) ws := v_get layX8 rfl 16 (by decide) fl_X8_50 rfl g hd q he hv K
theorem fl_X8_53 : Cond.fieldLink RX8 53 RX8 (TX8 17).2.1 (TX8 17).2.2.1 ∈ lw_tbl := List.mem_of_getElem? (i := 805) (by decide +kernel)
theorem gf_X8_53 {C : Cx} {cc : ByteArray} {nL : Nat} {rm : Room} {k n pc : Nat} {lv : List (Nat × Value)} {st : List Value} {ws : va_W} {a : Nat} {fs : List Value} {v : Value} (g : vG C cc RX8 nL rm) (hd : decode cc pc = .ok (.getfield 53, 3)) (q : Nat) (he : ws[q]? = some (a, .inr (8, fs))) (hv : fs[17]? = some v) (K : VJ C k n (pc + 3) lv (v :: st) ws) : VJ C k n pc lv (.ref a :: st) ws := v_get layX8 rfl 17 (by decide) fl_X8_53 rfl g hd q he hv K
theorem fl_X8_56 : Cond.fieldLink RX8 56 RX8 (TX8 18).2.1 (TX8 18).2.2.1 ∈ lw_tbl := List.mem_of_getElem? (i := 806) (by decide +kernel)
theorem gf_X8_56 {C : Cx} {cc : ByteArray} {nL : Nat} {rm : Room} {k n pc : Nat} {lv : List (Nat × Value)} {st : List Value} {ws : va_W} {a : Nat} {fs : List Value} {v : Value} (g : vG C cc RX8 nL rm) (hd : decode cc pc = .ok (.getfield 56, 3)) (q : Nat) (he : ws[q]? = some (a, .inr (8, fs))) (hv : fs[18]? = some v) (K : VJ C k n (pc + 3) lv (v :: st) ws) : VJ C k n pc lv (.ref a :: st) ws := v_get layX8 rfl 18 (by decide) fl_X8_56 rfl g hd q he hv K
theorem fl_X8_59 : Cond.fieldLink RX8 59 RX8 (TX8 19).2.1 (TX8 19).2.2.1 ∈ lw_tbl := List.mem_of_getElem? (i := 807) (by decide +kernel)
theorem gf_X8_59 {C : Cx} {cc : ByteArray} {nL : Nat} {rm : Room} {k n pc : Nat} {lv : List (Nat × Value)} {st : List Value} {ws : va_W} {a : Nat} {fs : List Value} {v : Value} (g : vG C cc RX8 nL rm) (hd : decode cc pc = .ok (.getfield 59, 3)) (q : Nat) (he : ws[q]? = some (a, .inr (8, fs))) (hv : fs[19]? = some v) (K : VJ C k n (pc + 3) lv (v :: st) ws) : VJ C k n pc lv (.ref a :: st) ws := v_get layX8 rfl 19 (by decide) fl_X8_59 rfl g hd q he hv K
theorem fl_X8_62 : Cond.fieldLink RX8 62 RX8 (TX8 20).2.1 (TX8 20).2.2.1 ∈ lw_tbl := List.mem_of_getElem? (i := 808) (by decide +kernel)
theorem gf_X8_62 {C : Cx} {cc : ByteArray} {nL : Nat} {rm : Room} {k n pc : Nat} {lv : List (Nat × Value)} {st : List Value} {ws : va_W} {a : Nat} {fs : List Value} {v : Value} (g : vG C cc RX8 nL rm) (hd : decode cc pc = .ok (.getfield 62, 3)) (q : Nat) (he : ws[q]? = some (a, .inr (8, fs))) (hv : fs[20]? = some v) (K : VJ C k n (pc + 3) lv (v :: st) ws) : VJ C k n pc lv (.ref a :: st) ws := v_get layX8 rfl 20 (by decide) fl_X8_62 rfl g hd q he hv K
theorem fl_X8_65 : Cond.fieldLink RX8 65 RX8 (TX8 21).2.1 (TX8 21).2.2.1 ∈ lw_tbl := List.mem_of_getElem? (i := 809) (by decide +kernel)
theorem gf_X8_65 {C : Cx} {cc : ByteArray} {nL : Nat} {rm : Room} {k n pc : Nat} {lv : List (Nat × Value)} {st : List Value} {ws : va_W} {a : Nat} {fs : List Value} {v : Value} (g : vG C cc RX8 nL rm) (hd : decode cc pc = .ok (.getfield 65, 3)) (q : Nat) (he : ws[q]? = some (a, .inr (8, fs))) (hv : fs[21]? = some v) (K : VJ C k n (pc + 3) lv (v :: st) ws) : VJ C k n pc lv (.ref a :: st) ws := v_get layX8 rfl 21 (by decide) fl_X8_65 rfl g hd q he hv K
theorem fl_X8_68 : Cond.fieldLink RX8 68 RX8 (TX8 22).2.1 (TX8 22).2.2.1 ∈ lw_tbl := List.mem_of_getElem? (i := 810) (by decide +kernel)
theorem gf_X8_68 {C : Cx} {cc : ByteArray} {nL : Nat} {rm : Room} {k n pc : Nat} {lv : List (Nat × Value)} {st : List Value} {ws : va_W} {a : Nat} {fs : List Value} {v : Value} (g : vG C cc RX8 nL rm) (hd : decode cc pc = .ok (.getfield 68, 3)) (q : Nat) (he : ws[q]? = some (a, .inr (8, fs))) (hv : fs[22]? = some v) (K : VJ C k n (pc + 3) lv (v :: st) ws) : VJ C k n pc lv (.ref a :: st) ws := v_get layX8 rfl 22 (by decide) fl_X8_68 rfl g hd q he hv K
theorem fl_X8_71 : Cond.fieldLink RX8 71 RX8 (TX8 24).2.1 (TX8 24).2.2.1 ∈ lw_tbl := List.mem_of_getElem? (i := 812) (by decide +kernel)
theorem gf_X8_71 {C : Cx} {cc : ByteArray} {nL : Nat} {rm : Room} {k n pc : Nat} {lv : List (Nat × Value)} {st : List Value} {ws : va_W} {a : Nat} {fs : List Value} {v : Value} (g : vG C cc RX8 nL rm) (hd : decode cc pc = .ok (.getfield 71, 3)) (q : Nat) (he : ws[q]? = some (a, .inr (8, fs))) (hv : fs[24]? = some v) (K : VJ C k n (pc + 3) lv (v :: st) ws) : VJ C k n pc lv (.ref a :: st) ws := v_get layX8 rfl 24 (by decide) fl_X8_71 rfl g hd q he hv K
theorem fl_X8_74 : Cond.fieldLink RX8 74 RX8 (TX8 26).2.1 (TX8 26).2.2.1 ∈ lw_tbl := List.mem_of_getElem? (i := 814) (by decide +kernel)
theorem gf_X8_74 {C : Cx} {cc : ByteArray} {nL : Nat} {rm : Room} {k n pc : Nat} {lv : List (Nat × Value)} {st : List Value} {ws : va_W} {a : Nat} {fs : List Value} {v : Value} (g : vG C cc RX8 nL rm) (hd : decode cc pc = .ok (.getfield 74, 3)) (q : Nat) (he : ws[q]? = some (a, .inr (8, fs))) (hv : fs[26]? = some v) (K : VJ C k n (pc + 3) lv (v :: st) ws) : VJ C k n pc lv (.ref a :: st) ws := v_get layX8 rfl 26 (by decide) fl_X8_74 rfl g hd q he hv K
theorem fl_X8_77 : Cond.fieldLink RX8 77 RX8 (TX8 27).2.1 (TX8 27).2.2.1 ∈ lw_tbl := List.mem_of_getElem? (i := 815) (by decide +kernel)
theorem gf_X8_77 {C : Cx} {cc : ByteArray} {nL : Nat} {rm : Room} {k n pc : Nat} {lv : List (Nat × Value)} {st : List Value} {ws : va_W} {a : Nat} {fs : List Value} {v : Value} (g : vG C cc RX8 nL rm) (hd : decode cc pc = .ok (.getfield 77, 3)) (q : Nat) (he : ws[q]? = some (a, .inr (8, fs))) (hv : fs[27]? = some v) (K : VJ C k n (pc + 3) lv (v :: st) ws) : VJ C k n pc lv (.ref a :: st) ws := v_get layX8 rfl 27 (by decide) fl_X8_77 rfl g hd q he hv K
theorem fl_X8_80 : Cond.fieldLink RX8 80 RX8 (TX8 28).2.1 (TX8 28).2.2.1 ∈ lw_tbl := List.mem_of_getElem? (i := 816) (by decide +kernel)
theorem gf_X8_80 {C : Cx} {cc : ByteArray} {nL : Nat} {rm : Room} {k n pc : Nat} {lv : List (Nat × Value)} {st : List Value} {ws : va_W} {a : Nat} {fs : List Value} {v : Value} (g : vG C cc RX8 nL rm) (hd : decode cc pc = .ok (.getfield 80, 3)) (q : Nat) (he : ws[q]? = some (a, .inr (8, fs))) (hv : fs[28]? = some v) (K : VJ C k n (pc + 3) lv (v :: st) ws) : VJ C k n pc lv (.ref a :: st) ws := v_get layX8 rfl 28 (by decide) fl_X8_80 rfl g hd q he hv K
theorem fl_X8_83 : Cond.fieldLink RX8 83 RX8 (TX8 29).2.1 (TX8 29).2.2.1 ∈ lw_tbl := List.mem_of_getElem? (i := 817) (by decide +kernel)
theorem gf_X8_83 {C : Cx} {cc : ByteArray} {nL : Nat} {rm : Room} {k n pc : Nat} {lv : List (Nat × Value)} {st : List Value} {ws : va_W} {a : Nat} {fs : List Value} {v : Value} (g : vG C cc RX8 nL rm) (hd : decode cc pc = .ok (.getfield 83, 3)) (q : Nat) (he : ws[q]? = some (a, .inr (8, fs))) (hv : fs[29]? = some v) (K : VJ C k n (pc + 3) lv (v :: st) ws) : VJ C k n pc lv (.ref a :: st) ws := v_get layX8 rfl 29 (by decide) fl_X8_83 rfl g hd q he hv K
theorem fl_X8_86 : Cond.fieldLink RX8 86 RX8 (TX8 30).2.1 (TX8 30).2.2.1 ∈ lw_tbl := List.mem_of_getElem? (i := 818) (by decide +kernel)
theorem gf_X8_86 {C : Cx} {cc : ByteArray} {nL : Nat} {rm : Room} {k n pc : Nat} {lv : List (Nat × Value)} {st : List Value} {ws : va_W} {a : Nat} {fs : List Value} {v : Value} (g : vG C cc RX8 nL rm) (hd : decode cc pc = .ok (.getfield 86, 3)) (q : Nat) (he : ws[q]? = some (a, .inr (8, fs))) (hv : fs[30]? = some v) (K : VJ C k n (pc + 3) lv (v :: st) ws) : VJ C k n pc lv (.ref a :: st) ws := v_get layX8 rfl 30 (by decide) fl_X8_86 rfl g hd q he hv K
theorem fl_X8_89 : Cond.fieldLink RX8 89 RX8 (TX8 31).2.1 (TX8 31).2.2.1 ∈ lw_tbl := List.mem_of_getElem? (i := 819) (by decide +kernel)
theorem gf_X8_89 {C : Cx} {cc : ByteArray} {nL : Nat} {rm : Room} {k n pc : Nat} {lv : List (Nat × Value)} {st : List Value} {ws : va_W} {a : Nat} {fs : List Value} {v : Value} (g : vG C cc RX8 nL rm) (hd : decode cc pc = .ok (.getfield 89, 3)) (q : Nat) (he : ws[q]? = some (a, .inr (8, fs))) (hv : fs[31]? = some v) (K : VJ C k n (pc + 3) lv (v :: st) ws) : VJ C k n pc lv (.ref a :: st) ws := v_get layX8 rfl 31 (by decide) fl_X8_89 rfl g hd q he hv K
theorem fl_X8_92 : Cond.fieldLink RX8 92 RX8 (TX8 32).2.1 (TX8 32).2.2.1 ∈ lw_tbl := List.mem_of_getElem? (i := 820) (by decide +kernel)
theorem gf_X8_92 {C : Cx} {cc : ByteArray} {nL : Nat} {rm : Room} {k n pc : Nat} {lv : List (Nat × Value)} {st : List Value} {ws : va_W} {a : Nat} {fs : List Value} {v : Value} (g : vG C cc RX8 nL rm) (hd : decode cc pc = .ok (.getfield 92, 3)) (q : Nat) (he : ws[q]? = some (a, .inr (8, fs))) (hv : fs[32]? = some v) (K : VJ C k n (pc + 3) lv (v :: st) ws) : VJ C k n pc lv (.ref a :: st) ws := v_get layX8 rfl 32 (by decide) fl_X8_92 rfl g hd q he hv K
theorem fl_X8_95 : Cond.fieldLink RX8 95 RX8 (TX8 33).2.1 (TX8 33).2.2.1 ∈ lw_tbl := List.mem_of_getElem? (i := 821) (by decide +kernel)
theorem gf_X8_95 {C : Cx} {cc : ByteArray} {nL : Nat} {rm : Room} {k n pc : Nat} {lv : List (Nat × Value)} {st : List Value} {ws : va_W} {a : Nat} {fs : List Value} {v : Value} (g : vG C cc RX8 nL rm) (hd : decode cc pc = .ok (.getfield 95, 3)) (q : Nat) (he : ws[q]? = some (a, .inr (8, fs))) (hv : fs[33]? = some v) (K : VJ C k n (pc + 3) lv (v :: st) ws) : VJ C k n pc lv (.ref a :: st) ws := v_get layX8 rfl 33 (by decide) fl_X8_95 rfl g hd q he hv K
theorem fl_X8_98 : Cond.fieldLink RX8 98 RX8 (TX8 34).2.1 (TX8 34).2.2.1 ∈ lw_tbl := List.mem_of_getElem? (i := 822) (by decide +kernel)
theorem gf_X8_98 {C : Cx} {cc : ByteArray} {nL : Nat} {rm : Room} {k n pc : Nat} {lv : List (Nat × Value)} {st : List Value} {ws : va_W} {a : Nat} {fs : List Value} {v : Value} (g : vG C cc RX8 nL rm) (hd : decode cc pc = .ok (.getfield 98, 3)) (q : Nat) (he : ws[q]? = some (a, .inr (8, fs))) (hv : fs[34]? = some v) (K : VJ C k n (pc + 3) lv (v :: st) ws) : VJ C k n pc lv (.ref a :: st) ws := v_get layX8 rfl 34 (by decide) fl_X8_98 rfl g hd q he hv K
theorem fl_X8_101 : Cond.fieldLink RX8 101 RX8 (TX8 35).2.1 (TX8 35).2.2.1 ∈ lw_tbl := List.mem_of_getElem? (i := 823) (by decide +kernel)
theorem gf_X8_101 {C : Cx} {cc : ByteArray} {nL : Nat} {rm : Room} {k n pc : Nat} {lv : List (Nat × Value)} {st : List Value} {ws : va_W} {a : Nat} {fs : List Value} {v : Value} (g : vG C cc RX8 nL rm) (hd : decode cc pc = .ok (.getfield 101, 3)) (q : Nat) (he : ws[q]? = some (a, .inr (8, fs))) (hv : fs[35]? = some v) (K : VJ C k n (pc + 3) lv (v :: st) ws) : VJ C k n pc lv (.ref a :: st) ws := v_get layX8 rfl 35 (by decide) fl_X8_101 rfl g hd q he hv K
theorem fl_X8_104 : Cond.fieldLink RX8 104 RX8 (TX8 36).2.1 (TX8 36).2.2.1 ∈ lw_tbl := List.mem_of_getElem? (i := 824) (by decide +kernel)
theorem gf_X8_104 {C : Cx} {cc : ByteArray} {nL : Nat} {rm : Room} {k n pc : Nat} {lv : List (Nat × Value)} {st : List Value} {ws : va_W} {a : Nat} {fs : List Value} {v : Value} (g : vG C cc RX8 nL rm) (hd : decode cc pc = .ok (.getfield 104, 3)) (q : Nat) (he : ws[q]? = some (a, .inr (8, fs))) (hv : fs[36]? = some v) (K : VJ C k n (pc + 3) lv (v :: st) ws) : VJ C k n pc lv (.ref a :: st) ws := v_get layX8 rfl 36 (by decide) fl_X8_104 rfl g hd q he hv K
theorem fl_X8_115 : Cond.fieldLink RX8 115 RX8 (TX8 0).2.1 (TX8 0).2.2.1 ∈ lw_tbl := List.mem_of_getElem? (i := 788) (by decide +kernel)
theorem gf_X8_115 {C : Cx} {cc : ByteArray} {nL : Nat} {rm : Room} {k n pc : Nat} {lv : List (Nat × Value)} {st : List Value} {ws : va_W} {a : Nat} {fs : List Value} {v : Value} (g : vG C cc RX8 nL rm) (hd : decode cc pc = .ok (.getfield 115, 3)) (q : Nat) (he : ws[q]? = some (a, .inr (8, fs))) (hv : fs[0]? = some v) (K : VJ C k n (pc + 3) lv (v :: st) ws) : VJ C k n pc lv (.ref a :: st) ws := v_get layX8 rfl 0 (by decide) fl_X8_115 rfl g hd q he hv K
theorem pf_X8_115 {C : Cx} {cc : ByteArray} {nL : Nat} {rm : Room} {k n pc : Nat} {lv : List (Nat × Value)} {st : List Value} {ws : va_W} {a : Nat} {fs : List Value} {x : Int32} (g : vG C cc RX8 nL rm) (hd : decode cc pc = .ok (.putfield 115, 3)) (q : Nat) (ws' : va_W) (he : ws[q]? = some (a, .inr (8, fs))) (hlen : 0 < fs.length) (hs : ws.set q (a, .inr (8, fs.set 0 (.int x))) = ws') (K : VJ C k n (pc + 3) lv st ws') : VJ C k n pc lv (.int x :: .ref a :: st) ws := v_put layX8 tyX8 tyX8_ok nmX8 rfl 0 (by decide) fl_X8_115 rfl rfl (ty := .int) (by decide +kernel) rfl rfl g hd q ws' he hlen hs K
theorem fl_X8_145 : Cond.fieldLink RX8 145 RX8 (TX8 23).2.1 (TX8 23).2.2.1 ∈ lw_tbl := List.mem_of_getElem? (i := 811) (by decide +kernel)
theorem gf_X8_145 {C : Cx} {cc : ByteArray} {nL : Nat} {rm : Room} {k n pc : Nat} {lv : List (Nat × Value)} {st : List Value} {ws : va_W} {a : Nat} {fs : List Value} {v : Value} (g : vG C cc RX8 nL rm) (hd : decode cc pc = .ok (.getfield 145, 3)) (q : Nat) (he : ws[q]? = some (a, .inr (8, fs))) (hv : fs[23]? = some v) (K : VJ C k n (pc + 3) lv (v :: st) ws) : VJ C k n pc lv (.ref a :: st) ws := v_get layX8 rfl 23 (by decide) fl_X8_145 rfl g hd q he hv K
theorem pf_X8_145 {C : Cx} {cc : ByteArray} {nL : Nat} {rm : Room} {k n pc : Nat} {lv : List (Nat × Value)} {st : List Value} {ws : va_W} {a : Nat} {fs : List Value} {x : Int32} (g : vG C cc RX8 nL rm) (hd : decode cc pc = .ok (.putfield 145, 3)) (q : Nat) (ws' : va_W) (he : ws[q]? = some (a, .inr (8, fs))) (hlen : 23 < fs.length) (hs : ws.set q (a, .inr (8, fs.set 23 (.int x))) = ws') (K : VJ C k n (pc + 3) lv st ws') : VJ C k n pc lv (.int x :: .ref a :: st) ws := v_put layX8 tyX8 tyX8_ok nmX8 rfl 23 (by decide) fl_X8_145 rfl rfl (ty := .int) (by decide +kernel) rfl rfl g hd q ws' he hlen hs K
theorem fl_X8_151 : Cond.fieldLink RX8 151 RX8 (TX8 25).2.1 (TX8 25).2.2.1 ∈ lw_tbl := List.mem_of_getElem? (i := 813) (by decide +kernel)
theorem gf_X8_151 {C : Cx} {cc : ByteArray} {nL : Nat} {rm : Room} {k n pc : Nat} {lv : List (Nat × Value)} {st : List Value} {ws : va_W} {a : Nat} {fs : List Value} {v : Value} (g : vG C cc RX8 nL rm) (hd : decode cc pc = .ok (.getfield 151, 3)) (q : Nat) (he : ws[q]? = some (a, .inr (8, fs))) (hv : fs[25]? = some v) (K : VJ C k n (pc + 3) lv (v :: st) ws) : VJ C k n pc lv (.ref a :: st) ws := v_get layX8 rfl 25 (by decide) fl_X8_151 rfl g hd q he hv K
theorem pf_X8_151 {C : Cx} {cc : ByteArray} {nL : Nat} {rm : Room} {k n pc : Nat} {lv : List (Nat × Value)} {st : List Value} {ws : va_W} {a : Nat} {fs : List Value} {x : Int32} (g : vG C cc RX8 nL rm) (hd : decode cc pc = .ok (.putfield 151, 3)) (q : Nat) (ws' : va_W) (he : ws[q]? = some (a, .inr (8, fs))) (hlen : 25 < fs.length) (hs : ws.set q (a, .inr (8, fs.set 25 (.int x))) = ws') (K : VJ C k n (pc + 3) lv st ws') : VJ C k n pc lv (.int x :: .ref a :: st) ws := v_put layX8 tyX8 tyX8_ok nmX8 rfl 25 (by decide) fl_X8_151 rfl rfl (ty := .int) (by decide +kernel) rfl rfl g hd q ws' he hlen hs K
theorem fl_X8_215 : Cond.fieldLink RX8 215 RX8 (TX8 2).2.1 (TX8 2).2.2.1 ∈ lw_tbl := List.mem_of_getElem? (i := 790) (by decide +kernel)
theorem gf_X8_215 {C : Cx} {cc : ByteArray} {nL : Nat} {rm : Room} {k n pc : Nat} {lv : List (Nat × Value)} {st : List Value} {ws : va_W} {a : Nat} {fs : List Value} {v : Value} (g : vG C cc RX8 nL rm) (hd : decode cc pc = .ok (.getfield 215, 3)) (q : Nat) (he : ws[q]? = some (a, .inr (8, fs))) (hv : fs[2]? = some v) (K : VJ C k n (pc + 3) lv (v :: st) ws) : VJ C k n pc lv (.ref a :: st) ws := v_get layX8 rfl 2 (by decide) fl_X8_215 rfl g hd q he hv K
theorem pf_X8_215 {C : Cx} {cc : ByteArray} {nL : Nat} {rm : Room} {k n pc : Nat} {lv : List (Nat × Value)} {st : List Value} {ws : va_W} {a : Nat} {fs : List Value} {x : Int32} (g : vG C cc RX8 nL rm) (hd : decode cc pc = .ok (.putfield 215, 3)) (q : Nat) (ws' : va_W) (he : ws[q]? = some (a, .inr (8, fs))) (hlen : 2 < fs.length) (hs : ws.set q (a, .inr (8, fs.set 2 (.int x))) = ws') (K : VJ C k n (pc + 3) lv st ws') : VJ C k n pc lv (.int x :: .ref a :: st) ws := v_put layX8 tyX8 tyX8_ok nmX8 rfl 2 (by decide) fl_X8_215 rfl rfl (ty := .int) (by decide +kernel) rfl rfl g hd q ws' he hlen hs K
theorem fl_X8_218 : Cond.fieldLink RX8 218 RX8 (TX8 4).2.1 (TX8 4).2.2.1 ∈ lw_tbl := List.mem_of_getElem? (i := 792) (by decide +kernel)
theorem gf_X8_218 {C : Cx} {cc : ByteArray} {nL : Nat} {rm : Room} {k n pc : Nat} {lv : List (Nat × Value)} {st : List Value} {ws : va_W} {a : Nat} {fs : List Value} {v : Value} (g : vG C cc RX8 nL rm) (hd : decode cc pc = .ok (.getfield 218, 3)) (q : Nat) (he : ws[q]? = some (a, .inr (8, fs))) (hv : fs[4]? = some v) (K : VJ C k n (pc + 3) lv (v :: st) ws) : VJ C k n pc lv (.ref a :: st) ws := v_get layX8 rfl 4 (by decide) fl_X8_218 rfl g hd q he hv K
theorem pf_X8_218 {C : Cx} {cc : ByteArray} {nL : Nat} {rm : Room} {k n pc : Nat} {lv : List (Nat × Value)} {st : List Value} {ws : va_W} {a : Nat} {fs : List Value} {x : Int32} (g : vG C cc RX8 nL rm) (hd : decode cc pc = .ok (.putfield 218, 3)) (q : Nat) (ws' : va_W) (he : ws[q]? = some (a, .inr (8, fs))) (hlen : 4 < fs.length) (hs : ws.set q (a, .inr (8, fs.set 4 (.int x))) = ws') (K : VJ C k n (pc + 3) lv st ws') : VJ C k n pc lv (.int x :: .ref a :: st) ws := v_put layX8 tyX8 tyX8_ok nmX8 rfl 4 (by decide) fl_X8_218 rfl rfl (ty := .int) (by decide +kernel) rfl rfl g hd q ws' he hlen hs K
theorem hy_X4_init : yX4_init.cls ≠ "java/lang/invoke/MethodHandle" ∧ yX4_init.cls ≠ "java/lang/invoke/VarHandle" ∧ (parseMethodDescriptor yX4_init.desc).map (fun d => d.parameters.length) = some 1 := by decide +kernel
set_option maxRecDepth 100000 in
theorem cw_X7_11 : GoodIn lw_tbl [.methodLink RX7 11 yX4_init, .instanceMethod yX4_init, .initialized yX4_init.cls, .code yX4_init cX4_init 2 none] := gi_r [75, 76, 44, 77] rfl rfl
theorem hy_X2_init : yX2_init.cls ≠ "java/lang/invoke/MethodHandle" ∧ yX2_init.cls ≠ "java/lang/invoke/VarHandle" ∧ (parseMethodDescriptor yX2_init.desc).map (fun d => d.parameters.length) = some 1 := by decide +kernel
set_option maxRecDepth 100000 in
theorem cw_X7_43 : GoodIn lw_tbl [.methodLink RX7 43 yX2_init, .instanceMethod yX2_init, .initialized yX2_init.cls, .code yX2_init cX2_init 2 none] := gi_r [121, 122, 46, 123] rfl rfl
theorem hy_X5_init : yX5_init.cls ≠ "java/lang/invoke/MethodHandle" ∧ yX5_init.cls ≠ "java/lang/invoke/VarHandle" ∧ (parseMethodDescriptor yX5_init.desc).map (fun d => d.parameters.length) = some 2 := by decide +kernel
set_option maxRecDepth 100000 in
theorem cw_X7_66 : GoodIn lw_tbl [.methodLink RX7 66 yX5_init, .instanceMethod yX5_init, .initialized yX5_init.cls, .code yX5_init cX5_init 3 none] := gi_r [189, 190, 49, 191] rfl rfl
theorem hy_X4_add : yX4_add.cls ≠ "java/lang/invoke/MethodHandle" ∧ yX4_add.cls ≠ "java/lang/invoke/VarHandle" ∧ (parseMethodDescriptor yX4_add.desc).map (fun d => d.parameters.length) = some 1 := by decide +kernel
set_option maxRecDepth 100000 in
theorem cw_X7_90 : GoodIn lw_tbl (wsV RX7 90 yX4_add.cls yX4_add [.code yX4_add cX4_add 2 none]) := gi_r [402, 403, 404, 44, 405] rfl rfl
theorem hy_X7_needSlot : yX7_needSlot.cls ≠ "java/lang/invoke/MethodHandle" ∧ yX7_needSlot.cls ≠ "java/lang/invoke/VarHandle" ∧ (parseMethodDescriptor yX7_needSlot.desc).map (fun d => d.parameters.length) = some 1 := by decide +kernel
set_option maxRecDepth 100000 in
theorem cw_X7_93 : GoodIn lw_tbl (va_wsS RX7 93 yX7_needSlot [.code yX7_needSlot cX7_needSlot 1 none]) := gi_r [413, 414, 43, 415] rfl rfl
theorem hy_X4_copy : yX4_copy.cls ≠ "java/lang/invoke/MethodHandle" ∧ yX4_copy.cls ≠ "java/lang/invoke/VarHandle" ∧ (parseMethodDescriptor yX4_copy.desc).map (fun d => d.parameters.length) = some 1 := by decide +kernel
set_option maxRecDepth 100000 in
theorem cw_X7_98 : GoodIn lw_tbl (wsV RX7 98 yX4_copy.cls yX4_copy [.code yX4_copy cX4_copy 2 none]) := gi_r [418, 419, 420, 44, 421] rfl rfl
theorem hy_X0_start : yX0_start.cls ≠ "java/lang/invoke/MethodHandle" ∧ yX0_start.cls ≠ "java/lang/invoke/VarHandle" ∧ (parseMethodDescriptor yX0_start.desc).map (fun d => d.parameters.length) = some 0 := by decide +kernel
set_option maxRecDepth 100000 in
theorem cw_X7_102 : GoodIn lw_tbl (wsV RX7 102 yX0_start.cls yX0_start [.code yX0_start cX0_start 1 none]) := gi_r [279, 280, 281, 45, 282] rfl rfl
theorem hy_X0_put : yX0_put.cls ≠ "java/lang/invoke/MethodHandle" ∧ yX0_put.cls ≠ "java/lang/invoke/VarHandle" ∧ (parseMethodDescriptor yX0_put.desc).map (fun d => d.parameters.length) = some 3 := by decide +kernel
set_option maxRecDepth 100000 in
theorem cw_X7_109 : GoodIn lw_tbl (wsV RX7 109 yX0_put.cls yX0_put [.code yX0_put cX0_put 5 none]) := gi_r [288, 289, 290, 45, 291] rfl rfl
theorem hy_X0_finish : yX0_finish.cls ≠ "java/lang/invoke/MethodHandle" ∧ yX0_finish.cls ≠ "java/lang/invoke/VarHandle" ∧ (parseMethodDescriptor yX0_finish.desc).map (fun d => d.parameters.length) = some 1 := by decide +kernel
set_option maxRecDepth 100000 in
theorem cw_X7_113 : GoodIn lw_tbl (wsV RX7 113 yX0_finish.cls yX0_finish [.code yX0_finish cX0_finish 3 none]) := gi_r [301, 302, 303, 45, 304] rfl rfl
theorem hy_X2_makeMac : yX2_makeMac.cls ≠ "java/lang/invoke/MethodHandle" ∧ yX2_makeMac.cls ≠ "java/lang/invoke/VarHandle" ∧ (parseMethodDescriptor yX2_makeMac.desc).map (fun d => d.parameters.length) = some 3 := by decide +kernel
set_option maxRecDepth 100000 in
theorem cw_X7_117 : GoodIn lw_tbl (wsV RX7 117 yX2_makeMac.cls yX2_makeMac [.code yX2_makeMac cX2_makeMac 4 none]) := gi_r [433, 434, 435, 46, 436] rfl rfl
theorem hy_X7_needMadeSize : yX7_needMadeSize.cls ≠ "java/lang/invoke/MethodHandle" ∧ yX7_needMadeSize.cls ≠ "java/lang/invoke/VarHandle" ∧ (parseMethodDescriptor yX7_needMadeSize.desc).map (fun d => d.parameters.length) = some 1 := by decide +kernel
set_option maxRecDepth 100000 in
theorem cw_X7_121 : GoodIn lw_tbl (va_wsS RX7 121 yX7_needMadeSize [.code yX7_needMadeSize cX7_needMadeSize 1 none]) := gi_r [460, 461, 43, 462] rfl rfl
theorem hy_X2_makeStretch : yX2_makeStretch.cls ≠ "java/lang/invoke/MethodHandle" ∧ yX2_makeStretch.cls ≠ "java/lang/invoke/VarHandle" ∧ (parseMethodDescriptor yX2_makeStretch.desc).map (fun d => d.parameters.length) = some 4 := by decide +kernel
set_option maxRecDepth 100000 in
theorem cw_X7_124 : GoodIn lw_tbl (wsV RX7 124 yX2_makeStretch.cls yX2_makeStretch [.code yX2_makeStretch cX2_makeStretch 8 none]) := gi_r [464, 465, 466, 46, 467] rfl rfl
theorem hy_X2_makeLabel : yX2_makeLabel.cls ≠ "java/lang/invoke/MethodHandle" ∧ yX2_makeLabel.cls ≠ "java/lang/invoke/VarHandle" ∧ (parseMethodDescriptor yX2_makeLabel.desc).map (fun d => d.parameters.length) = some 5 := by decide +kernel
set_option maxRecDepth 100000 in
theorem cw_X7_132 : GoodIn lw_tbl (wsV RX7 132 yX2_makeLabel.cls yX2_makeLabel [.code yX2_makeLabel cX2_makeLabel 8 none]) := gi_r [478, 479, 480, 46, 481] rfl rfl
theorem hy_X7_needKey : yX7_needKey.cls ≠ "java/lang/invoke/MethodHandle" ∧ yX7_needKey.cls ≠ "java/lang/invoke/VarHandle" ∧ (parseMethodDescriptor yX7_needKey.desc).map (fun d => d.parameters.length) = some 1 := by decide +kernel
set_option maxRecDepth 100000 in
theorem cw_X7_136 : GoodIn lw_tbl (wsV RX7 136 yX7_needKey.cls yX7_needKey [.code yX7_needKey cX7_needKey 2 none]) := gi_r [553, 555, 6, 43, 556] rfl rfl
theorem hy_X3_make : yX3_make.cls ≠ "java/lang/invoke/MethodHandle" ∧ yX3_make.cls ≠ "java/lang/invoke/VarHandle" ∧ (parseMethodDescriptor yX3_make.desc).map (fun d => d.parameters.length) = some 3 := by decide +kernel
set_option maxRecDepth 100000 in
theorem cw_X7_141 : GoodIn lw_tbl (wsV RX7 141 yX3_make.cls yX3_make [.code yX3_make cX3_make 5 none]) := gi_r [559, 560, 561, 47, 562] rfl rfl
theorem hy_X6_start : yX6_start.cls ≠ "java/lang/invoke/MethodHandle" ∧ yX6_start.cls ≠ "java/lang/invoke/VarHandle" ∧ (parseMethodDescriptor yX6_start.desc).map (fun d => d.parameters.length) = some 1 := by decide +kernel
set_option maxRecDepth 100000 in
theorem cw_X7_152 : GoodIn lw_tbl (wsV RX7 152 yX6_start.cls yX6_start [.code yX6_start cX6_start 3 none]) := gi_r [591, 592, 593, 48, 594] rfl rfl
theorem hy_X6_put : yX6_put.cls ≠ "java/lang/invoke/MethodHandle" ∧ yX6_put.cls ≠ "java/lang/invoke/VarHandle" ∧ (parseMethodDescriptor yX6_put.desc).map (fun d => d.parameters.length) = some 4 := by decide +kernel
set_option maxRecDepth 100000 in
theorem cw_X7_154 : GoodIn lw_tbl (wsV RX7 154 yX6_put.cls yX6_put [.code yX6_put cX6_put 8 none]) := gi_r [603, 604, 605, 48, 606] rfl rfl
theorem hy_X6_finish : yX6_finish.cls ≠ "java/lang/invoke/MethodHandle" ∧ yX6_finish.cls ≠ "java/lang/invoke/VarHandle" ∧ (parseMethodDescriptor yX6_finish.desc).map (fun d => d.parameters.length) = some 1 := by decide +kernel
set_option maxRecDepth 100000 in
theorem cw_X7_157 : GoodIn lw_tbl (wsV RX7 157 yX6_finish.cls yX6_finish [.code yX6_finish cX6_finish 7 none]) := gi_r [618, 619, 620, 48, 621] rfl rfl
theorem hy_X7_needGuard : yX7_needGuard.cls ≠ "java/lang/invoke/MethodHandle" ∧ yX7_needGuard.cls ≠ "java/lang/invoke/VarHandle" ∧ (parseMethodDescriptor yX7_needGuard.desc).map (fun d => d.parameters.length) = some 1 := by decide +kernel
set_option maxRecDepth 100000 in
theorem cw_X7_158 : GoodIn lw_tbl (va_wsS RX7 158 yX7_needGuard [.code yX7_needGuard cX7_needGuard 1 none]) := gi_r [635, 636, 43, 637] rfl rfl
theorem hy_X7_renewKeys : yX7_renewKeys.cls ≠ "java/lang/invoke/MethodHandle" ∧ yX7_renewKeys.cls ≠ "java/lang/invoke/VarHandle" ∧ (parseMethodDescriptor yX7_renewKeys.desc).map (fun d => d.parameters.length) = some 1 := by decide +kernel
set_option maxRecDepth 100000 in
theorem cw_X7_170 : GoodIn lw_tbl (wsV RX7 170 yX7_renewKeys.cls yX7_renewKeys [.code yX7_renewKeys cX7_renewKeys 2 none]) := gi_r [639, 641, 13, 43, 642] rfl rfl
theorem hy_X7_needArmed : yX7_needArmed.cls ≠ "java/lang/invoke/MethodHandle" ∧ yX7_needArmed.cls ≠ "java/lang/invoke/VarHandle" ∧ (parseMethodDescriptor yX7_needArmed.desc).map (fun d => d.parameters.length) = some 1 := by decide +kernel
set_option maxRecDepth 100000 in
theorem cw_X7_174 : GoodIn lw_tbl (wsV RX7 174 yX7_needArmed.cls yX7_needArmed [.code yX7_needArmed cX7_needArmed 2 none]) := gi_r [650, 652, 14, 43, 653] rfl rfl
theorem hy_X7_needNumber : yX7_needNumber.cls ≠ "java/lang/invoke/MethodHandle" ∧ yX7_needNumber.cls ≠ "java/lang/invoke/VarHandle" ∧ (parseMethodDescriptor yX7_needNumber.desc).map (fun d => d.parameters.length) = some 1 := by decide +kernel
set_option maxRecDepth 100000 in
theorem cw_X7_177 : GoodIn lw_tbl (va_wsS RX7 177 yX7_needNumber [.code yX7_needNumber cX7_needNumber 2 none]) := gi_r [662, 663, 43, 664] rfl rfl
theorem hy_X5_sealText : yX5_sealText.cls ≠ "java/lang/invoke/MethodHandle" ∧ yX5_sealText.cls ≠ "java/lang/invoke/VarHandle" ∧ (parseMethodDescriptor yX5_sealText.desc).map (fun d => d.parameters.length) = some 5 := by decide +kernel
set_option maxRecDepth 100000 in
theorem cw_X7_183 : GoodIn lw_tbl (wsV RX7 183 yX5_sealText.cls yX5_sealText [.code yX5_sealText cX5_sealText 7 none]) := gi_r [667, 668, 669, 49, 670] rfl rfl
theorem hy_X5_openText : yX5_openText.cls ≠ "java/lang/invoke/MethodHandle" ∧ yX5_openText.cls ≠ "java/lang/invoke/VarHandle" ∧ (parseMethodDescriptor yX5_openText.desc).map (fun d => d.parameters.length) = some 5 := by decide +kernel
set_option maxRecDepth 100000 in
theorem cw_X7_189 : GoodIn lw_tbl (wsV RX7 189 yX5_openText.cls yX5_openText [.code yX5_openText cX5_openText 8 (some .boolean)]) := gi_r [699, 700, 701, 49, 702] rfl rfl
theorem hy_X5_hideNumber : yX5_hideNumber.cls ≠ "java/lang/invoke/MethodHandle" ∧ yX5_hideNumber.cls ≠ "java/lang/invoke/VarHandle" ∧ (parseMethodDescriptor yX5_hideNumber.desc).map (fun d => d.parameters.length) = some 4 := by decide +kernel
set_option maxRecDepth 100000 in
theorem cw_X7_195 : GoodIn lw_tbl (wsV RX7 195 yX5_hideNumber.cls yX5_hideNumber [.code yX5_hideNumber cX5_hideNumber 12 (some .int)]) := gi_r [715, 716, 717, 49, 718] rfl rfl
theorem hy_X7_needOutByte : yX7_needOutByte.cls ≠ "java/lang/invoke/MethodHandle" ∧ yX7_needOutByte.cls ≠ "java/lang/invoke/VarHandle" ∧ (parseMethodDescriptor yX7_needOutByte.desc).map (fun d => d.parameters.length) = some 1 := by decide +kernel
set_option maxRecDepth 100000 in
theorem cw_X7_199 : GoodIn lw_tbl (wsV RX7 199 yX7_needOutByte.cls yX7_needOutByte [.code yX7_needOutByte cX7_needOutByte 2 none]) := gi_r [728, 730, 19, 43, 731] rfl rfl
theorem hy_J9_min : yJ9_min.cls ≠ "java/lang/invoke/MethodHandle" ∧ yJ9_min.cls ≠ "java/lang/invoke/VarHandle" ∧ (parseMethodDescriptor yJ9_min.desc).map (fun d => d.parameters.length) = some 2 := by decide +kernel
set_option maxRecDepth 100000 in
theorem cw_X7_202 : GoodIn lw_tbl (va_wsS RX7 202 yJ9_min [.code yJ9_min cJ9_min 2 (some .int)]) := gi_r [755, 423, 57, 424] rfl rfl
set_option maxRecDepth 100000 in
theorem cw_X4_17 : GoodIn lw_tbl (va_wsS RX4 17 yJ9_min [.code yJ9_min cJ9_min 2 (some .int)]) := gi_r [422, 423, 57, 424] rfl rfl
theorem hy_X0_mixBlock : yX0_mixBlock.cls ≠ "java/lang/invoke/MethodHandle" ∧ yX0_mixBlock.cls ≠ "java/lang/invoke/VarHandle" ∧ (parseMethodDescriptor yX0_mixBlock.desc).map (fun d => d.parameters.length) = some 0 := by decide +kernel
set_option maxRecDepth 100000 in
theorem cw_X0_37 : GoodIn lw_tbl (wsV RX0 37 yX0_mixBlock.cls yX0_mixBlock [.code yX0_mixBlock cX0_mixBlock 12 none]) := gi_r [292, 294, 0, 45, 295] rfl rfl
theorem hy_X0_clearPending : yX0_clearPending.cls ≠ "java/lang/invoke/MethodHandle" ∧ yX0_clearPending.cls ≠ "java/lang/invoke/VarHandle" ∧ (parseMethodDescriptor yX0_clearPending.desc).map (fun d => d.parameters.length) = some 1 := by decide +kernel
set_option maxRecDepth 100000 in
theorem cw_X0_40 : GoodIn lw_tbl (wsV RX0 40 yX0_clearPending.cls yX0_clearPending [.code yX0_clearPending cX0_clearPending 3 none]) := gi_r [305, 307, 1, 45, 308] rfl rfl
theorem hy_J6_rotateRight : yJ6_rotateRight.cls ≠ "java/lang/invoke/MethodHandle" ∧ yJ6_rotateRight.cls ≠ "java/lang/invoke/VarHandle" ∧ (parseMethodDescriptor yJ6_rotateRight.desc).map (fun d => d.parameters.length) = some 2 := by decide +kernel
set_option maxRecDepth 100000 in
theorem cw_X0_46 : GoodIn lw_tbl (va_wsS RX0 46 yJ6_rotateRight [.code yJ6_rotateRight cJ6_rotateRight 2 (some .int)]) := gi_r [296, 297, 59, 298] rfl rfl
set_option maxRecDepth 100000 in
theorem cw_X2_28 : GoodIn lw_tbl [.methodLink RX2 28 yX4_init, .instanceMethod yX4_init, .initialized yX4_init.cls, .code yX4_init cX4_init 2 none] := gi_r [126, 76, 44, 77] rfl rfl
theorem hy_X2_setKey : yX2_setKey.cls ≠ "java/lang/invoke/MethodHandle" ∧ yX2_setKey.cls ≠ "java/lang/invoke/VarHandle" ∧ (parseMethodDescriptor yX2_setKey.desc).map (fun d => d.parameters.length) = some 1 := by decide +kernel
set_option maxRecDepth 100000 in
theorem cw_X2_39 : GoodIn lw_tbl (wsV RX2 39 yX2_setKey.cls yX2_setKey [.code yX2_setKey cX2_setKey 4 none]) := gi_r [437, 439, 3, 46, 440] rfl rfl
theorem hy_X2_startMac : yX2_startMac.cls ≠ "java/lang/invoke/MethodHandle" ∧ yX2_startMac.cls ≠ "java/lang/invoke/VarHandle" ∧ (parseMethodDescriptor yX2_startMac.desc).map (fun d => d.parameters.length) = some 0 := by decide +kernel
set_option maxRecDepth 100000 in
theorem cw_X2_43 : GoodIn lw_tbl (wsV RX2 43 yX2_startMac.cls yX2_startMac [.code yX2_startMac cX2_startMac 1 none]) := gi_r [445, 447, 4, 46, 448] rfl rfl
set_option maxRecDepth 100000 in
theorem cw_X2_53 : GoodIn lw_tbl (wsV RX2 53 yX0_put.cls yX0_put [.code yX0_put cX0_put 5 none]) := gi_r [442, 289, 290, 45, 291] rfl rfl
theorem hy_X2_finishMac : yX2_finishMac.cls ≠ "java/lang/invoke/MethodHandle" ∧ yX2_finishMac.cls ≠ "java/lang/invoke/VarHandle" ∧ (parseMethodDescriptor yX2_finishMac.desc).map (fun d => d.parameters.length) = some 1 := by decide +kernel
set_option maxRecDepth 100000 in
theorem cw_X2_57 : GoodIn lw_tbl (wsV RX2 57 yX2_finishMac.cls yX2_finishMac [.code yX2_finishMac cX2_finishMac 2 none]) := gi_r [449, 451, 5, 46, 452] rfl rfl
set_option maxRecDepth 100000 in
theorem cw_X2_61 : GoodIn lw_tbl (va_wsS RX2 61 yJ9_min [.code yJ9_min cJ9_min 2 (some .int)]) := gi_r [468, 423, 57, 424] rfl rfl
theorem hy_X2_labelText : yX2_labelText.cls ≠ "java/lang/invoke/MethodHandle" ∧ yX2_labelText.cls ≠ "java/lang/invoke/VarHandle" ∧ (parseMethodDescriptor yX2_labelText.desc).map (fun d => d.parameters.length) = some 1 := by decide +kernel
set_option maxRecDepth 100000 in
theorem cw_X2_73 : GoodIn lw_tbl (va_wsS RX2 73 yX2_labelText [.code yX2_labelText cX2_labelText 1 (some (.object "java/lang/String"))]) := gi_r [482, 483, 46, 484] rfl rfl
set_option maxRecDepth 100000 in
theorem cw_X2_77 : GoodIn lw_tbl (wsV RX2 77 yX4_add.cls yX4_add [.code yX4_add cX4_add 2 none]) := gi_r [496, 403, 404, 44, 405] rfl rfl
theorem hy_J0_length : yJ0_length.cls ≠ "java/lang/invoke/MethodHandle" ∧ yJ0_length.cls ≠ "java/lang/invoke/VarHandle" ∧ (parseMethodDescriptor yJ0_length.desc).map (fun d => d.parameters.length) = some 0 := by decide +kernel
set_option maxRecDepth 100000 in
theorem cw_X2_80 : GoodIn lw_tbl (wsV RX2 80 yJ0_length.cls yJ0_length [.code yJ0_length cJ0_length 1 (some .int)]) := gi_r [497, 498, 499, 60, 500] rfl rfl
theorem hy_J0_charAt : yJ0_charAt.cls ≠ "java/lang/invoke/MethodHandle" ∧ yJ0_charAt.cls ≠ "java/lang/invoke/VarHandle" ∧ (parseMethodDescriptor yJ0_charAt.desc).map (fun d => d.parameters.length) = some 1 := by decide +kernel
set_option maxRecDepth 100000 in
theorem cw_X2_86 : GoodIn lw_tbl (wsV RX2 86 yJ0_charAt.cls yJ0_charAt [.code yJ0_charAt cJ0_charAt 2 (some .char)]) := gi_r [507, 508, 509, 60, 510] rfl rfl
set_option maxRecDepth 100000 in
theorem cw_X2_90 : GoodIn lw_tbl (wsV RX2 90 yX2_makeStretch.cls yX2_makeStretch [.code yX2_makeStretch cX2_makeStretch 8 none]) := gi_r [545, 465, 466, 46, 467] rfl rfl
set_option maxRecDepth 100000 in
theorem cw_X2_94 : GoodIn lw_tbl (wsV RX2 94 yX0_start.cls yX0_start [.code yX0_start cX0_start 1 none]) := gi_r [441, 280, 281, 45, 282] rfl rfl
set_option maxRecDepth 100000 in
theorem cw_X2_97 : GoodIn lw_tbl (wsV RX2 97 yX0_finish.cls yX0_finish [.code yX0_finish cX0_finish 3 none]) := gi_r [443, 302, 303, 45, 304] rfl rfl
theorem hy_X7_readWord : yX7_readWord.cls ≠ "java/lang/invoke/MethodHandle" ∧ yX7_readWord.cls ≠ "java/lang/invoke/VarHandle" ∧ (parseMethodDescriptor yX7_readWord.desc).map (fun d => d.parameters.length) = some 2 := by decide +kernel
set_option maxRecDepth 100000 in
theorem cw_X3_29 : GoodIn lw_tbl [.static yX7_readWord, .initialized yX7_readWord.cls, .code yX7_readWord cX7_readWord 2 (some .int)] := gi_r [567, 43, 568] rfl rfl
theorem cl_X3_29 : Cond.methodLinkNest RX3 29 yX7_readWord "SealBox" ∈ lw_tbl := List.mem_of_getElem? (i := 566) (by decide +kernel)
theorem hy_X3_mixAll : yX3_mixAll.cls ≠ "java/lang/invoke/MethodHandle" ∧ yX3_mixAll.cls ≠ "java/lang/invoke/VarHandle" ∧ (parseMethodDescriptor yX3_mixAll.desc).map (fun d => d.parameters.length) = some 0 := by decide +kernel
set_option maxRecDepth 100000 in
theorem cw_X3_35 : GoodIn lw_tbl (wsV RX3 35 yX3_mixAll.cls yX3_mixAll [.code yX3_mixAll cX3_mixAll 1 none]) := gi_r [569, 571, 7, 47, 572] rfl rfl
theorem hy_X7_writeBytes : yX7_writeBytes.cls ≠ "java/lang/invoke/MethodHandle" ∧ yX7_writeBytes.cls ≠ "java/lang/invoke/VarHandle" ∧ (parseMethodDescriptor yX7_writeBytes.desc).map (fun d => d.parameters.length) = some 4 := by decide +kernel
set_option maxRecDepth 100000 in
theorem cw_X3_38 : GoodIn lw_tbl [.static yX7_writeBytes, .initialized yX7_writeBytes.cls, .code yX7_writeBytes cX7_writeBytes 6 none] := gi_r [581, 43, 582] rfl rfl
theorem cl_X3_38 : Cond.methodLinkNest RX3 38 yX7_writeBytes "SealBox" ∈ lw_tbl := List.mem_of_getElem? (i := 580) (by decide +kernel)
theorem hy_X3_mix : yX3_mix.cls ≠ "java/lang/invoke/MethodHandle" ∧ yX3_mix.cls ≠ "java/lang/invoke/VarHandle" ∧ (parseMethodDescriptor yX3_mix.desc).map (fun d => d.parameters.length) = some 4 := by decide +kernel
set_option maxRecDepth 100000 in
theorem cw_X3_42 : GoodIn lw_tbl (wsV RX3 42 yX3_mix.cls yX3_mix [.code yX3_mix cX3_mix 5 none]) := gi_r [573, 575, 8, 47, 576] rfl rfl
theorem hy_J6_rotateLeft : yJ6_rotateLeft.cls ≠ "java/lang/invoke/MethodHandle" ∧ yJ6_rotateLeft.cls ≠ "java/lang/invoke/VarHandle" ∧ (parseMethodDescriptor yJ6_rotateLeft.desc).map (fun d => d.parameters.length) = some 2 := by decide +kernel
set_option maxRecDepth 100000 in
theorem cw_X3_46 : GoodIn lw_tbl (va_wsS RX3 46 yJ6_rotateLeft [.code yJ6_rotateLeft cJ6_rotateLeft 2 (some .int)]) := gi_r [577, 578, 59, 579] rfl rfl
theorem hy_X6_readLimb : yX6_readLimb.cls ≠ "java/lang/invoke/MethodHandle" ∧ yX6_readLimb.cls ≠ "java/lang/invoke/VarHandle" ∧ (parseMethodDescriptor yX6_readLimb.desc).map (fun d => d.parameters.length) = some 1 := by decide +kernel
set_option maxRecDepth 100000 in
theorem cw_X6_34 : GoodIn lw_tbl (wsV RX6 34 yX6_readLimb.cls yX6_readLimb [.code yX6_readLimb cX6_readLimb 3 (some .int)]) := gi_r [596, 598, 9, 48, 599] rfl rfl
set_option maxRecDepth 100000 in
theorem cw_X6_38 : GoodIn lw_tbl [.static yX7_readWord, .initialized yX7_readWord.cls, .code yX7_readWord cX7_readWord 2 (some .int)] := gi_r [567, 43, 568] rfl rfl
theorem cl_X6_38 : Cond.methodLinkNest RX6 38 yX7_readWord "SealBox" ∈ lw_tbl := List.mem_of_getElem? (i := 600) (by decide +kernel)
set_option maxRecDepth 100000 in
theorem cw_X6_44 : GoodIn lw_tbl (va_wsS RX6 44 yJ9_min [.code yJ9_min cJ9_min 2 (some .int)]) := gi_r [607, 423, 57, 424] rfl rfl
theorem hy_X6_addPiece : yX6_addPiece.cls ≠ "java/lang/invoke/MethodHandle" ∧ yX6_addPiece.cls ≠ "java/lang/invoke/VarHandle" ∧ (parseMethodDescriptor yX6_addPiece.desc).map (fun d => d.parameters.length) = some 0 := by decide +kernel
set_option maxRecDepth 100000 in
theorem cw_X6_50 : GoodIn lw_tbl (wsV RX6 50 yX6_addPiece.cls yX6_addPiece [.code yX6_addPiece cX6_addPiece 4 none]) := gi_r [608, 610, 10, 48, 611] rfl rfl
theorem hy_X6_carry : yX6_carry.cls ≠ "java/lang/invoke/MethodHandle" ∧ yX6_carry.cls ≠ "java/lang/invoke/VarHandle" ∧ (parseMethodDescriptor yX6_carry.desc).map (fun d => d.parameters.length) = some 0 := by decide +kernel
set_option maxRecDepth 100000 in
theorem cw_X6_53 : GoodIn lw_tbl (wsV RX6 53 yX6_carry.cls yX6_carry [.code yX6_carry cX6_carry 4 none]) := gi_r [613, 615, 11, 48, 616] rfl rfl
theorem hy_X6_reduce : yX6_reduce.cls ≠ "java/lang/invoke/MethodHandle" ∧ yX6_reduce.cls ≠ "java/lang/invoke/VarHandle" ∧ (parseMethodDescriptor yX6_reduce.desc).map (fun d => d.parameters.length) = some 0 := by decide +kernel
set_option maxRecDepth 100000 in
theorem cw_X6_56 : GoodIn lw_tbl (wsV RX6 56 yX6_reduce.cls yX6_reduce [.code yX6_reduce cX6_reduce 3 none]) := gi_r [622, 624, 12, 48, 625] rfl rfl
set_option maxRecDepth 100000 in
theorem cw_X6_59 : GoodIn lw_tbl [.static yX7_writeBytes, .initialized yX7_writeBytes.cls, .code yX7_writeBytes cX7_writeBytes 6 none] := gi_r [581, 43, 582] rfl rfl
theorem cl_X6_59 : Cond.methodLinkNest RX6 59 yX7_writeBytes "SealBox" ∈ lw_tbl := List.mem_of_getElem? (i := 627) (by decide +kernel)
theorem hy_X5_setNonce : yX5_setNonce.cls ≠ "java/lang/invoke/MethodHandle" ∧ yX5_setNonce.cls ≠ "java/lang/invoke/VarHandle" ∧ (parseMethodDescriptor yX5_setNonce.desc).map (fun d => d.parameters.length) = some 2 := by decide +kernel
set_option maxRecDepth 100000 in
theorem cw_X5_29 : GoodIn lw_tbl (wsV RX5 29 yX5_setNonce.cls yX5_setNonce [.code yX5_setNonce cX5_setNonce 5 none]) := gi_r [671, 673, 15, 49, 674] rfl rfl
set_option maxRecDepth 100000 in
theorem cw_X5_33 : GoodIn lw_tbl (wsV RX5 33 yX4_copy.cls yX4_copy [.code yX4_copy cX4_copy 2 none]) := gi_r [676, 419, 420, 44, 421] rfl rfl
theorem hy_X5_cover : yX5_cover.cls ≠ "java/lang/invoke/MethodHandle" ∧ yX5_cover.cls ≠ "java/lang/invoke/VarHandle" ∧ (parseMethodDescriptor yX5_cover.desc).map (fun d => d.parameters.length) = some 3 := by decide +kernel
set_option maxRecDepth 100000 in
theorem cw_X5_39 : GoodIn lw_tbl (wsV RX5 39 yX5_cover.cls yX5_cover [.code yX5_cover cX5_cover 8 none]) := gi_r [677, 679, 16, 49, 680] rfl rfl
theorem hy_X5_makeTally : yX5_makeTally.cls ≠ "java/lang/invoke/MethodHandle" ∧ yX5_makeTally.cls ≠ "java/lang/invoke/VarHandle" ∧ (parseMethodDescriptor yX5_makeTally.desc).map (fun d => d.parameters.length) = some 4 := by decide +kernel
set_option maxRecDepth 100000 in
theorem cw_X5_50 : GoodIn lw_tbl (wsV RX5 50 yX5_makeTally.cls yX5_makeTally [.code yX5_makeTally cX5_makeTally 5 none]) := gi_r [683, 685, 17, 49, 686] rfl rfl
theorem hy_X5_tallyStandsAt : yX5_tallyStandsAt.cls ≠ "java/lang/invoke/MethodHandle" ∧ yX5_tallyStandsAt.cls ≠ "java/lang/invoke/VarHandle" ∧ (parseMethodDescriptor yX5_tallyStandsAt.desc).map (fun d => d.parameters.length) = some 2 := by decide +kernel
set_option maxRecDepth 100000 in
theorem cw_X5_60 : GoodIn lw_tbl (wsV RX5 60 yX5_tallyStandsAt.cls yX5_tallyStandsAt [.code yX5_tallyStandsAt cX5_tallyStandsAt 5 (some .boolean)]) := gi_r [703, 705, 18, 49, 706] rfl rfl
set_option maxRecDepth 100000 in
theorem cw_X5_70 : GoodIn lw_tbl [.static yX7_readWord, .initialized yX7_readWord.cls, .code yX7_readWord cX7_readWord 2 (some .int)] := gi_r [567, 43, 568] rfl rfl
theorem cl_X5_70 : Cond.methodLinkNest RX5 70 yX7_readWord "SealBox" ∈ lw_tbl := List.mem_of_getElem? (i := 719) (by decide +kernel)
set_option maxRecDepth 100000 in
theorem cw_X5_74 : GoodIn lw_tbl (wsV RX5 74 yX3_make.cls yX3_make [.code yX3_make cX3_make 5 none]) := gi_r [681, 560, 561, 47, 562] rfl rfl
set_option maxRecDepth 100000 in
theorem cw_X5_87 : GoodIn lw_tbl (va_wsS RX5 87 yJ9_min [.code yJ9_min cJ9_min 2 (some .int)]) := gi_r [682, 423, 57, 424] rfl rfl
set_option maxRecDepth 100000 in
theorem cw_X5_93 : GoodIn lw_tbl (wsV RX5 93 yX6_start.cls yX6_start [.code yX6_start cX6_start 3 none]) := gi_r [687, 592, 593, 48, 594] rfl rfl
set_option maxRecDepth 100000 in
theorem cw_X5_99 : GoodIn lw_tbl (wsV RX5 99 yX6_put.cls yX6_put [.code yX6_put cX6_put 8 none]) := gi_r [688, 604, 605, 48, 606] rfl rfl
set_option maxRecDepth 100000 in
theorem cw_X5_103 : GoodIn lw_tbl [.static yX7_writeBytes, .initialized yX7_writeBytes.cls, .code yX7_writeBytes cX7_writeBytes 6 none] := gi_r [581, 43, 582] rfl rfl
theorem cl_X5_103 : Cond.methodLinkNest RX5 103 yX7_writeBytes "SealBox" ∈ lw_tbl := List.mem_of_getElem? (i := 689) (by decide +kernel)
set_option maxRecDepth 100000 in
theorem cw_X5_107 : GoodIn lw_tbl (wsV RX5 107 yX6_finish.cls yX6_finish [.code yX6_finish cX6_finish 7 none]) := gi_r [690, 619, 620, 48, 621] rfl rfl
set_option maxRecDepth 100000 in
theorem cw_X1_11 : GoodIn lw_tbl [.methodLink RX1 11 yX4_init, .instanceMethod yX4_init, .initialized yX4_init.cls, .code yX4_init cX4_init 2 none] := gi_r [215, 76, 44, 77] rfl rfl
theorem hy_X7_feed : yX7_feed.cls ≠ "java/lang/invoke/MethodHandle" ∧ yX7_feed.cls ≠ "java/lang/invoke/VarHandle" ∧ (parseMethodDescriptor yX7_feed.desc).map (fun d => d.parameters.length) = some 2 := by decide +kernel
set_option maxRecDepth 100000 in
theorem cw_L_7 : GoodIn lw_tbl (wsV RL 7 yX7_feed.cls yX7_feed [.code yX7_feed cX7_feed 5 (some .int)]) := gi_r [315, 316, 317, 43, 318] rfl rfl
theorem hy_X7_keep : yX7_keep.cls ≠ "java/lang/invoke/MethodHandle" ∧ yX7_keep.cls ≠ "java/lang/invoke/VarHandle" ∧ (parseMethodDescriptor yX7_keep.desc).map (fun d => d.parameters.length) = some 2 := by decide +kernel
set_option maxRecDepth 100000 in
theorem cw_L_17 : GoodIn lw_tbl (wsV RL 17 yX7_keep.cls yX7_keep [.code yX7_keep cX7_keep 4 (some .int)]) := gi_r [409, 410, 411, 43, 412] rfl rfl
theorem hy_X7_mac : yX7_mac.cls ≠ "java/lang/invoke/MethodHandle" ∧ yX7_mac.cls ≠ "java/lang/invoke/VarHandle" ∧ (parseMethodDescriptor yX7_mac.desc).map (fun d => d.parameters.length) = some 1 := by decide +kernel
set_option maxRecDepth 100000 in
theorem cw_L_21 : GoodIn lw_tbl (wsV RL 21 yX7_mac.cls yX7_mac [.code yX7_mac cX7_mac 2 none]) := gi_r [429, 430, 431, 43, 432] rfl rfl
theorem hy_X7_stretch : yX7_stretch.cls ≠ "java/lang/invoke/MethodHandle" ∧ yX7_stretch.cls ≠ "java/lang/invoke/VarHandle" ∧ (parseMethodDescriptor yX7_stretch.desc).map (fun d => d.parameters.length) = some 2 := by decide +kernel
set_option maxRecDepth 100000 in
theorem cw_L_25 : GoodIn lw_tbl (wsV RL 25 yX7_stretch.cls yX7_stretch [.code yX7_stretch cX7_stretch 3 none]) := gi_r [456, 457, 458, 43, 459] rfl rfl
theorem hy_X7_label : yX7_label.cls ≠ "java/lang/invoke/MethodHandle" ∧ yX7_label.cls ≠ "java/lang/invoke/VarHandle" ∧ (parseMethodDescriptor yX7_label.desc).map (fun d => d.parameters.length) = some 3 := by decide +kernel
set_option maxRecDepth 100000 in
theorem cw_L_29 : GoodIn lw_tbl (wsV RL 29 yX7_label.cls yX7_label [.code yX7_label cX7_label 4 none]) := gi_r [472, 473, 474, 43, 475] rfl rfl
theorem hy_X7_block : yX7_block.cls ≠ "java/lang/invoke/MethodHandle" ∧ yX7_block.cls ≠ "java/lang/invoke/VarHandle" ∧ (parseMethodDescriptor yX7_block.desc).map (fun d => d.parameters.length) = some 2 := by decide +kernel
set_option maxRecDepth 100000 in
theorem cw_L_33 : GoodIn lw_tbl (wsV RL 33 yX7_block.cls yX7_block [.code yX7_block cX7_block 3 none]) := gi_r [549, 550, 551, 43, 552] rfl rfl
theorem hy_X7_tally : yX7_tally.cls ≠ "java/lang/invoke/MethodHandle" ∧ yX7_tally.cls ≠ "java/lang/invoke/VarHandle" ∧ (parseMethodDescriptor yX7_tally.desc).map (fun d => d.parameters.length) = some 1 := by decide +kernel
set_option maxRecDepth 100000 in
theorem cw_L_36 : GoodIn lw_tbl (wsV RL 36 yX7_tally.cls yX7_tally [.code yX7_tally cX7_tally 2 none]) := gi_r [587, 588, 589, 43, 590] rfl rfl
theorem hy_X7_arm : yX7_arm.cls ≠ "java/lang/invoke/MethodHandle" ∧ yX7_arm.cls ≠ "java/lang/invoke/VarHandle" ∧ (parseMethodDescriptor yX7_arm.desc).map (fun d => d.parameters.length) = some 2 := by decide +kernel
set_option maxRecDepth 100000 in
theorem cw_L_39 : GoodIn lw_tbl (wsV RL 39 yX7_arm.cls yX7_arm [.code yX7_arm cX7_arm 4 none]) := gi_r [631, 632, 633, 43, 634] rfl rfl
theorem hy_X7_turn : yX7_turn.cls ≠ "java/lang/invoke/MethodHandle" ∧ yX7_turn.cls ≠ "java/lang/invoke/VarHandle" ∧ (parseMethodDescriptor yX7_turn.desc).map (fun d => d.parameters.length) = some 1 := by decide +kernel
set_option maxRecDepth 100000 in
theorem cw_L_42 : GoodIn lw_tbl (wsV RL 42 yX7_turn.cls yX7_turn [.code yX7_turn cX7_turn 3 (some .int)]) := gi_r [646, 647, 648, 43, 649] rfl rfl
theorem hy_X7_seal : yX7_seal.cls ≠ "java/lang/invoke/MethodHandle" ∧ yX7_seal.cls ≠ "java/lang/invoke/VarHandle" ∧ (parseMethodDescriptor yX7_seal.desc).map (fun d => d.parameters.length) = some 3 := by decide +kernel
set_option maxRecDepth 100000 in
theorem cw_L_46 : GoodIn lw_tbl (wsV RL 46 yX7_seal.cls yX7_seal [.code yX7_seal cX7_seal 5 (some .int)]) := gi_r [658, 659, 660, 43, 661] rfl rfl
theorem hy_X7_open : yX7_open.cls ≠ "java/lang/invoke/MethodHandle" ∧ yX7_open.cls ≠ "java/lang/invoke/VarHandle" ∧ (parseMethodDescriptor yX7_open.desc).map (fun d => d.parameters.length) = some 3 := by decide +kernel
set_option maxRecDepth 100000 in
theorem cw_L_50 : GoodIn lw_tbl (wsV RL 50 yX7_open.cls yX7_open [.code yX7_open cX7_open 6 (some .int)]) := gi_r [694, 695, 696, 43, 697] rfl rfl
theorem hy_X7_shield : yX7_shield.cls ≠ "java/lang/invoke/MethodHandle" ∧ yX7_shield.cls ≠ "java/lang/invoke/VarHandle" ∧ (parseMethodDescriptor yX7_shield.desc).map (fun d => d.parameters.length) = some 3 := by decide +kernel
set_option maxRecDepth 100000 in
theorem cw_L_53 : GoodIn lw_tbl (wsV RL 53 yX7_shield.cls yX7_shield [.code yX7_shield cX7_shield 4 (some .int)]) := gi_r [710, 711, 712, 43, 713] rfl rfl
theorem hy_X7_out : yX7_out.cls ≠ "java/lang/invoke/MethodHandle" ∧ yX7_out.cls ≠ "java/lang/invoke/VarHandle" ∧ (parseMethodDescriptor yX7_out.desc).map (fun d => d.parameters.length) = some 1 := by decide +kernel
set_option maxRecDepth 100000 in
theorem cw_L_57 : GoodIn lw_tbl (wsV RL 57 yX7_out.cls yX7_out [.code yX7_out cX7_out 2 (some .int)]) := gi_r [724, 725, 726, 43, 727] rfl rfl
theorem hy_X7_outs : yX7_outs.cls ≠ "java/lang/invoke/MethodHandle" ∧ yX7_outs.cls ≠ "java/lang/invoke/VarHandle" ∧ (parseMethodDescriptor yX7_outs.desc).map (fun d => d.parameters.length) = some 1 := by decide +kernel
set_option maxRecDepth 100000 in
theorem cw_L_62 : GoodIn lw_tbl (wsV RL 62 yX7_outs.cls yX7_outs [.code yX7_outs cX7_outs 6 (some .long)]) := gi_r [751, 752, 753, 43, 754] rfl rfl
theorem hy_X7_look : yX7_look.cls ≠ "java/lang/invoke/MethodHandle" ∧ yX7_look.cls ≠ "java/lang/invoke/VarHandle" ∧ (parseMethodDescriptor yX7_look.desc).map (fun d => d.parameters.length) = some 1 := by decide +kernel
set_option maxRecDepth 100000 in
theorem cw_L_66 : GoodIn lw_tbl (wsV RL 66 yX7_look.cls yX7_look [.code yX7_look cX7_look 2 (some .int)]) := gi_r [760, 761, 762, 43, 763] rfl rfl
theorem hy_X7_init : yX7_init.cls ≠ "java/lang/invoke/MethodHandle" ∧ yX7_init.cls ≠ "java/lang/invoke/VarHandle" ∧ (parseMethodDescriptor yX7_init.desc).map (fun d => d.parameters.length) = some 0 := by decide +kernel
set_option maxRecDepth 100000 in
theorem cw_L_69 : GoodIn lw_tbl [.methodLink RL 69 yX7_init, .instanceMethod yX7_init, .initialized yX7_init.cls, .code yX7_init cX7_init 2 none] := gi_r [67, 68, 43, 69] rfl rfl
theorem hy_X8_init : yX8_init.cls ≠ "java/lang/invoke/MethodHandle" ∧ yX8_init.cls ≠ "java/lang/invoke/VarHandle" ∧ (parseMethodDescriptor yX8_init.desc).map (fun d => d.parameters.length) = some 0 := by decide +kernel
set_option maxRecDepth 100000 in
theorem cw_L_72 : GoodIn lw_tbl [.methodLink RL 72 yX8_init, .instanceMethod yX8_init, .initialized yX8_init.cls, .code yX8_init cX8_init 3 none] := gi_r [767, 768, 51, 769] rfl rfl
theorem hy_X8_feed : yX8_feed.cls ≠ "java/lang/invoke/MethodHandle" ∧ yX8_feed.cls ≠ "java/lang/invoke/VarHandle" ∧ (parseMethodDescriptor yX8_feed.desc).map (fun d => d.parameters.length) = some 2 := by decide +kernel
set_option maxRecDepth 100000 in
theorem cw_L_80 : GoodIn lw_tbl (wsV RL 80 yX8_feed.cls yX8_feed [.code yX8_feed cX8_feed 5 (some .int)]) := gi_r [904, 905, 906, 51, 907] rfl rfl
theorem hy_X8_thrown : yX8_thrown.cls ≠ "java/lang/invoke/MethodHandle" ∧ yX8_thrown.cls ≠ "java/lang/invoke/VarHandle" ∧ (parseMethodDescriptor yX8_thrown.desc).map (fun d => d.parameters.length) = some 0 := by decide +kernel
set_option maxRecDepth 100000 in
theorem cw_L_81 : GoodIn lw_tbl (wsV RL 81 yX8_thrown.cls yX8_thrown [.code yX8_thrown cX8_thrown 1 (some .int)]) := gi_r [900, 901, 902, 51, 903] rfl rfl
theorem hy_X7_wipe : yX7_wipe.cls ≠ "java/lang/invoke/MethodHandle" ∧ yX7_wipe.cls ≠ "java/lang/invoke/VarHandle" ∧ (parseMethodDescriptor yX7_wipe.desc).map (fun d => d.parameters.length) = some 0 := by decide +kernel
set_option maxRecDepth 100000 in
theorem cw_L_85 : GoodIn lw_tbl (wsV RL 85 yX7_wipe.cls yX7_wipe [.code yX7_wipe cX7_wipe 2 (some .int)]) := gi_r [271, 272, 273, 43, 274] rfl rfl
theorem hy_X8_wipe : yX8_wipe.cls ≠ "java/lang/invoke/MethodHandle" ∧ yX8_wipe.cls ≠ "java/lang/invoke/VarHandle" ∧ (parseMethodDescriptor yX8_wipe.desc).map (fun d => d.parameters.length) = some 0 := by decide +kernel
set_option maxRecDepth 100000 in
theorem cw_L_88 : GoodIn lw_tbl (wsV RL 88 yX8_wipe.cls yX8_wipe [.code yX8_wipe cX8_wipe 2 (some .int)]) := gi_r [913, 914, 915, 51, 916] rfl rfl
theorem hy_X8_keep : yX8_keep.cls ≠ "java/lang/invoke/MethodHandle" ∧ yX8_keep.cls ≠ "java/lang/invoke/VarHandle" ∧ (parseMethodDescriptor yX8_keep.desc).map (fun d => d.parameters.length) = some 2 := by decide +kernel
set_option maxRecDepth 100000 in
theorem cw_L_92 : GoodIn lw_tbl (wsV RL 92 yX8_keep.cls yX8_keep [.code yX8_keep cX8_keep 5 (some .int)]) := gi_r [917, 918, 919, 51, 920] rfl rfl
theorem hy_X7_digest : yX7_digest.cls ≠ "java/lang/invoke/MethodHandle" ∧ yX7_digest.cls ≠ "java/lang/invoke/VarHandle" ∧ (parseMethodDescriptor yX7_digest.desc).map (fun d => d.parameters.length) = some 0 := by decide +kernel
set_option maxRecDepth 100000 in
theorem cw_L_93 : GoodIn lw_tbl (wsV RL 93 yX7_digest.cls yX7_digest [.code yX7_digest cX7_digest 1 none]) := gi_r [275, 276, 277, 43, 278] rfl rfl
theorem hy_X8_digest : yX8_digest.cls ≠ "java/lang/invoke/MethodHandle" ∧ yX8_digest.cls ≠ "java/lang/invoke/VarHandle" ∧ (parseMethodDescriptor yX8_digest.desc).map (fun d => d.parameters.length) = some 0 := by decide +kernel
set_option maxRecDepth 100000 in
theorem cw_L_96 : GoodIn lw_tbl (wsV RL 96 yX8_digest.cls yX8_digest [.code yX8_digest cX8_digest 2 none]) := gi_r [924, 925, 926, 51, 927] rfl rfl
theorem hy_X8_mac : yX8_mac.cls ≠ "java/lang/invoke/MethodHandle" ∧ yX8_mac.cls ≠ "java/lang/invoke/VarHandle" ∧ (parseMethodDescriptor yX8_mac.desc).map (fun d => d.parameters.length) = some 1 := by decide +kernel
set_option maxRecDepth 100000 in
theorem cw_L_100 : GoodIn lw_tbl (wsV RL 100 yX8_mac.cls yX8_mac [.code yX8_mac cX8_mac 3 none]) := gi_r [944, 945, 946, 51, 947] rfl rfl
theorem hy_X8_stretch : yX8_stretch.cls ≠ "java/lang/invoke/MethodHandle" ∧ yX8_stretch.cls ≠ "java/lang/invoke/VarHandle" ∧ (parseMethodDescriptor yX8_stretch.desc).map (fun d => d.parameters.length) = some 2 := by decide +kernel
set_option maxRecDepth 100000 in
theorem cw_L_104 : GoodIn lw_tbl (wsV RL 104 yX8_stretch.cls yX8_stretch [.code yX8_stretch cX8_stretch 4 none]) := gi_r [956, 957, 958, 51, 959] rfl rfl
theorem hy_X8_label : yX8_label.cls ≠ "java/lang/invoke/MethodHandle" ∧ yX8_label.cls ≠ "java/lang/invoke/VarHandle" ∧ (parseMethodDescriptor yX8_label.desc).map (fun d => d.parameters.length) = some 3 := by decide +kernel
set_option maxRecDepth 100000 in
theorem cw_L_108 : GoodIn lw_tbl (wsV RL 108 yX8_label.cls yX8_label [.code yX8_label cX8_label 4 none]) := gi_r [968, 969, 970, 51, 971] rfl rfl
theorem hy_X8_block : yX8_block.cls ≠ "java/lang/invoke/MethodHandle" ∧ yX8_block.cls ≠ "java/lang/invoke/VarHandle" ∧ (parseMethodDescriptor yX8_block.desc).map (fun d => d.parameters.length) = some 2 := by decide +kernel
set_option maxRecDepth 100000 in
theorem cw_L_111 : GoodIn lw_tbl (wsV RL 111 yX8_block.cls yX8_block [.code yX8_block cX8_block 4 none]) := gi_r [994, 995, 996, 51, 997] rfl rfl
theorem hy_X8_tally : yX8_tally.cls ≠ "java/lang/invoke/MethodHandle" ∧ yX8_tally.cls ≠ "java/lang/invoke/VarHandle" ∧ (parseMethodDescriptor yX8_tally.desc).map (fun d => d.parameters.length) = some 1 := by decide +kernel
set_option maxRecDepth 100000 in
theorem cw_L_114 : GoodIn lw_tbl (wsV RL 114 yX8_tally.cls yX8_tally [.code yX8_tally cX8_tally 3 none]) := gi_r [1020, 1021, 1022, 51, 1023] rfl rfl
theorem hy_X8_arm : yX8_arm.cls ≠ "java/lang/invoke/MethodHandle" ∧ yX8_arm.cls ≠ "java/lang/invoke/VarHandle" ∧ (parseMethodDescriptor yX8_arm.desc).map (fun d => d.parameters.length) = some 2 := by decide +kernel
set_option maxRecDepth 100000 in
theorem cw_L_117 : GoodIn lw_tbl (wsV RL 117 yX8_arm.cls yX8_arm [.code yX8_arm cX8_arm 4 none]) := gi_r [1032, 1033, 1034, 51, 1035] rfl rfl
theorem hy_X8_turn : yX8_turn.cls ≠ "java/lang/invoke/MethodHandle" ∧ yX8_turn.cls ≠ "java/lang/invoke/VarHandle" ∧ (parseMethodDescriptor yX8_turn.desc).map (fun d => d.parameters.length) = some 1 := by decide +kernel
set_option maxRecDepth 100000 in
theorem cw_L_121 : GoodIn lw_tbl (wsV RL 121 yX8_turn.cls yX8_turn [.code yX8_turn cX8_turn 3 (some .int)]) := gi_r [1040, 1041, 1042, 51, 1043] rfl rfl
theorem hy_X8_seal : yX8_seal.cls ≠ "java/lang/invoke/MethodHandle" ∧ yX8_seal.cls ≠ "java/lang/invoke/VarHandle" ∧ (parseMethodDescriptor yX8_seal.desc).map (fun d => d.parameters.length) = some 3 := by decide +kernel
set_option maxRecDepth 100000 in
theorem cw_L_125 : GoodIn lw_tbl (wsV RL 125 yX8_seal.cls yX8_seal [.code yX8_seal cX8_seal 7 (some .int)]) := gi_r [1044, 1045, 1046, 51, 1047] rfl rfl
theorem hy_X8_open : yX8_open.cls ≠ "java/lang/invoke/MethodHandle" ∧ yX8_open.cls ≠ "java/lang/invoke/VarHandle" ∧ (parseMethodDescriptor yX8_open.desc).map (fun d => d.parameters.length) = some 3 := by decide +kernel
set_option maxRecDepth 100000 in
theorem cw_L_128 : GoodIn lw_tbl (wsV RL 128 yX8_open.cls yX8_open [.code yX8_open cX8_open 8 (some .int)]) := gi_r [1060, 1061, 1062, 51, 1063] rfl rfl
theorem hy_X8_shield : yX8_shield.cls ≠ "java/lang/invoke/MethodHandle" ∧ yX8_shield.cls ≠ "java/lang/invoke/VarHandle" ∧ (parseMethodDescriptor yX8_shield.desc).map (fun d => d.parameters.length) = some 3 := by decide +kernel
set_option maxRecDepth 100000 in
theorem cw_L_132 : GoodIn lw_tbl (wsV RL 132 yX8_shield.cls yX8_shield [.code yX8_shield cX8_shield 7 (some .int)]) := gi_r [1064, 1065, 1066, 51, 1067] rfl rfl
theorem hy_X8_out : yX8_out.cls ≠ "java/lang/invoke/MethodHandle" ∧ yX8_out.cls ≠ "java/lang/invoke/VarHandle" ∧ (parseMethodDescriptor yX8_out.desc).map (fun d => d.parameters.length) = some 1 := by decide +kernel
set_option maxRecDepth 100000 in
theorem cw_L_135 : GoodIn lw_tbl (wsV RL 135 yX8_out.cls yX8_out [.code yX8_out cX8_out 2 (some .int)]) := gi_r [1068, 1069, 1070, 51, 1071] rfl rfl
theorem hy_X8_outs : yX8_outs.cls ≠ "java/lang/invoke/MethodHandle" ∧ yX8_outs.cls ≠ "java/lang/invoke/VarHandle" ∧ (parseMethodDescriptor yX8_outs.desc).map (fun d => d.parameters.length) = some 1 := by decide +kernel
set_option maxRecDepth 100000 in
theorem cw_L_138 : GoodIn lw_tbl (wsV RL 138 yX8_outs.cls yX8_outs [.code yX8_outs cX8_outs 5 (some .long)]) := gi_r [1072, 1073, 1074, 51, 1075] rfl rfl
theorem hy_X8_look : yX8_look.cls ≠ "java/lang/invoke/MethodHandle" ∧ yX8_look.cls ≠ "java/lang/invoke/VarHandle" ∧ (parseMethodDescriptor yX8_look.desc).map (fun d => d.parameters.length) = some 1 := by decide +kernel
set_option maxRecDepth 100000 in
theorem cw_L_141 : GoodIn lw_tbl (wsV RL 141 yX8_look.cls yX8_look [.code yX8_look cX8_look 2 (some .int)]) := gi_r [1076, 1077, 1078, 51, 1079] rfl rfl
theorem hy_J0_coder : yJ0_coder.cls ≠ "java/lang/invoke/MethodHandle" ∧ yJ0_coder.cls ≠ "java/lang/invoke/VarHandle" ∧ (parseMethodDescriptor yJ0_coder.desc).map (fun d => d.parameters.length) = some 0 := by decide +kernel
set_option maxRecDepth 100000 in
theorem cw_J0_335 : GoodIn lw_tbl (wsV RJ0 335 yJ0_coder.cls yJ0_coder [.code yJ0_coder cJ0_coder 1 (some .byte)]) := gi_r [501, 502, 503, 60, 504] rfl rfl
theorem hy_J0_isLatin1 : yJ0_isLatin1.cls ≠ "java/lang/invoke/MethodHandle" ∧ yJ0_isLatin1.cls ≠ "java/lang/invoke/VarHandle" ∧ (parseMethodDescriptor yJ0_isLatin1.desc).map (fun d => d.parameters.length) = some 0 := by decide +kernel
set_option maxRecDepth 100000 in
theorem cw_J0_492 : GoodIn lw_tbl (wsV RJ0 492 yJ0_isLatin1.cls yJ0_isLatin1 [.code yJ0_isLatin1 cJ0_isLatin1 1 (some .boolean)]) := gi_r [511, 512, 513, 60, 514] rfl rfl
theorem hy_J1_charAt : yJ1_charAt.cls ≠ "java/lang/invoke/MethodHandle" ∧ yJ1_charAt.cls ≠ "java/lang/invoke/VarHandle" ∧ (parseMethodDescriptor yJ1_charAt.desc).map (fun d => d.parameters.length) = some 2 := by decide +kernel
set_option maxRecDepth 100000 in
theorem cw_J0_495 : GoodIn lw_tbl (va_wsS RJ0 495 yJ1_charAt [.code yJ1_charAt cJ1_charAt 2 (some .char)]) := gi_r [515, 516, 61, 517] rfl rfl
theorem hy_J4_checkIndex : yJ4_checkIndex.cls ≠ "java/lang/invoke/MethodHandle" ∧ yJ4_checkIndex.cls ≠ "java/lang/invoke/VarHandle" ∧ (parseMethodDescriptor yJ4_checkIndex.desc).map (fun d => d.parameters.length) = some 3 := by decide +kernel
set_option maxRecDepth 100000 in
theorem cw_J0_1059 : GoodIn lw_tbl (va_wsS RJ0 1059 yJ4_checkIndex [.code yJ4_checkIndex cJ4_checkIndex 3 (some .int)]) := gi_r [523, 524, 62, 525] rfl rfl
theorem hy_J0_checkIndex : yJ0_checkIndex.cls ≠ "java/lang/invoke/MethodHandle" ∧ yJ0_checkIndex.cls ≠ "java/lang/invoke/VarHandle" ∧ (parseMethodDescriptor yJ0_checkIndex.desc).map (fun d => d.parameters.length) = some 2 := by decide +kernel
set_option maxRecDepth 100000 in
theorem cw_J1_9 : GoodIn lw_tbl (va_wsS RJ1 9 yJ0_checkIndex [.code yJ0_checkIndex cJ0_checkIndex 2 none]) := gi_r [518, 519, 60, 520] rfl rfl
theorem hy_X8_nextPrime : yX8_nextPrime.cls ≠ "java/lang/invoke/MethodHandle" ∧ yX8_nextPrime.cls ≠ "java/lang/invoke/VarHandle" ∧ (parseMethodDescriptor yX8_nextPrime.desc).map (fun d => d.parameters.length) = some 1 := by decide +kernel
set_option maxRecDepth 100000 in
theorem cw_X8_107 : GoodIn lw_tbl (va_wsS RX8 107 yX8_nextPrime [.code yX8_nextPrime cX8_nextPrime 4 (some .int)]) := gi_r [771, 772, 51, 773] rfl rfl
theorem hy_X8_rootOf : yX8_rootOf.cls ≠ "java/lang/invoke/MethodHandle" ∧ yX8_rootOf.cls ≠ "java/lang/invoke/VarHandle" ∧ (parseMethodDescriptor yX8_rootOf.desc).map (fun d => d.parameters.length) = some 2 := by decide +kernel
set_option maxRecDepth 100000 in
theorem cw_X8_111 : GoodIn lw_tbl (wsV RX8 111 yX8_rootOf.cls yX8_rootOf [.code yX8_rootOf cX8_rootOf 6 (some .long)]) := gi_r [774, 776, 20, 51, 777] rfl rfl
theorem hy_X8_isAbove : yX8_isAbove.cls ≠ "java/lang/invoke/MethodHandle" ∧ yX8_isAbove.cls ≠ "java/lang/invoke/VarHandle" ∧ (parseMethodDescriptor yX8_isAbove.desc).map (fun d => d.parameters.length) = some 3 := by decide +kernel
set_option maxRecDepth 100000 in
theorem cw_X8_119 : GoodIn lw_tbl (wsV RX8 119 yX8_isAbove.cls yX8_isAbove [.code yX8_isAbove cX8_isAbove 7 (some .boolean)]) := gi_r [778, 780, 21, 51, 781] rfl rfl
theorem hy_X8_times : yX8_times.cls ≠ "java/lang/invoke/MethodHandle" ∧ yX8_times.cls ≠ "java/lang/invoke/VarHandle" ∧ (parseMethodDescriptor yX8_times.desc).map (fun d => d.parameters.length) = some 0 := by decide +kernel
set_option maxRecDepth 100000 in
theorem cw_X8_127 : GoodIn lw_tbl (wsV RX8 127 yX8_times.cls yX8_times [.code yX8_times cX8_times 5 none]) := gi_r [783, 785, 22, 51, 786] rfl rfl
theorem hy_X8_part : yX8_part.cls ≠ "java/lang/invoke/MethodHandle" ∧ yX8_part.cls ≠ "java/lang/invoke/VarHandle" ∧ (parseMethodDescriptor yX8_part.desc).map (fun d => d.parameters.length) = some 1 := by decide +kernel
set_option maxRecDepth 100000 in
theorem cw_X8_130 : GoodIn lw_tbl (wsV RX8 130 yX8_part.cls yX8_part [.code yX8_part cX8_part 20 none]) := gi_r [932, 934, 25, 51, 935] rfl rfl
theorem hy_X8_right : yX8_right.cls ≠ "java/lang/invoke/MethodHandle" ∧ yX8_right.cls ≠ "java/lang/invoke/VarHandle" ∧ (parseMethodDescriptor yX8_right.desc).map (fun d => d.parameters.length) = some 2 := by decide +kernel
set_option maxRecDepth 100000 in
theorem cw_X8_138 : GoodIn lw_tbl (va_wsS RX8 138 yX8_right [.code yX8_right cX8_right 3 (some .long)]) := gi_r [937, 938, 51, 939] rfl rfl
theorem hy_X8_digestOf : yX8_digestOf.cls ≠ "java/lang/invoke/MethodHandle" ∧ yX8_digestOf.cls ≠ "java/lang/invoke/VarHandle" ∧ (parseMethodDescriptor yX8_digestOf.desc).map (fun d => d.parameters.length) = some 1 := by decide +kernel
set_option maxRecDepth 100000 in
theorem cw_X8_142 : GoodIn lw_tbl (wsV RX8 142 yX8_digestOf.cls yX8_digestOf [.code yX8_digestOf cX8_digestOf 4 none]) := gi_r [928, 930, 24, 51, 931] rfl rfl
theorem hy_X8_put : yX8_put.cls ≠ "java/lang/invoke/MethodHandle" ∧ yX8_put.cls ≠ "java/lang/invoke/VarHandle" ∧ (parseMethodDescriptor yX8_put.desc).map (fun d => d.parameters.length) = some 1 := by decide +kernel
set_option maxRecDepth 100000 in
theorem cw_X8_148 : GoodIn lw_tbl (wsV RX8 148 yX8_put.cls yX8_put [.code yX8_put cX8_put 2 none]) := gi_r [964, 966, 30, 51, 967] rfl rfl
theorem hy_X8_macOf : yX8_macOf.cls ≠ "java/lang/invoke/MethodHandle" ∧ yX8_macOf.cls ≠ "java/lang/invoke/VarHandle" ∧ (parseMethodDescriptor yX8_macOf.desc).map (fun d => d.parameters.length) = some 0 := by decide +kernel
set_option maxRecDepth 100000 in
theorem cw_X8_154 : GoodIn lw_tbl (wsV RX8 154 yX8_macOf.cls yX8_macOf [.code yX8_macOf cX8_macOf 2 none]) := gi_r [952, 954, 28, 51, 955] rfl rfl
theorem hy_X8_words : yX8_words.cls ≠ "java/lang/invoke/MethodHandle" ∧ yX8_words.cls ≠ "java/lang/invoke/VarHandle" ∧ (parseMethodDescriptor yX8_words.desc).map (fun d => d.parameters.length) = some 1 := by decide +kernel
set_option maxRecDepth 100000 in
theorem cw_X8_179 : GoodIn lw_tbl (va_wsS RX8 179 yX8_words [.code yX8_words cX8_words 1 (some .long)]) := gi_r [976, 977, 51, 978] rfl rfl
theorem hy_X8_tell : yX8_tell.cls ≠ "java/lang/invoke/MethodHandle" ∧ yX8_tell.cls ≠ "java/lang/invoke/VarHandle" ∧ (parseMethodDescriptor yX8_tell.desc).map (fun d => d.parameters.length) = some 1 := by decide +kernel
set_option maxRecDepth 100000 in
theorem cw_X8_183 : GoodIn lw_tbl (wsV RX8 183 yX8_tell.cls yX8_tell [.code yX8_tell cX8_tell 2 none]) := gi_r [990, 992, 32, 51, 993] rfl rfl
theorem hy_X8_left : yX8_left.cls ≠ "java/lang/invoke/MethodHandle" ∧ yX8_left.cls ≠ "java/lang/invoke/VarHandle" ∧ (parseMethodDescriptor yX8_left.desc).map (fun d => d.parameters.length) = some 2 := by decide +kernel
set_option maxRecDepth 100000 in
theorem cw_X8_186 : GoodIn lw_tbl (va_wsS RX8 186 yX8_left [.code yX8_left cX8_left 3 (some .long)]) := gi_r [1017, 1018, 51, 1019] rfl rfl
theorem hy_X8_half : yX8_half.cls ≠ "java/lang/invoke/MethodHandle" ∧ yX8_half.cls ≠ "java/lang/invoke/VarHandle" ∧ (parseMethodDescriptor yX8_half.desc).map (fun d => d.parameters.length) = some 4 := by decide +kernel
set_option maxRecDepth 100000 in
theorem cw_X8_189 : GoodIn lw_tbl (wsV RX8 189 yX8_half.cls yX8_half [.code yX8_half cX8_half 5 none]) := gi_r [1013, 1015, 35, 51, 1016] rfl rfl
theorem hy_X8_wordOf : yX8_wordOf.cls ≠ "java/lang/invoke/MethodHandle" ∧ yX8_wordOf.cls ≠ "java/lang/invoke/VarHandle" ∧ (parseMethodDescriptor yX8_wordOf.desc).map (fun d => d.parameters.length) = some 2 := by decide +kernel
set_option maxRecDepth 100000 in
theorem cw_X8_201 : GoodIn lw_tbl (va_wsS RX8 201 yX8_wordOf [.code yX8_wordOf cX8_wordOf 2 (some .long)]) := gi_r [1006, 1007, 51, 1008] rfl rfl
theorem hy_X8_mix : yX8_mix.cls ≠ "java/lang/invoke/MethodHandle" ∧ yX8_mix.cls ≠ "java/lang/invoke/VarHandle" ∧ (parseMethodDescriptor yX8_mix.desc).map (fun d => d.parameters.length) = some 4 := by decide +kernel
set_option maxRecDepth 100000 in
theorem cw_X8_205 : GoodIn lw_tbl (wsV RX8 205 yX8_mix.cls yX8_mix [.code yX8_mix cX8_mix 5 none]) := gi_r [1009, 1011, 34, 51, 1012] rfl rfl
theorem hy_X8_multiply : yX8_multiply.cls ≠ "java/lang/invoke/MethodHandle" ∧ yX8_multiply.cls ≠ "java/lang/invoke/VarHandle" ∧ (parseMethodDescriptor yX8_multiply.desc).map (fun d => d.parameters.length) = some 0 := by decide +kernel
set_option maxRecDepth 100000 in
theorem cw_X8_208 : GoodIn lw_tbl (wsV RX8 208 yX8_multiply.cls yX8_multiply [.code yX8_multiply cX8_multiply 6 none]) := gi_r [1028, 1030, 37, 51, 1031] rfl rfl
theorem hy_X8_fails : yX8_fails.cls ≠ "java/lang/invoke/MethodHandle" ∧ yX8_fails.cls ≠ "java/lang/invoke/VarHandle" ∧ (parseMethodDescriptor yX8_fails.desc).map (fun d => d.parameters.length) = some 2 := by decide +kernel
set_option maxRecDepth 100000 in
theorem cw_X8_211 : GoodIn lw_tbl (wsV RX8 211 yX8_fails.cls yX8_fails [.code yX8_fails cX8_fails 3 (some .boolean)]) := gi_r [908, 910, 23, 51, 911] rfl rfl
theorem hy_X8_beyond : yX8_beyond.cls ≠ "java/lang/invoke/MethodHandle" ∧ yX8_beyond.cls ≠ "java/lang/invoke/VarHandle" ∧ (parseMethodDescriptor yX8_beyond.desc).map (fun d => d.parameters.length) = some 2 := by decide +kernel
set_option maxRecDepth 100000 in
theorem cw_X8_221 : GoodIn lw_tbl (va_wsS RX8 221 yX8_beyond [.code yX8_beyond cX8_beyond 2 (some .boolean)]) := gi_r [921, 922, 51, 923] rfl rfl
theorem hy_X8_answer : yX8_answer.cls ≠ "java/lang/invoke/MethodHandle" ∧ yX8_answer.cls ≠ "java/lang/invoke/VarHandle" ∧ (parseMethodDescriptor yX8_answer.desc).map (fun d => d.parameters.length) = some 2 := by decide +kernel
set_option maxRecDepth 100000 in
theorem cw_X8_225 : GoodIn lw_tbl (wsV RX8 225 yX8_answer.cls yX8_answer [.code yX8_answer cX8_answer 4 none]) := gi_r [940, 942, 26, 51, 943] rfl rfl
theorem hy_X8_padOf : yX8_padOf.cls ≠ "java/lang/invoke/MethodHandle" ∧ yX8_padOf.cls ≠ "java/lang/invoke/VarHandle" ∧ (parseMethodDescriptor yX8_padOf.desc).map (fun d => d.parameters.length) = some 3 := by decide +kernel
set_option maxRecDepth 100000 in
theorem cw_X8_229 : GoodIn lw_tbl (wsV RX8 229 yX8_padOf.cls yX8_padOf [.code yX8_padOf cX8_padOf 6 none]) := gi_r [948, 950, 27, 51, 951] rfl rfl
theorem hy_X8_stretchTo : yX8_stretchTo.cls ≠ "java/lang/invoke/MethodHandle" ∧ yX8_stretchTo.cls ≠ "java/lang/invoke/VarHandle" ∧ (parseMethodDescriptor yX8_stretchTo.desc).map (fun d => d.parameters.length) = some 1 := by decide +kernel
set_option maxRecDepth 100000 in
theorem cw_X8_233 : GoodIn lw_tbl (wsV RX8 233 yX8_stretchTo.cls yX8_stretchTo [.code yX8_stretchTo cX8_stretchTo 4 none]) := gi_r [960, 962, 29, 51, 963] rfl rfl
theorem hy_X8_labelled : yX8_labelled.cls ≠ "java/lang/invoke/MethodHandle" ∧ yX8_labelled.cls ≠ "java/lang/invoke/VarHandle" ∧ (parseMethodDescriptor yX8_labelled.desc).map (fun d => d.parameters.length) = some 3 := by decide +kernel
set_option maxRecDepth 100000 in
theorem cw_X8_236 : GoodIn lw_tbl (wsV RX8 236 yX8_labelled.cls yX8_labelled [.code yX8_labelled cX8_labelled 8 none]) := gi_r [972, 974, 31, 51, 975] rfl rfl
theorem hy_X8_blockOf : yX8_blockOf.cls ≠ "java/lang/invoke/MethodHandle" ∧ yX8_blockOf.cls ≠ "java/lang/invoke/VarHandle" ∧ (parseMethodDescriptor yX8_blockOf.desc).map (fun d => d.parameters.length) = some 1 := by decide +kernel
set_option maxRecDepth 100000 in
theorem cw_X8_240 : GoodIn lw_tbl (wsV RX8 240 yX8_blockOf.cls yX8_blockOf [.code yX8_blockOf cX8_blockOf 6 none]) := gi_r [998, 1000, 33, 51, 1001] rfl rfl
theorem hy_X8_tallyOf : yX8_tallyOf.cls ≠ "java/lang/invoke/MethodHandle" ∧ yX8_tallyOf.cls ≠ "java/lang/invoke/VarHandle" ∧ (parseMethodDescriptor yX8_tallyOf.desc).map (fun d => d.parameters.length) = some 3 := by decide +kernel
set_option maxRecDepth 100000 in
theorem cw_X8_244 : GoodIn lw_tbl (wsV RX8 244 yX8_tallyOf.cls yX8_tallyOf [.code yX8_tallyOf cX8_tallyOf 8 none]) := gi_r [1024, 1026, 36, 51, 1027] rfl rfl
theorem hy_X8_keysOf : yX8_keysOf.cls ≠ "java/lang/invoke/MethodHandle" ∧ yX8_keysOf.cls ≠ "java/lang/invoke/VarHandle" ∧ (parseMethodDescriptor yX8_keysOf.desc).map (fun d => d.parameters.length) = some 1 := by decide +kernel
set_option maxRecDepth 100000 in
theorem cw_X8_247 : GoodIn lw_tbl (wsV RX8 247 yX8_keysOf.cls yX8_keysOf [.code yX8_keysOf cX8_keysOf 3 none]) := gi_r [1036, 1038, 38, 51, 1039] rfl rfl
theorem hy_X8_nonceOf : yX8_nonceOf.cls ≠ "java/lang/invoke/MethodHandle" ∧ yX8_nonceOf.cls ≠ "java/lang/invoke/VarHandle" ∧ (parseMethodDescriptor yX8_nonceOf.desc).map (fun d => d.parameters.length) = some 2 := by decide +kernel
set_option maxRecDepth 100000 in
theorem cw_X8_250 : GoodIn lw_tbl (wsV RX8 250 yX8_nonceOf.cls yX8_nonceOf [.code yX8_nonceOf cX8_nonceOf 5 none]) := gi_r [1048, 1050, 39, 51, 1051] rfl rfl
theorem hy_X8_change : yX8_change.cls ≠ "java/lang/invoke/MethodHandle" ∧ yX8_change.cls ≠ "java/lang/invoke/VarHandle" ∧ (parseMethodDescriptor yX8_change.desc).map (fun d => d.parameters.length) = some 2 := by decide +kernel
set_option maxRecDepth 100000 in
theorem cw_X8_254 : GoodIn lw_tbl (wsV RX8 254 yX8_change.cls yX8_change [.code yX8_change cX8_change 4 none]) := gi_r [1052, 1054, 40, 51, 1055] rfl rfl
theorem hy_X8_tagOf : yX8_tagOf.cls ≠ "java/lang/invoke/MethodHandle" ∧ yX8_tagOf.cls ≠ "java/lang/invoke/VarHandle" ∧ (parseMethodDescriptor yX8_tagOf.desc).map (fun d => d.parameters.length) = some 2 := by decide +kernel
set_option maxRecDepth 100000 in
theorem cw_X8_258 : GoodIn lw_tbl (wsV RX8 258 yX8_tagOf.cls yX8_tagOf [.code yX8_tagOf cX8_tagOf 5 none]) := gi_r [1056, 1058, 41, 51, 1059] rfl rfl
