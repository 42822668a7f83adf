/-! arrays of references -/
section REF
variable {C : Cx} {cc : ByteArray} {own : String} {nL : Nat} {rm : Room} {k n pc : Nat} {lv : List (Nat × Value)} {st : List Value} {ws : va_W}
theorem v_aaldR (g : vG C cc own nL rm) {a N j c : Nat} {t : Nat → Option Nat} {S : String} (r : Nat) (q t0 : Nat) (he : ws[q]? = some (a, aR C.D c N t)) (ht : (tysOf C.D)[t0]? = some (C.D.1 c, .object S)) (hj : j < N) (hN : N < 2 ^ 31) (hr : t j = some r) (hd : decode cc pc = .ok (.aaload, 1)) (K : VJ C k n (pc + 1) lv (.ref r :: st) ws) : VJ C k n pc lv (.int (nI j) :: .ref a :: st) ws := fun ls H locs hl hP hD hS => by
  refine va_aldq g.x g.b g.K hP q t0 he ht (vp_in_nI hj hN) hd ?_
  rw [nI_clamp (Nat.lt_trans hj hN), hr]
  exact K ls H locs hl hP hD hS
theorem v_aastR (g : vG C cc own nL rm) {a N j c v ci : Nat} {t : Nat → Option Nat} {r : vw_C} {vs : List Value} (t' : Nat → Option Nat) (ht' : t' = va_up t j (some v)) (q t0 qk : Nat) (ws' : va_W) (he : ws[q]? = some (a, aR C.D c N t)) (ht : (tysOf C.D)[t0]? = some (C.D.1 c, .object r.1)) (hv : ws[qk]? = some (v, .inr (ci, vs))) (hc : vwCl[ci]? = some r) (hj : j < N) (hN : N < 2 ^ 31) (hd : decode cc pc = .ok (.aastore, 1)) (hs : ws.set q (a, aR C.D c N t') = ws') (K : VJ C k n (pc + 1) lv st ws') : VJ C k n pc lv (.ref v :: .int (nI j) :: .ref a :: st) ws := fun ls H locs hl hP hD hS => by
  refine va_astq g.x g.b g.K hP hD hS q t0 qk ci he ht hv hc (vp_in_nI hj hN) hd ?_
  rw [nI_clamp (Nat.lt_trans hj hN), ← ht', hs]
  exact fun H1 locs1 hP1 hD1 hS1 => K ls H1 locs1 hl hP1 hD1 hS1
theorem v_newR (g : vG C cc own nL rm) {S : String} {N idx c : Nat} (t0 : Nat) (ht : (tysOf C.D)[t0]? = some (C.D.1 c, .object S)) (hcl : Cond.classLink own idx S ∈ lw_tbl) (hov : va_AO S C.s) (hN : N < 2 ^ 27) (hk : k + 1 ≤ rm.cells) (hn : n + N ≤ rm.slots) (hd : decode cc pc = .ok (.anewarray idx, 3)) (K : ∀ q : Nat, VJ C (k + 1) (n + N) (pc + 3) lv (.ref q :: st) (ws ++ [(q, aR C.D c N (fun _ => none))])) : VJ C k n pc lv (.int (nI N) :: st) ws := fun ls H locs hl hP hD hS => by
  refine va_newq g.x g.b g.ow (g.w hcl rfl) hov g.K hP hD hS g.hA (nI_pos (by omega)) (nI_clamp (by omega)) (by omega) (by rw [g.rmE]; exact hk) (by rw [g.rmE]; exact hn) hd (fun q cA H1 hK1 hP1 hD1 hS1 => ?_)
  have e : cA = C.D.1 c := by
    obtain ⟨k1, c1, -, -, -, h1⟩ := (hK1.2 5 _ rfl).2
    obtain ⟨k2, c2, -, -, -, h2⟩ := (g.K.2 t0 _ ht).2
    exact Option.some.inj (h1.symm.trans h2)
  subst e
  exact K q ls H1 locs hl hP1 hD1 hS1
end REF
section RFN
variable {C : Cx} {cc : ByteArray} {own : String} {nL : Nat} {rm : Room} {k n pc : Nat} {lv : List (Nat × Value)} {st : List Value} {ws : va_W}
theorem v_callIN {y : MethodName} {cc' : ByteArray} {maxL' idx b np : Nat} {rm' : Room} {As rest : List Value} {wi wr : va_W} {post : Option Value → va_W → Prop} {host : String}
    (w : GoodIn lw_tbl [.instanceMethod y, .initialized y.cls, .code y cc' maxL' none]) (hlk : Cond.methodLinkNest own idx y host ∈ lw_tbl) (hin : y.name = "<init>") (hy : y.cls ≠ "java/lang/invoke/MethodHandle" ∧ y.cls ≠ "java/lang/invoke/VarHandle" ∧ (parseMethodDescriptor y.desc).map (fun d => d.parameters.length) = some np)
    (g : vG C cc own nL rm) (M : vM C.l C.D y cc' maxL' none rm' (.ref b :: As) wi post) (hd : decode cc pc = .ok (.invokespecial idx, 3)) (hnp : As.length = np)
    (hR : rm'.frames + 1 ≤ rm.frames ∧ 8 + (maxL' + 11) + rm'.locals ≤ rm.locals) (hroom : k + rm'.cells ≤ rm.cells ∧ n + rm'.slots ≤ rm.slots) (hst : (rest.map fun v => v.category).sum ≤ 8)
    (isC isR : List Nat) (hC : isC.map (fun i => ws[i]?) = wi.map some) (hCf : isC.filterMap (fun i => ws[i]?) = wi) (hCn : va_nd isC = true) (hRr : isR.map (fun i => ws[i]?) = wr.map some) (hn : va_nd isR = true) (hdis : ∀ i ∈ isR, i ∉ isC)
    (st0 : List Value) (hst0 : st0 = As.reverse ++ .ref b :: rest) (KK : ∀ (r : Option Value) (wo : va_W), post r wo → VJ C (k + rm'.cells) (n + rm'.slots) (pc + 3) lv (r.toList ++ rest) (wr ++ wo)) : VJ C k n pc lv st0 ws := fun ls H locs hl hP hD hS => by
  subst hst0
  have hF := va_free (wc := wi) hD hS g.hA isC hC
  have hpre := v_pre (wi := wi) (av := .ref b :: As) g hP hD hS hF isC hC hCf hCn
  have hRR := g.rmE
  have ok := g.wss w
  have hG : GoodIn ([.instanceMethod y, .initialized y.cls, .code y cc' maxL' none] : List Cond) [.code y cc' maxL' none] := fun u hu => good_self w u (List.mem_cons_of_mem _ (List.mem_cons_of_mem _ hu))
  refine v_back (y := y) (va_runIN (As := As) (rest := rest) ⟨g.x, g.b, g.ml, g.ow, ok⟩ (M H.size) ⟨va_cnB np ok hG rfl rfl rfl (va_Nw.of rfl (g.w hlk rfl)) (ok _ (by simp)) hy (by rw [hRR]; exact hR), hin, ok _ (by simp)⟩ hpre rfl hnp hl.1 rfl (lv_room hst) hd (by rw [hRR]; exact hroom)) hl hP hD hS hF isC isR hC hRr hn hdis KK
end RFN
