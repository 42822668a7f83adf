/-! calls that take the whole world -/
theorem nd_app : ∀ (l : List Nat) (a : Nat), va_nd l = true → a ∉ l → va_nd (l ++ [a]) = true := by
  intro l
  induction l with
  | nil => intro a _ _; rfl
  | cons b l ih =>
    intro a h ha
    simp only [va_nd, List.cons_append, Bool.and_eq_true, decide_eq_true_eq] at h ⊢
    exact ⟨fun q => (List.mem_append.mp q).elim h.1 (fun e => ha (by rw [List.mem_singleton.mp e]; exact List.mem_cons_self)), ih a h.2 (fun q => ha (List.mem_cons_of_mem _ q))⟩
theorem rg_nd : ∀ n, va_nd (List.range n) = true := by
  intro n
  induction n with
  | zero => rfl
  | succ n ih => rw [List.range_succ]; exact nd_app _ _ ih (by simp)
theorem rg_map (ws : va_W) : (List.range ws.length).map (fun i => ws[i]?) = ws.map some := by
  apply List.ext_getElem
  · simp
  · intro i h1 h2
    simp
theorem fm_map {α β : Type} (f : α → Option β) : ∀ (l : List α) (m : List β), l.map f = m.map some → l.filterMap f = m := by
  intro l
  induction l with
  | nil => intro m h; cases m with
    | nil => rfl
    | cons a m => simp at h
  | cons a l ih =>
    intro m h
    cases m with
    | nil => simp at h
    | cons b m =>
      simp only [List.map_cons, List.cons.injEq] at h
      rw [List.filterMap_cons, h.1, ih m h.2]
theorem rg_fm (ws : va_W) : (List.range ws.length).filterMap (fun i => ws[i]?) = ws := fm_map _ _ _ (rg_map ws)
theorem vMX.frameL {l : Launch} {D : va_G} {y : MethodName} {cc : ByteArray} {maxL : Nat} {ret : Option FieldType} {rm : Room} {av : List Value} {wi : va_W} {X : String} (M : vMX l D y cc maxL ret rm av wi X) (wl : va_W) : vMX l D y cc maxL ret rm av (wl ++ wi) X := by
  intro sz
  refine MetFree.mono (M sz) (fun a U h => ⟨h.1, h.2.1, h.2.2.1.right, h.2.2.2.1, h.2.2.2.2.1.right, h.2.2.2.2.2.go (State.WarmedH.refl U) (fun _ _ _ => rfl) va_A_r⟩) (fun _ _ _ _ _ h => h) ?_
  intro a st o t ⟨ha, hsz, hP, hK, hD, hG⟩ ⟨⟨⟨v, ho, hP1, hK1, hD1, hc⟩, hz, hk⟩, L, hF, hL⟩
  subst hsz
  have hap : ∀ (i j : Nat) (p q : Nat × va_E), wl[i]? = some p → wi[j]? = some q → p.1 ≠ q.1 := hD.apart
  exact ⟨⟨⟨v, ho, va_P.app (hP.left.stay hap hk) hP1, hK1, hD.self, hc⟩, hz, fun q g1 g2 => hk q g1 (fun z => g2 (va_A_r q z))⟩, L, hF, fun q hq => va_A_r _ (hL q hq)⟩
theorem vMW.frameR {l : Launch} {D : va_G} {y : MethodName} {cc : ByteArray} {maxL : Nat} {ret : Option FieldType} {hh : List (Nat × Nat × Nat × Nat)} {rm : Room} {av : List Value} {wi : va_W} {post : Option Value → va_W → Prop} (M : vMW l D y cc maxL ret hh rm av wi post) (wr : va_W) : vMW l D y cc maxL ret hh rm av (wi ++ wr) (fun r ws' => ∃ wo, post r wo ∧ ws' = wo ++ wr) := by
  intro sz
  refine MetFree.mono (M sz) (fun a U h => ⟨h.1, ⟨h.2.1.1, h.2.1.2.1.left, h.2.1.2.2.1, h.2.1.2.2.2.1.left, h.2.1.2.2.2.2.go (State.WarmedH.refl U) (fun _ _ _ => rfl) va_A_l⟩, h.2.2⟩) (fun _ _ _ _ _ h => h) ?_
  intro a st o t ⟨ha, ⟨hsz, hP, hK, hD, hG⟩, hN⟩ ⟨⟨⟨r, wo, ho, hpo, hP1, hK1, hD1⟩, hz, hk⟩, L, hF, hL⟩
  subst hsz
  have hD' := hD.self (sz := st.heap.size)
  have hap : ∀ (i j : Nat) (p q : Nat × va_E), wr[i]? = some p → wi[j]? = some q → p.1 ≠ q.1 := fun i j p q hi hj e => hD.apart j i q p hj hi e.symm
  refine ⟨⟨⟨r, wo ++ wr, ho, ⟨wo, hpo, rfl⟩, va_P.app hP1 (hP.right.stay hap hk), hK1, va_D.app (hD1.weaken (fun k q _ h => va_A_l q.1 h)) hD'.right (fun i j x y hx hy hxy => ?_)⟩, hz, fun q g1 g2 => hk q g1 (fun z => g2 (va_A_l q z))⟩, L, hF, fun q hq => va_A_l _ (hL q hq)⟩
  rcases hD1.2 i x hx with ⟨k, e, h⟩ | h
  · exact hap j k y (x.1, e) hy h hxy.symm
  · have := (hP.right j y hy).lt
    omega
section CW0
variable {C : Cx} {cc : ByteArray} {own : String} {nL : Nat} {rm : Room} {k n pc : Nat} {lv : List (Nat × Value)} {ws : va_W}
theorem v_callV0 {y : MethodName} {cc' : ByteArray} {maxL' idx b ci N np : Nat} {ret' : Option FieldType} {rm' : Room} {As rest : List Value} {post : Option Value → va_W → Prop} {fs : List Value} {T : u_T} (w : GoodIn lw_tbl (wsV own idx y.cls y [.code y cc' maxL' ret'])) (hy : y.cls ≠ "java/lang/invoke/MethodHandle" ∧ y.cls ≠ "java/lang/invoke/VarHandle" ∧ (parseMethodDescriptor y.desc).map (fun d => d.parameters.length) = some np)
    (g : vG C cc own nL rm) (M : vM C.l C.D y cc' maxL' ret' rm' (.ref b :: As) ws post) (hd : decode cc pc = .ok (.invokevirtual idx, 3)) (q0 : Nat) (he : ws[q0]? = some (b, .inr (ci, fs))) (hc : vwCl[ci]? = some (y.cls, T, N)) (hnp : As.length = np)
    (hR : rm'.frames + 1 ≤ rm.frames ∧ 8 + (maxL' + 11) + rm'.locals ≤ rm.locals) (hroom : k + rm'.cells ≤ rm.cells ∧ n + rm'.slots ≤ rm.slots) (hst : (rest.map fun v => v.category).sum ≤ 8)
    (st0 : List Value) (hst0 : st0 = As.reverse ++ .ref b :: rest) (KK : ∀ (r : Option Value) (wo : va_W), post r wo → VJ C (k + rm'.cells) (n + rm'.slots) (pc + 3) lv (r.toList ++ rest) wo) : VJ C k n pc lv st0 ws :=
  v_callV w hy g M hd q0 he hc hnp hR hroom hst (List.range ws.length) [] (rg_map ws) (rg_fm ws) (rg_nd _) (wr := []) rfl rfl (fun _ h => absurd h List.not_mem_nil) st0 hst0 (fun r wo h => KK r wo h)
theorem v_callVC0 {y : MethodName} {cc' : ByteArray} {maxL' idx b ci N np : Nat} {ret' : Option FieldType} {rm' : Room} {As rest : List Value} {X : String} {fs : List Value} {Tt : u_T} (w : GoodIn lw_tbl (wsV own idx y.cls y [.code y cc' maxL' ret'])) (hy : y.cls ≠ "java/lang/invoke/MethodHandle" ∧ y.cls ≠ "java/lang/invoke/VarHandle" ∧ (parseMethodDescriptor y.desc).map (fun d => d.parameters.length) = some np)
    (g : vG C cc own nL rm) (M : vMX C.l C.D y cc' maxL' ret' rm' (.ref b :: As) ws X) (hd : decode cc pc = .ok (.invokevirtual idx, 3)) (q0 : Nat) (he : ws[q0]? = some (b, .inr (ci, fs))) (hc : vwCl[ci]? = some (y.cls, Tt, N)) (hnp : As.length = np) (hR : rm'.frames + 1 ≤ rm.frames ∧ 8 + (maxL' + 11) + rm'.locals ≤ rm.locals) (hroom : k + rm'.cells ≤ rm.cells ∧ n + rm'.slots ≤ rm.slots) (hst : (rest.map fun v => v.category).sum ≤ 8) (st0 : List Value) (hst0 : st0 = As.reverse ++ .ref b :: rest)
    (pre : List ExceptionTableEntry) (x : ExceptionTableEntry) (post : List ExceptionTableEntry) (hsplit : C.c.exceptionTable.toList = pre ++ x :: post) (hpass : ∀ y ∈ pre, y.catchType ≠ 0 ∧ ∃ nm, Cond.classLink own y.catchType nm ∈ lw_tbl ∧ (Cond.not (.castable X nm)).before C.args C.s = true) (hx : covers x pc = true) (h0 : x.catchType ≠ 0) (hlx : Cond.classLink own x.catchType X ∈ lw_tbl) (hcx : Cond.castable X X ∈ lw_tbl)
    (KK : ∀ v : Nat, VJ C (k + rm'.cells) (n + rm'.slots) x.handlerPc lv [.ref v] ws) : VJ C k n pc lv st0 ws :=
  v_callVC w hy g M hd q0 he hc hnp hR hroom hst (List.range ws.length) [] (rg_map ws) (rg_fm ws) (rg_nd _) (wr := []) rfl rfl (fun _ h => absurd h List.not_mem_nil) (List.range ws.length) (rg_fm ws) st0 hst0 pre x post hsplit hpass hx h0 hlx hcx (rg_nd _) (rg_map ws) KK
theorem v_callSW0 {y : MethodName} {cc' : ByteArray} {maxL' idx np : Nat} {ret' : Option FieldType} {hh : List (Nat × Nat × Nat × Nat)} {rm' : Room} {As rest : List Value} {post : Option Value → va_W → Prop} (w : GoodIn lw_tbl (va_wsS own idx y [.codeWith y cc' maxL' ret' hh])) (hy : y.cls ≠ "java/lang/invoke/MethodHandle" ∧ y.cls ≠ "java/lang/invoke/VarHandle" ∧ (parseMethodDescriptor y.desc).map (fun d => d.parameters.length) = some np)
    (g : vG C cc own nL rm) (hNA : NoA C.s) (M : vMW C.l C.D y cc' maxL' ret' hh rm' As ws post) (hd : decode cc pc = .ok (.invokestatic idx, 3)) (hnp : As.length = np) (hR : rm'.frames + 1 ≤ rm.frames ∧ 8 + (maxL' + 11) + rm'.locals ≤ rm.locals) (hroom : k + rm'.cells ≤ rm.cells ∧ n + rm'.slots ≤ rm.slots) (hst : (rest.map fun v => v.category).sum ≤ 8)
    (st0 : List Value) (hst0 : st0 = As.reverse ++ rest) (KK : ∀ (r : Option Value) (wo : va_W), post r wo → VJ C (k + rm'.cells) (n + rm'.slots) (pc + 3) lv (r.toList ++ rest) wo) : VJ C k n pc lv st0 ws := fun ls H locs hl hP hD hS => by
  subst hst0
  have hF := va_free (wc := ws) hD hS g.hA (List.range ws.length) (rg_map ws)
  have hpre := v_pre (wi := ws) (av := As) g hP hD hS hF (List.range ws.length) (rg_map ws) (rg_fm ws) (rg_nd _)
  have hRR := g.rmE
  have ok := g.wss w
  have wm : ∀ c ∈ va_wsS own idx y [.codeWith y cc' maxL' ret' hh], ∀ a' U, C.s.WarmedH U.vm → c.before a' U = true := fun c hc a' U hW => g.gv.1.to hW (w c hc).1 (kw_of_good (w c hc).2)
  have hblW : FrameBlind (va_Pc As (vPreW C.D ws H.size)) := fun a U g' mk q => ⟨(hpre.1 a U g' mk ⟨q.1, q.2.1⟩).1, (hpre.1 a U g' mk ⟨q.1, q.2.1⟩).2, q.2.2.to (U := U.calling g' mk a) (Vm.Alike.refl U.vm) #[]⟩
  have hK : Back C.l C.R C.p C.e C.below C.s C.args y 3 8 (PreOf C.R rm'.cells rm'.slots (va_Pc As (vPreW C.D ws H.size))) (PostOf (vQ C.D post (va_A ws H.size)) rm'.cells rm'.slots (va_A ws H.size)) :=
    va_backW (hh := hh) (bytes := cc') (maxL := maxL') (ret := ret') (M H.size) hblW rfl rfl (by rw [hRR]; exact hR.1) (by rw [hRR]; exact hR.2) (fun c hc a' U hW => wm c (by unfold va_wsS; exact List.mem_append_right _ hc) a' U hW) List.mem_cons_self (fun a' U hW => wm _ (by simp [va_wsS]) a' U hW)
  have hcode : (Cond.codeWith y cc' maxL' ret' hh).before C.args C.s = true := ok _ (by simp [va_wsS])
  refine v_back (y := y) (a := As.toArray) (rest := rest) (post := post) (wi := ws) (mc := rm'.cells) (ms := rm'.slots) (st0 := As.reverse ++ rest) ?_ hl hP hD hS hF (List.range ws.length) [] (rg_map ws) (wr := []) rfl rfl (fun _ h => absurd h List.not_mem_nil) (fun r wo h => KK r wo h)
  intro T hT X
  obtain ⟨mk, methM, cM, hnamed, hmethM, -, -, -, -, -, -, hsigM⟩ := Cond.codeWith_spec hcode
  have hstatic : methM.isStatic = true := Cond.static_spec hnamed hmethM (ok (.static y) (by simp [va_wsS]))
  obtain ⟨kP, hkP, -⟩ := className_of_methodNamed hnamed
  have hinitP : kP.init = .initialized := Cond.initialized_spec (findClass_of_methodNamed hnamed) hkP (ok (.initialized y.cls) (by simp [va_wsS]))
  have hlen : As.length = methM.sig.parameters.length := by
    have q := hy.2.2
    rw [hsigM] at q
    rw [hnp]
    exact (Option.some.inj q).symm
  obtain ⟨vm₁, X₁, hstep₁⟩ := X.invokestatic (index := idx) g.x g.ow (ok _ (by simp [va_wsS])) hnamed hmethM hstatic hkP hinitP ⟨hy.1, hy.2.1⟩ (g := F0 C.m pc ls (As.reverse ++ rest)) rfl (argsL := As) (rest := rest) hlen rfl (by rw [g.b]; exact hd)
  obtain ⟨v, B, X', ⟨g', mk', t, L, e1, e2, hq, h1, hL, h2, h3⟩, hsteps⟩ := hK C.m C.meth C.c ⟨T.setVm vm₁, locs, k, n⟩ (F0 C.m pc ls rest) (.invokestatic idx) mk As.toArray X₁ rfl (hl.1.trans g.ml.symm) (by rw [g.b]; exact hd) (lv_room hst) (X₁.named hnamed) ⟨by rw [hRR]; exact hroom.1, by rw [hRR]; exact hroom.2, (hpre.2 (T.setVm vm₁) hT X₁.warmed).1, (hpre.2 (T.setVm vm₁) hT X₁.warmed).2, hNA.to (U := T.setVm vm₁) X₁.warmed.alike #[]⟩
  obtain ⟨BU, Bl, Bc, Bs⟩ := B
  dsimp only [Pt.U, Pt.locs, Pt.cells, Pt.slots] at X' e1 e2 h1 h2 h3 hsteps
  subst h1; subst h2; subst h3
  exact ⟨v, (T.setVm vm₁).calling g' mk' As.toArray, t, BU, L, hT, X', hL, e1, e2, hq, fun target h => hstep₁ _ fun acts => by rw [doInvoke_state]; exact hsteps.trans h⟩
end CW0
