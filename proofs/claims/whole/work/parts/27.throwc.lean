/-! a call that throws, in a method without handlers: it throws too -/
theorem backX {l : Launch} {R : Room} {p : Program} {e : Env} {below : List Frame} {s : State} {sargs : Array Value} {D : va_G} {y : MethodName} {cc' : ByteArray} {maxL' sz : Nat} {ret' : Option FieldType} {rm' : Room} {av : List Value} {wi : va_W} {X : String} (M : vMX l D y cc' maxL' ret' rm' av wi X) (hbl : FrameBlind (va_Pc av (vPre D wi sz))) (hR : rm'.frames + 1 ≤ R.frames ∧ 8 + (maxL' + 11) + rm'.locals ≤ R.locals)
    (hcw : ∀ a' U, s.WarmedH U.vm → (Cond.code y cc' maxL' ret').before a' U = true) (hini : ∀ a' U, s.WarmedH U.vm → (Cond.initialized y.cls).before a' U = true) :
    BackT l R p e below s sargs y 3 8 (PreOf R rm'.cells rm'.slots (va_Pc av (vPre D wi sz))) (fun A a v B => ∃ (g : JFrame) (mk : MethodId) (t : State) (L : List Loc), B.U.heap = t.heap ∧ B.U.vm = t.vm ∧ vQX D X wi (va_A wi sz) a (A.U.calling g mk a) (.threw v) t ∧ B.locs = A.locs ++ L ∧ (∀ q ∈ L, va_A wi sz q.base) ∧ B.cells = A.cells + rm'.cells ∧ B.slots = A.slots + rm'.slots) := by
  refine BackT.of_free (S := headSpec [.code y cc' maxL' ret'] rm') (P := va_Pc av (vPre D wi sz)) (K := fun _ _ _ _ _ => True) (Q := fun a st o t => vQX D X wi (va_A wi sz) a st o t ∧ ∃ L, FrameEndT st o t L rm'.cells rm'.slots ∧ ∀ q ∈ L, va_A wi sz q.base) (bytes := cc') (maxL := maxL') (ret := ret')
    (E := fun a st o t L k n => k = rm'.cells ∧ n = rm'.slots ∧ ∀ q ∈ L, va_A wi sz q.base) (M sz) hR.1 hR.2 ?_ ?_ (fun _ _ _ _ _ _ _ _ _ => trivial) ?_ ?_
  · intro m meth c A a X0 hp
    exact ⟨atoms_intro fun w hw => by rw [List.mem_singleton.mp hw]; exact hcw _ _ X0.warmed, hcw _ _ X0.warmed, hini _ _ X0.warmed, hp.1, hp.2.1⟩
  · intro m meth c A a g mk X0 hp
    exact hbl _ _ _ _ hp.2.2
  · intro a st o t ⟨hq, L, hF, hL⟩
    exact ⟨L, _, _, hF, rfl, rfl, hL⟩
  · intro m meth c A a g mk v t L k n X0 hp hq hF ⟨e1, e2, hL⟩
    subst e1; subst e2
    exact ⟨g, mk, t, L, rfl, rfl, hq.1, rfl, hL, rfl, rfl⟩
section THC
variable {C : Cx} {cc : ByteArray} {own : String} {nL : Nat} {rm : Room} {k n pc : Nat} {lv : List (Nat × Value)} {st : List Value}
theorem vx_end {wi wc wr : va_W} {X : String} {mc ms : Nat} (g : vG C cc own nL rm) (R : vRetX C rm wi X) {ls : Array Slot} {rest : List Value} {H : Heap} {locs : List Loc} (hP : va_P C.D vwCl wi H) (hD : va_D C.A wi) (hS : va_S C.A C.s.heap H locs) (hF : ∀ q, va_A wc H.size q → C.A q) (isC isR : List Nat) (hC : isC.map (fun i => wi[i]?) = wc.map some) (hRr : isR.map (fun i => wi[i]?) = wr.map some) (hn : va_nd isR = true) (hdis : ∀ i ∈ isR, i ∉ isC) (pm : List Nat) (hpm : pm.filterMap (fun i => (wr ++ wc)[i]?) = wi) (hk : k + mc ≤ rm.cells) (hn2 : n + ms ≤ rm.slots)
    {v : Nat} {a : Array Value} {T0 B t : State} {L : List Loc} (X' : Stand C.p C.l C.e C.R C.s C.m C.args C.below C.meth C.c B (locs ++ L) (k + mc) (n + ms)) (e1 : B.heap = t.heap) (e2 : B.vm = t.vm) (h0 : T0.heap = H) (hq : vQX C.D X wc (va_A wc H.size) a T0 (.threw v) t) (hL : ∀ q ∈ L, va_A wc H.size q.base) : ∃ u, Steps C.p.tables C.e C.below ((B.setTop (F0 C.m pc ls rest)).pushFrame (.throwing v)) u ∧ C.Q u := by
  obtain ⟨w1, hrun, hend, hWU, hsame⟩ := X'.leaveThrown v (g := F0 C.m pc ls rest) rfl rfl rfl (R.2.2 _) g.lk
  obtain ⟨⟨v', hv, hP1, hK1, hD1, cell, hc1, hc2, hc3⟩, hz, hkp⟩ := hq
  cases hv
  rw [h0] at hz hkp
  rw [← e1] at hP1 hz hkp hc1
  rw [← e2] at hc3
  obtain ⟨hP2, -⟩ := va_join hP hD isC isR hC hRr hn hdis hkp hF hP1 hD1
  refine ⟨_, w1, ?_⟩
  rw [R.1]
  refine ⟨.threw v, hrun, hend, ⟨⟨v, rfl, hP2.sub pm hpm, va_K.moved hWU.alike g.K, by rw [← R.2.1]; exact hD, cell, hc1, hc2, hc3⟩, ?_⟩, locs ++ L, ⟨⟨_, rfl⟩, hWU, hsame.weaken (fun _ h _ => h) hk hn2⟩, fun q hq => ?_⟩
  · rw [← R.2.1]
    exact ⟨Nat.le_trans hS.1 hz, fun q h1 h2 => (hkp q (Nat.lt_of_lt_of_le h1 hS.1) (fun z => h2 (hF q z))).trans (hS.2.1 q h1 h2)⟩
  · rw [← R.2.1]
    rcases List.mem_append.mp hq with h | h
    · exact hS.2.2 q h
    · exact hF _ (hL q h)
theorem v_callST {y : MethodName} {cc' : ByteArray} {maxL' idx np : Nat} {ret' : Option FieldType} {rm' : Room} {As rest : List Value} {wi wc wr : va_W} {X : String} (w : GoodIn lw_tbl (va_wsS own idx y [.code y cc' maxL' ret'])) (hy : y.cls ≠ "java/lang/invoke/MethodHandle" ∧ y.cls ≠ "java/lang/invoke/VarHandle" ∧ (parseMethodDescriptor y.desc).map (fun d => d.parameters.length) = some np)
    (g : vG C cc own nL rm) (R : vRetX C rm wi X) (M : vMX C.l C.D y cc' maxL' ret' rm' As wc X) (hd : decode cc pc = .ok (.invokestatic idx, 3)) (hnp : As.length = np) (hR : rm'.frames + 1 ≤ rm.frames ∧ 8 + (maxL' + 11) + rm'.locals ≤ rm.locals) (hroom : k + rm'.cells ≤ rm.cells ∧ n + rm'.slots ≤ rm.slots) (hst : (rest.map fun v => v.category).sum ≤ 8)
    (isC isR : List Nat) (hC : isC.map (fun i => wi[i]?) = wc.map some) (hCf : isC.filterMap (fun i => wi[i]?) = wc) (hCn : va_nd isC = true) (hRr : isR.map (fun i => wi[i]?) = wr.map some) (hn : va_nd isR = true) (hdis : ∀ i ∈ isR, i ∉ isC) (pm : List Nat) (hpm : pm.filterMap (fun i => (wr ++ wc)[i]?) = wi) (st0 : List Value) (hst0 : st0 = As.reverse ++ rest) : VJ C k n pc lv st0 wi := fun ls H locs hl hP hD hS T hT X0 => by
  subst hst0
  have hF := va_free (wc := wc) hD hS g.hA isC hC
  have hpre := v_pre (wi := wc) (av := As) g hP hD hS hF isC hC hCf hCn
  have hRR := g.rmE
  have ok := g.wss w
  have wm : ∀ c ∈ va_wsS own idx y [.code y cc' maxL' ret'], ∀ a' U, C.s.WarmedH U.vm → c.before a' U = true := fun c hc a' U hW => g.gv.1.to hW (w c hc).1 (kw_of_good (w c hc).2)
  have hcode : (Cond.code y cc' maxL' ret').before C.args C.s = true := ok _ (by simp [va_wsS])
  obtain ⟨mk, hnamed⟩ := Cond.code_named hcode
  obtain ⟨methM, cM, hmethM, -, -, -, -, -, -, hsigM⟩ := Cond.code_spec hnamed hcode
  have hlen : ∀ sig, parseMethodDescriptor y.desc = some sig → As.length = sig.parameters.length := fun sig h => by
    have q := hy.2.2
    rw [h] at q
    rw [hnp]
    exact (Option.some.inj q).symm
  have hK := backX (p := C.p) (e := C.e) (below := C.below) (s := C.s) (sargs := C.args) (R := C.R) (sz := H.size) M hpre.1 (by rw [hRR]; exact hR) (fun a' U hW => wm _ (by simp [va_wsS]) a' U hW) (fun a' U hW => wm _ (by simp [va_wsS]) a' U hW)
  obtain ⟨v, vm₁, B, hW1, X', ⟨g', mk', t, L, e1, e2, hq, h1, hL, h2, h3⟩, stp⟩ := X0.staticThrows (index := idx) g.x g.ow (ok _ (by simp [va_wsS])) (ok _ (by simp [va_wsS])) (ok _ (by simp [va_wsS])) hnamed hmethM hsigM ⟨hy.1, hy.2.1⟩ hK (g := F0 C.m pc ls (As.reverse ++ rest)) rfl (hl.1.trans g.ml.symm) (Steps.refl _) (argsL := As) (rest := rest) hlen rfl (lv_room hst) (by rw [g.b]; exact hd) (fun vm hW => ⟨by rw [hRR]; exact hroom.1, by rw [hRR]; exact hroom.2, hpre.2 (T.setVm vm) hT hW⟩)
  obtain ⟨BU, Bl, Bc, Bs⟩ := B
  dsimp only [Pt.U, Pt.locs, Pt.cells, Pt.slots] at X' e1 e2 h1 h2 h3 stp
  subst h1; subst h2; subst h3
  obtain ⟨u, s1, q1⟩ := vx_end (ls := ls) (rest := rest) (pc := pc) (a := As.toArray) (T0 := (T.setVm vm₁).calling g' mk' As.toArray) g R hP hD hS hF isC isR hC hRr hn hdis pm hpm hroom.1 hroom.2 X' e1 e2 hT hq hL
  exact ⟨u, stp.trans s1, q1⟩
theorem v_callVT {y : MethodName} {cc' : ByteArray} {maxL' idx b ci N np : Nat} {ret' : Option FieldType} {rm' : Room} {As rest : List Value} {wi wc wr : va_W} {X : String} {fs : List Value} {Tt : u_T} (w : GoodIn lw_tbl (wsV own idx y.cls y [.code y cc' maxL' ret'])) (hy : y.cls ≠ "java/lang/invoke/MethodHandle" ∧ y.cls ≠ "java/lang/invoke/VarHandle" ∧ (parseMethodDescriptor y.desc).map (fun d => d.parameters.length) = some np)
    (g : vG C cc own nL rm) (R : vRetX C rm wi X) (M : vMX C.l C.D y cc' maxL' ret' rm' (.ref b :: As) wc X) (hd : decode cc pc = .ok (.invokevirtual idx, 3)) (q0 : Nat) (he : wi[q0]? = some (b, .inr (ci, fs))) (hc : vwCl[ci]? = some (y.cls, Tt, N)) (hnp : As.length = np) (hR : rm'.frames + 1 ≤ rm.frames ∧ 8 + (maxL' + 11) + rm'.locals ≤ rm.locals) (hroom : k + rm'.cells ≤ rm.cells ∧ n + rm'.slots ≤ rm.slots) (hst : (rest.map fun v => v.category).sum ≤ 8)
    (isC isR : List Nat) (hC : isC.map (fun i => wi[i]?) = wc.map some) (hCf : isC.filterMap (fun i => wi[i]?) = wc) (hCn : va_nd isC = true) (hRr : isR.map (fun i => wi[i]?) = wr.map some) (hn : va_nd isR = true) (hdis : ∀ i ∈ isR, i ∉ isC) (pm : List Nat) (hpm : pm.filterMap (fun i => (wr ++ wc)[i]?) = wi) (st0 : List Value) (hst0 : st0 = As.reverse ++ .ref b :: rest) : VJ C k n pc lv st0 wi := fun ls H locs hl hP hD hS T hT X0 => by
  subst hst0
  have hF := va_free (wc := wc) hD hS g.hA isC hC
  have hpre := v_pre (wi := wc) (av := .ref b :: As) g hP hD hS hF isC hC hCf hCn
  have hRR := g.rmE
  have ok := g.wss w
  have wm : ∀ c ∈ wsV own idx y.cls y [.code y cc' maxL' ret'], ∀ a' U, C.s.WarmedH U.vm → c.before a' U = true := fun c hc a' U hW => g.gv.1.to hW (w c hc).1 (kw_of_good (w c hc).2)
  have hcode : (Cond.code y cc' maxL' ret').before C.args C.s = true := ok _ (by simp [wsV])
  obtain ⟨mk, methM, hnamed, hmethM, hstM, habM⟩ := Cond.instanceMethod_spec (ok (.instanceMethod y) (by simp [wsV]))
  obtain ⟨methM', cM, hmethM', -, -, -, -, -, -, hsigM⟩ := Cond.code_spec hnamed hcode
  cases hmethM.symm.trans hmethM'
  obtain ⟨cellB, hcell, hobj, hcls⟩ := va_recv g.K hP hc he
  obtain ⟨c2, r2, m2, q1, q2, q3, q4, kP, hkP, hkPi⟩ := Cond.selects_spec (ok (.selects y.cls y y) (by simp [wsV]))
  cases hcls.symm.trans q1
  cases (State.methodFound?_of_named hnamed ⟨hy.1, hy.2.1⟩).symm.trans q2
  cases hnamed.symm.trans q3
  have hselP : selectMethod C.e.platform C.s.vm cellB.cls mk = .method mk := by rw [Launch.admits_selectMethod X0.admits]; exact q4
  have hlen : As.length = methM.sig.parameters.length := by
    have q := hy.2.2
    rw [hsigM] at q
    rw [hnp]
    exact (Option.some.inj q).symm
  have hK := backX (p := C.p) (e := C.e) (below := C.below) (s := C.s) (sargs := C.args) (R := C.R) (sz := H.size) M hpre.1 (by rw [hRR]; exact hR) (fun a' U hW => wm _ (by simp [wsV]) a' U hW) (fun a' U hW => wm _ (by simp [wsV]) a' U hW)
  obtain ⟨vm₁, X₁, hstep₁⟩ := X0.invokevirtual (index := idx) g.x g.ow (ok _ (by simp [wsV])) hnamed hmethM hstM hkP hkPi ⟨hy.1, hy.2.1⟩ (a := b) (cell := cellB) (by rw [hT]; exact hcell) (fun z h => by rw [h] at hobj; cases hobj) hselP hmethM habM hkP hkPi (g := F0 C.m pc ls (As.reverse ++ .ref b :: rest)) rfl (argsL := As) (rest := rest) hlen rfl (by rw [g.b]; exact hd)
  obtain ⟨v, B, X', ⟨g', mk', t, L, e1, e2, hq, h1, hL, h2, h3⟩, hsteps⟩ := hK C.m C.meth C.c ⟨T.setVm vm₁, locs, k, n⟩ (F0 C.m pc ls rest) (.invokevirtual idx) mk (Value.ref b :: As).toArray X₁ rfl (hl.1.trans g.ml.symm) (by rw [g.b]; exact hd) (lv_room hst) (X₁.named hnamed) ⟨by rw [hRR]; exact hroom.1, by rw [hRR]; exact hroom.2, hpre.2 (T.setVm vm₁) hT X₁.warmed⟩
  obtain ⟨BU, Bl, Bc, Bs⟩ := B
  dsimp only [Pt.U, Pt.locs, Pt.cells, Pt.slots] at X' e1 e2 h1 h2 h3 hsteps
  subst h1; subst h2; subst h3
  obtain ⟨u, s1, q1⟩ := vx_end (ls := ls) (rest := rest) (pc := pc) (a := (Value.ref b :: As).toArray) (T0 := (T.setVm vm₁).calling g' mk' (Value.ref b :: As).toArray) g R hP hD hS hF isC isR hC hRr hn hdis pm hpm hroom.1 hroom.2 X' e1 e2 hT hq hL
  exact ⟨u, hstep₁ _ (fun acts => by rw [doInvoke_state]; exact hsteps.trans s1), q1⟩
end THC
