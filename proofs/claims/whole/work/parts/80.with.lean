/-! methods with a table of handlers -/
def NoA (U : State) : Prop := (Cond.not (.castable "java/lang/IllegalStateException" "java/lang/IllegalArgumentException")).before #[] U = true
theorem NoA.to {s U : State} (h : NoA s) (hW : s.vm.Alike U.vm) (a : Array Value) : (Cond.not (.castable "java/lang/IllegalStateException" "java/lang/IllegalArgumentException")).before a U = true := by
  have z := Cond.notCastable_moved (args' := a) (T := U) hW h
  rwa [State.setVm_self] at z
def untab (hh : List (Nat × Nat × Nat × Nat)) : List ExceptionTableEntry := hh.map (fun q => ⟨q.1, q.2.1, q.2.2.1, q.2.2.2⟩)
theorem untab_eq (t : List ExceptionTableEntry) : untab (t.map (fun h => (h.startPc, h.endPc, h.handlerPc, h.catchType))) = t := by
  unfold untab
  rw [List.map_map]
  exact List.map_id' t
def vPreW (D : va_G) (wi : va_W) (sz : Nat) (U : State) : Prop := vPre D wi sz U ∧ NoA U
def vMW (l : Launch) (D : va_G) (y : MethodName) (cc : ByteArray) (maxL : Nat) (ret : Option FieldType) (hh : List (Nat × Nat × Nat × Nat)) (rm : Room) (av : List Value) (wi : va_W) (post : Option Value → va_W → Prop) : Prop :=
  ∀ sz : Nat, Met l y [.codeWith y cc maxL ret hh] rm (va_Pc av (vPreW D wi sz)) (vQ D post (va_A wi sz)) rm.cells rm.slots (va_A wi sz)
theorem vMW.of {l : Launch} {D : va_G} {y : MethodName} {cc : ByteArray} {maxL : Nat} {ret : Option FieldType} {hh : List (Nat × Nat × Nat × Nat)} {rm : Room} {av : List Value} {wi : va_W} {post : Option Value → va_W → Prop} (hy : plainName y.cls = true) (hlen : (lg_sl av).length ≤ maxL)
    (body : ∀ C : Cx, C.l = l → C.D = D → C.c.exceptionTable.toList = untab hh → NoA C.s → vG C cc y.cls maxL rm → vRet C rm ret wi post → VJ C 0 0 0 (lv_args 0 av) [] wi) : vMW l D y cc maxL ret hh rm av wi post := by
  intro sz
  refine va_MetW (cc := cc) (maxL := maxL) (ret := ret) (hh := hh) hy rfl ?_
  intro p e s m args below meth c s₁ B hml hv
  obtain ⟨rfl, ⟨hsz, hP, hK, hD0, hG⟩, hN⟩ := hv
  subst hsz
  have hown := findClass_of_methodNamed B.named
  have hD := hD0.self (sz := s.heap.size)
  have hl := lv_entry av (n := maxL) hlen
  have X0 := Stand.of_body B
  have hw : (Cond.codeWith y cc maxL ret hh).before av.toArray s = true := atoms_spec (ws := [.codeWith y cc maxL ret hh]) B.pre _ List.mem_cons_self
  obtain ⟨m9, meth9, c9, q1, q2, q3, -, -, q4, -⟩ := Cond.codeWith_spec hw
  cases B.named.symm.trans q1
  cases X0.method.symm.trans q2
  cases X0.code.symm.trans q3
  have ht : c.exceptionTable.toList = untab hh := by rw [← q4]; exact (untab_eq _).symm
  rw [lg_entry_eq]
  exact body (p, l, e, rm, s, m, av.toArray, below, meth, c, maxL, D, va_A wi s.heap.size, MQ below (vQ D post (va_A wi s.heap.size)) av.toArray s rm.cells rm.slots (va_A wi s.heap.size)) rfl rfl ht hN
    ⟨B.exec, B.bytes, hml, hown, hK, fun q h => Or.inr h, B.notSynchronized, hG, rfl, rfl⟩ ⟨rfl, rfl, B.returns⟩ _ s.heap [] hl hP hD va_S.rf
section WTH
variable {C : Cx} {cc : ByteArray} {own : String} {nL : Nat} {rm : Room} {k n pc : Nat} {lv : List (Nat × Value)} {st : List Value}
theorem v_callVC {y : MethodName} {cc' : ByteArray} {maxL' idx b ci N np : Nat} {ret' : Option FieldType} {rm' : Room} {As rest : List Value} {wi wc wr : va_W} {X : String} {fs : List Value} {Tt : u_T} (w : GoodIn lw_tbl (wsV own idx y.cls y [.code y cc' maxL' ret'])) (hy : y.cls ≠ "java/lang/invoke/MethodHandle" ∧ y.cls ≠ "java/lang/invoke/VarHandle" ∧ (parseMethodDescriptor y.desc).map (fun d => d.parameters.length) = some np)
    (g : vG C cc own nL rm) (M : vMX C.l C.D y cc' maxL' ret' rm' (.ref b :: As) wc X) (hd : decode cc pc = .ok (.invokevirtual idx, 3)) (q0 : Nat) (he : wi[q0]? = some (b, .inr (ci, fs))) (hc : vwCl[ci]? = some (y.cls, Tt, N)) (hnp : As.length = np) (hR : rm'.frames + 1 ≤ rm.frames ∧ 8 + (maxL' + 11) + rm'.locals ≤ rm.locals) (hroom : k + rm'.cells ≤ rm.cells ∧ n + rm'.slots ≤ rm.slots) (hst : (rest.map fun v => v.category).sum ≤ 8)
    (isC isR : List Nat) (hC : isC.map (fun i => wi[i]?) = wc.map some) (hCf : isC.filterMap (fun i => wi[i]?) = wc) (hCn : va_nd isC = true) (hRr : isR.map (fun i => wi[i]?) = wr.map some) (hn : va_nd isR = true) (hdis : ∀ i ∈ isR, i ∉ isC) (pm : List Nat) (hpm : pm.filterMap (fun i => (wr ++ wc)[i]?) = wi) (st0 : List Value) (hst0 : st0 = As.reverse ++ .ref b :: rest)
    (pre : List ExceptionTableEntry) (x : ExceptionTableEntry) (post : List ExceptionTableEntry) (hsplit : C.c.exceptionTable.toList = pre ++ x :: post) (hpass : ∀ y ∈ pre, y.catchType ≠ 0 ∧ ∃ nm, Cond.classLink own y.catchType nm ∈ lw_tbl ∧ (Cond.not (.castable X nm)).before C.args C.s = true) (hx : covers x pc = true) (h0 : x.catchType ≠ 0) (hlx : Cond.classLink own x.catchType X ∈ lw_tbl) (hcx : Cond.castable X X ∈ lw_tbl) (pmn : va_nd pm = true) (hpm2 : pm.map (fun i => (wr ++ wc)[i]?) = wi.map some)
    (KK : ∀ v : Nat, VJ C (k + rm'.cells) (n + rm'.slots) x.handlerPc lv [.ref v] wi) : VJ C k n pc lv st0 wi := fun ls H locs hl hP hD hS T hT X0 => by
  subst hst0
  have hF := va_free (wc := wc) hD hS g.hA isC hC
  have hpre := v_pre (wi := wc) (av := .ref b :: As) g hP hD hS hF isC hC hCf hCn
  have hRR := g.rmE
  have ok := g.wss w
  have wm : ∀ c ∈ wsV own idx y.cls y [.code y cc' maxL' ret'], ∀ a' U, C.s.WarmedH U.vm → c.before a' U = true := fun c hc a' U hW => g.gv.1.to hW (w c hc).1 (kw_of_good (w c hc).2)
  have hcode : (Cond.code y cc' maxL' ret').before C.args C.s = true := ok _ (by simp [wsV])
  obtain ⟨mk, methM, hnamed, hmethM, hstM, habM⟩ := Cond.instanceMethod_spec (ok (.instanceMethod y) (by simp [wsV]))
  obtain ⟨methM', cM, hmethM', -, -, -, -, -, -, hsigM⟩ := Cond.code_spec hnamed hcode
  cases hmethM.symm.trans hmethM'
  obtain ⟨cellB, hcell, hobj, hcls⟩ := va_recv g.K hP hc he
  obtain ⟨c2, r2, m2, q1, q2, q3, q4, kP, hkP, hkPi⟩ := Cond.selects_spec (ok (.selects y.cls y y) (by simp [wsV]))
  cases hcls.symm.trans q1
  cases (State.methodFound?_of_named hnamed ⟨hy.1, hy.2.1⟩).symm.trans q2
  cases hnamed.symm.trans q3
  have hselP : selectMethod C.e.platform C.s.vm cellB.cls mk = .method mk := by rw [Launch.admits_selectMethod X0.admits]; exact q4
  have hlen : As.length = methM.sig.parameters.length := by
    have q := hy.2.2
    rw [hsigM] at q
    rw [hnp]
    exact (Option.some.inj q).symm
  have hK := backX (p := C.p) (e := C.e) (below := C.below) (s := C.s) (sargs := C.args) (R := C.R) (sz := H.size) M hpre.1 (by rw [hRR]; exact hR) (fun a' U hW => wm _ (by simp [wsV]) a' U hW) (fun a' U hW => wm _ (by simp [wsV]) a' U hW)
  obtain ⟨vm₁, X₁, hstep₁⟩ := X0.invokevirtual (index := idx) g.x g.ow (ok _ (by simp [wsV])) hnamed hmethM hstM hkP hkPi ⟨hy.1, hy.2.1⟩ (a := b) (cell := cellB) (by rw [hT]; exact hcell) (fun z h => by rw [h] at hobj; cases hobj) hselP hmethM habM hkP hkPi (g := F0 C.m pc ls (As.reverse ++ .ref b :: rest)) rfl (argsL := As) (rest := rest) hlen rfl (by rw [g.b]; exact hd)
  obtain ⟨v, B, X', ⟨g', mk', t, L, e1, e2, hq, h1, hL, h2, h3⟩, hsteps⟩ := hK C.m C.meth C.c ⟨T.setVm vm₁, locs, k, n⟩ (F0 C.m pc ls rest) (.invokevirtual idx) mk (Value.ref b :: As).toArray X₁ rfl (hl.1.trans g.ml.symm) (by rw [g.b]; exact hd) (lv_room hst) (X₁.named hnamed) ⟨by rw [hRR]; exact hroom.1, by rw [hRR]; exact hroom.2, hpre.2 (T.setVm vm₁) hT X₁.warmed⟩
  obtain ⟨BU, Bl, Bc, Bs⟩ := B
  dsimp only [Pt.U, Pt.locs, Pt.cells, Pt.slots] at X' e1 e2 h1 h2 h3 hsteps
  subst h1; subst h2; subst h3
  obtain ⟨⟨v', hv', hP1, hK1, hD1, cell, hc1, hc2, hc3⟩, hz, hkp⟩ := hq
  cases hv'
  have hT0 : (((T.setVm vm₁).calling g' mk' (Value.ref b :: As).toArray)).heap = H := hT
  rw [hT0] at hz hkp
  rw [← e1] at hP1 hz hkp hc1
  rw [← e2] at hc3
  obtain ⟨hP2, hD2⟩ := va_join hP hD isC isR hC hRr hn hdis hkp hF hP1 hD1
  have hcls : C.s.vm.findClass X = some cell.cls := by rw [← hc3]; exact (X'.warmed.alike.findClass X _).symm
  have hpl : C.e.platform.magicAccessors = ({} : Platform).magicAccessors := by rw [X'.admits.platform]
  obtain ⟨ca, cb, f1, f2, f3⟩ := Cond.castable_spec (g.w hcx rfl)
  cases hcls.symm.trans f1
  cases f2.symm.trans f1
  obtain ⟨hend, hk0⟩ := X'.catches_of_link g.ow h0 (g.w hlx rfl) f2 f3
  have hps : ∀ y ∈ pre, RowPassed C.e.platform C.s C.m.cls pc cell.cls y := fun y hy => by
    obtain ⟨z1, nm, z2, z3⟩ := hpass y hy
    exact RowPassed.of_words hpl g.ow z1 (g.w z2 rfl) hcls z3
  obtain ⟨vm', XV, stc⟩ := X'.thenCaughtThrough v (g := F0 C.m pc ls rest) rfl (hstep₁ _ (fun acts => by rw [doInvoke_state]; exact hsteps)) hc1 (by rw [hc2]; rfl) hk0 pre x post hsplit hps hx hend
  have hS2 : va_S C.A C.s.heap BU.heap (locs ++ L) := ⟨Nat.le_trans hS.1 hz, fun q h1 h2 => by
      rw [hkp q (Nat.lt_of_lt_of_le h1 hS.1) (fun z => h2 (hF q z))]; exact hS.2.1 q h1 h2, fun q hq => by
      rcases List.mem_append.mp hq with h | h
      · exact hS.2.2 q h
      · exact hF _ (hL q h)⟩
  obtain ⟨t2, a1, b1⟩ := KK v ls BU.heap (locs ++ L) hl (hP2.sub pm hpm) (hD2.sub pm pmn hpm2) hS2 (BU.setVm vm') rfl XV
  exact ⟨t2, stc.trans a1, b1⟩
end WTH
