/-! THROWS -/
/-- a walk seen from where it stands: the state that it began in, with the heap of now -/
def nowS (s T : State) : State := { s with heap := T.heap, slotsUsed := T.slotsUsed }
theorem Stand_now {p : Program} {l : Launch} {e : Env} {R : Room} {s : State} {m : MethodId} {args : Array Value} {below : List Frame} {meth : Method} {c : Code} {T : State} {locs : List Loc} {cells slots : Nat} (X : Stand p l e R s m args below meth c T locs cells slots) (h1 : cells ≤ R.cells) (h2 : slots ≤ R.slots) :
    Stand p l e { R with cells := R.cells - cells, slots := R.slots - slots } (nowS s T) m args below meth c T [] 0 0 := by
  refine ⟨X.admits, X.cas, X.clock, X.frames, ?_, X.hears, X.method, X.code, X.here, X.tail, X.warmed, X.limits, X.bytes, ?_⟩
  · have hr := X.room
    have hb := X.book
    have hz := X.heapSize
    have hu := X.used
    simp only [State.hasRoom, Bool.and_eq_true, decide_eq_true_eq] at hr ⊢
    refine ⟨⟨⟨⟨hr.1.1.1.1, hr.1.1.1.2⟩, ?_⟩, ?_⟩, hb⟩
    · have := hr.1.1.2
      show T.heap.size + (R.cells - cells) ≤ _
      omega
    · have := hr.1.2
      show T.slotsUsed + (R.slots - slots) ≤ _
      omega
  · have hs := X.same.1
    refine ⟨?_, Nat.le_refl _, Nat.le_refl _, ?_, ?_, ?_⟩
    · exact hs
    · show T.slotsUsed = T.slotsUsed + ((T.heap.toList.drop T.heap.size).map (·.slots.size)).sum
      rw [List.drop_of_length_le (by simp)]
      rfl
    · show ((T.heap.toList.drop T.heap.size).map (·.slots.size)).sum ≤ 0
      rw [List.drop_of_length_le (by simp)]
      exact Nat.le_refl _
    · intro a c h
      exact ⟨c, h, rfl, rfl, fun _ _ => rfl⟩
theorem zq_isRef {S n d : String} {A : Nat → Prop} {U : State} {args : Array Value} (h : va_Zq S n d A U U.heap) : (Cond.isRef (.static S n d)).before args U = true := by
  rcases h with ⟨cf, kf, fi, f, a, cell, h1, h2, h3, h4, h5, h6, h7, h8⟩ | ⟨t, cf, kf, fi, f, a, cell, h1, h2, h3, h4, h5, h6, h7, h8⟩
  · simp [Cond.before, Cond.holds, Cond.value, Term.eval, State.fieldNamed?, h1, h2, h4, h5, h6, h7, Value.isRef]
  · simp [Cond.before, Cond.holds, Cond.value, Term.eval, State.fieldNamed?, h1, h2, h4, h5, h6, h7, Value.isRef]
abbrev thUp : List String := ["java/lang/RuntimeException", "java/lang/Exception"]
def thOk (own : String) (ic : Nat) (X : String) : Prop := ∀ w ∈ Bundle.ownAtoms own ic X thUp, w = .isRef (.static "java/lang/Throwable" "UNASSIGNED_STACK" "[Ljava/lang/StackTraceElement;") ∨ w = .isRef (.static "java/lang/Throwable" "SUPPRESSED_SENTINEL" "Ljava/util/List;") ∨ w = .laysStatic "java/lang/Throwable" "UNASSIGNED_STACK" "[Ljava/lang/StackTraceElement;" ∨ w = .laysStatic "java/lang/Throwable" "SUPPRESSED_SENTINEL" "Ljava/util/List;" ∨ (w ∈ lw_tbl ∧ kw w = true)
theorem th_78 : thOk RX7 78 "java/lang/IllegalArgumentException" := by unfold thOk; decide +kernel
theorem th_89 : thOk RX7 89 "java/lang/IllegalStateException" := by unfold thOk; decide +kernel

def vQX (D : va_G) (X : String) (wi : va_W) (A : Nat → Prop) : Array Value → State → Outcome → State → Prop := fun _ st oc t =>
  (∃ a : Nat, oc = .threw a ∧ va_P D vwCl wi t.heap ∧ va_K D vwCl (tysOf D) t ∧ va_D A wi ∧ ∃ cell : Cell, t.heap[a]? = some cell ∧ cell.vm = .none ∧ t.vm.findClass X = some cell.cls) ∧ va_F A st t
/-- a contract of a call that throws an X and leaves the cells wi as they were -/
def vMX (l : Launch) (D : va_G) (y : MethodName) (cc : ByteArray) (maxL : Nat) (ret : Option FieldType) (rm : Room) (av : List Value) (wi : va_W) (X : String) : Prop :=
  ∀ sz : Nat, MetFree l y (headSpec [.code y cc maxL ret] rm) (va_Pc av (vPre D wi sz)) (fun _ _ _ _ _ => True) (fun a st o t => vQX D X wi (va_A wi sz) a st o t ∧ ∃ L, FrameEndT st o t L rm.cells rm.slots ∧ ∀ q ∈ L, va_A wi sz q.base)
def MQX (below : List Frame) (D : va_G) (X : String) (wi : va_W) (a : Array Value) (s : State) (mc ms : Nat) (A : Nat → Prop) : State → Prop := fun t => ∃ o, t.status = .running ∧ Ended t below o ∧ vQX D X wi A a s o t ∧ ∃ L, FrameEndT s o t L mc ms ∧ ∀ q ∈ L, A q.base
def vRetX (C : Cx) (rm : Room) (wi : va_W) (X : String) : Prop := C.Q = MQX C.below C.D X wi C.args C.s rm.cells rm.slots (va_A wi C.s.heap.size) ∧ C.A = va_A wi C.s.heap.size ∧ ∀ pc : Nat, ∀ x ∈ C.c.exceptionTable.toList, covers x pc = false
theorem vMX.of {l : Launch} {D : va_G} {y : MethodName} {cc : ByteArray} {maxL : Nat} {ret : Option FieldType} {rm : Room} {av : List Value} {wi : va_W} {X : String} (hy : plainName y.cls = true) (hlen : (lg_sl av).length ≤ maxL)
    (body : ∀ C : Cx, C.l = l → C.D = D → vG C cc y.cls maxL rm → vRetX C rm wi X → VJ C 0 0 0 (lv_args 0 av) [] wi) : vMX l D y cc maxL ret rm av wi X := by
  intro sz
  refine MetFree.of_bodyS (code := cc) (maxLocals := maxL) (ret := ret) hy ?_ ?_
  · intro args s m h hn
    obtain ⟨meth, c, h1, h2, h3, h4, h5, h6, -, -⟩ := Cond.code_spec hn (atoms_spec (ws := [.code y cc maxL ret]) h _ List.mem_cons_self)
    exact ⟨meth, c, h1, h2, h3, h4, h5, h6⟩
  · intro p e s m args below meth c s₁ B hml hv _
    obtain ⟨rfl, hsz, hP, hK, hD0, hG⟩ := hv
    subst hsz
    have hcode := atoms_spec (ws := [.code y cc maxL ret]) B.pre _ List.mem_cons_self
    have hh0 : s₁.heap = s.heap := by rw [B.state]; rfl
    have hown := findClass_of_methodNamed B.named
    have hD := hD0.self (sz := s.heap.size)
    have hl := lv_entry av (n := maxL) hlen
    have key : W p l e rm s m av.toArray below meth c s.heap [] 0 0 (MQX below D X wi av.toArray s rm.cells rm.slots (va_A wi s.heap.size)) (entryFrame m av.toArray maxL) := by
      rw [lg_entry_eq]
      exact body (p, l, e, rm, s, m, av.toArray, below, meth, c, maxL, D, va_A wi s.heap.size, MQX below D X wi av.toArray s rm.cells rm.slots (va_A wi s.heap.size)) rfl rfl
        ⟨B.exec, B.bytes, hml, hown, hK, fun q h => Or.inr h, B.notSynchronized, hG, rfl, rfl⟩ ⟨rfl, rfl, fun pc => covers_of_empty (B.noHandlers hcode) pc⟩ _ s.heap [] hl hP hD va_S.rf
    obtain ⟨t, a1, o, b1, b2, b3⟩ := key s₁ hh0 (Stand.of_body B)
    exact ⟨t, o, a1, b1, b2, b3⟩
/-- no stack traces -/
def noTr (l : Launch) : Prop := l.stackTraces = false
theorem noTr.off {l : Launch} {e : Env} (h : noTr l) (ha : l.admits e) : e.platform.stackTraces = false := by
  have := ha.platform
  rw [this]
  exact h
/-- nothing old has changed -/
theorem same_all {s t : State} {k n : Nat} (h : s.sameButNew t [] k n) {q : Nat} {c : Cell} (hc : s.heap[q]? = some c) : t.heap[q]? = some c := by
  obtain ⟨c', h1, h2, h3, h4⟩ := h.2.2.2.2.2 q c hc
  have e : c'.slots = c.slots := by
    apply Array.ext_getElem?
    intro i
    exact h4 i (by simp)
  rw [h1, h2, e]
theorem same_now {s T U : State} {locs : List Loc} {k n k1 n1 : Nat} (h : s.sameButNew (T.setVm s.vm) locs k n) (h2 : (nowS s T).sameButNew ({ U with vm := s.vm } : State) [] k1 n1) : (T.setVm s.vm).sameButNew ({ U with vm := s.vm } : State) [] k1 n1 := by
  refine ⟨?_, h2.2⟩
  have e1 := h2.1
  have e2 : (T.setVm s.vm) = { s.setFrames T.frames with heap := T.heap, slotsUsed := T.slotsUsed } := h.1
  refine e1.trans ?_
  rw [e2]
  generalize ({ U with vm := s.vm } : State).frames = f
  have e3 : ({ s.setFrames T.frames with heap := T.heap, slotsUsed := T.slotsUsed } : State).setFrames f = { (s.setFrames T.frames).setFrames f with heap := T.heap, slotsUsed := T.slotsUsed } := rfl
  rw [e3, State.setFrames_setFrames]
  rfl

theorem v_throw {C : Cx} {cc : ByteArray} {own : String} {nL : Nat} {rm : Room} {k n pc : Nat} {lv : List (Nat × Value)} {wi : va_W} {X tx : String} {ic ix ms qm : Nat} (g : vG C cc own nL rm) (hL : noTr C.l) (R : vRetX C rm wi X) (ok : thOk own ic X) (hcl : Cond.classLink own ix X ∈ lw_tbl) (hin : Cond.instantiable X 6 ∈ lw_tbl) (hii : Cond.initialized X ∈ lw_tbl) (hfit : Bundle.fit X = true) (hm : vk_R own ms tx qm C.s)
    (h0 : decode cc pc = .ok (.new ix, 3)) (h3 : decode cc (pc + 3) = .ok (.dup, 1)) (h4 : decode cc (pc + 4) = .ok (.ldc ms, 2)) (h6 : decode cc (pc + 6) = .ok (.invokespecial ic, 3)) (h9 : decode cc (pc + 9) = .ok (.athrow, 1)) (hk : k + 1 ≤ rm.cells) (hn : n + 6 ≤ rm.slots) (hfr : 5 < rm.frames) (hlo : 82 ≤ rm.locals) : VJ C k n pc lv [] wi := fun ls H locs hl hP hD hS T hT X0 => by
  have X1 := Stand_now X0 (by rw [g.rmE]; omega) (by rw [g.rmE]; omega)
  have hw : ∀ w, w ∈ lw_tbl → kw w = true → w.before C.args (nowS C.s T) = true := fun w h1 h2 => g.gv.1.to (U := nowS C.s T) (State.WarmedH.refl C.s) h1 h2
  have hSx : va_S C.A C.s.heap T.heap locs := by rw [hT]; exact hS
  have gx : Gx C.D C.A (nowS C.s T) T.heap := g.gx.go (U := nowS C.s T) (H := T.heap) (A' := C.A) (State.WarmedH.refl C.s) hSx.2.1 (fun _ h => h)
  have hatoms : ∀ w ∈ Bundle.ownAtoms own ic X thUp, w.before C.args (nowS C.s T) = true := fun w hwm => by
    rcases ok w hwm with rfl | rfl | rfl | rfl | ⟨h1, h2⟩
    · exact zq_isRef gx.1
    · exact zq_isRef gx.2.1
    · exact Gl.word gx.2.2.2.2.2.2.1
    · exact Gl.word gx.2.2.2.2.2.2.2
    · exact hw w h1 h2
  obtain ⟨vm₁, cX, kX, hfX, hkX, -, -, X2, st1⟩ := X1.newCold g.x (own := own) (C := X) (index := ix) (n := 6) g.ow (hw _ hcl rfl) (hw _ hin rfl) (hw _ hii rfl) (g := F0 C.m pc ls []) rfl (by rw [g.b]; exact h0) (by show 0 + 1 ≤ C.R.cells - k; rw [g.rmE]; omega) (by show 0 + 6 ≤ C.R.slots - n; rw [g.rmE]; omega)
  generalize hT2 : (T.setVm vm₁).pushCell { cls := cX, slots := kX.instanceTypes.map defaultValue, vm := .none } = T2 at X2 st1
  have hcell : T2.heap[T.heap.size]? = some (freshCell cX kX) := by rw [← hT2]; exact State.heap_pushCell_size _ _
  obtain ⟨U, hsteps, hrun, hend, hW, hsame, ce, hce, K⟩ := X2.ctorThrowS g.x (hL.off X0.admits) (own := own) (cls := X) (names := thUp) (ic := ic) g.ow hfit (by decide +kernel) hatoms (fun y hy => by cases hy) hfX hkX hcell (Nat.le_refl _) (msg := .ref qm) rfl (g := F0 C.m (pc + 6) ls [.ref qm, .ref T.heap.size, .ref T.heap.size]) rfl (hl.1.trans g.ml.symm) rfl rfl (rest := []) rfl (by rw [g.b]; exact h6) (by rw [g.b]; exact h9) (R.2.2 _) (by show 2 + 3 < C.R.frames; rw [g.rmE]; exact hfr) (by show 2 * 0 + (1 + 0) + (13 * (2 + 1) + 42) ≤ C.R.locals; rw [g.rmE]; exact hlo) (hlocks := g.lk)
  have ho : ∀ q c, T.heap[q]? = some c → U.heap[q]? = some c := fun q c h => same_all hsame h
  have hWs : C.s.WarmedH U.vm := hW
  have hz : T.heap.size ≤ U.heap.size := hsame.2.1
  have step : Steps C.p.tables C.e C.below (T.setTop (F0 C.m pc ls [])) U := by
    refine st1 _ ?_
    show Steps C.p.tables C.e C.below (T2.setTop (F0 C.m (pc + 3) ls [.ref T.heap.size])) _
    jvm_step X2.here [X2.here.top, g.x, g.b, h3, Value.category]
    exact X2.ldcString g.x g.ow (hm.same (U := nowS C.s T) rfl).1 (hm.same (U := nowS C.s T) rfl).2 (g := F0 C.m (pc + 4) ls [.ref T.heap.size, .ref T.heap.size]) rfl (by rw [g.b]; exact h4) _ hsteps
  refine ⟨U, step, ?_⟩
  rw [R.1]
  refine ⟨.threw T.heap.size, hrun, hend, ⟨⟨T.heap.size, rfl, ?_, va_K.moved hWs.alike g.K, by rw [← R.2.1]; exact hD, ce, hce, K.vm, ?_⟩, ?_⟩, locs, ⟨⟨_, rfl⟩, hWs, ?_⟩, fun q hq => by rw [← R.2.1]; exact hS.2.2 q hq⟩
  · refine hP.kept (fun j x hx => ?_)
    have hlt := (hP j x hx).lt
    obtain ⟨c0, hc0⟩ : ∃ c0, H[x.1]? = some c0 := ⟨_, Array.getElem?_eq_getElem hlt⟩
    rw [hc0]
    exact ho _ _ (by rw [hT]; exact hc0)
  · rw [hWs.alike.findClass X _]
    exact K.cls
  · rw [← R.2.1]
    refine ⟨Nat.le_trans hSx.1 hz, fun q h1 h2 => ?_⟩
    obtain ⟨c0, hc0⟩ : ∃ c0, C.s.heap[q]? = some c0 := ⟨_, Array.getElem?_eq_getElem h1⟩
    rw [hc0]
    exact ho _ _ (by rw [hSx.2.1 q h1 h2]; exact hc0)
  · exact (X0.same.trans (same_now X0.same hsame)).weaken (fun y hy _ => by simpa using hy) (by omega) (by omega)
