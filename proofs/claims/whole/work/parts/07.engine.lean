/-! ENGINE: a judgement over W with everything that stays the same inside a method put into one value C. -/
abbrev Cx : Type := Program × Launch × Env × Room × State × MethodId × Array Value × List Frame × Method × Code × Nat × va_G × (Nat → Prop) × (State → Prop)
abbrev Cx.p (C : Cx) : Program := C.1
abbrev Cx.l (C : Cx) : Launch := C.2.1
abbrev Cx.e (C : Cx) : Env := C.2.2.1
abbrev Cx.R (C : Cx) : Room := C.2.2.2.1
abbrev Cx.s (C : Cx) : State := C.2.2.2.2.1
abbrev Cx.m (C : Cx) : MethodId := C.2.2.2.2.2.1
abbrev Cx.args (C : Cx) : Array Value := C.2.2.2.2.2.2.1
abbrev Cx.below (C : Cx) : List Frame := C.2.2.2.2.2.2.2.1
abbrev Cx.meth (C : Cx) : Method := C.2.2.2.2.2.2.2.2.1
abbrev Cx.c (C : Cx) : Code := C.2.2.2.2.2.2.2.2.2.1
abbrev Cx.nL (C : Cx) : Nat := C.2.2.2.2.2.2.2.2.2.2.1
abbrev Cx.D (C : Cx) : va_G := C.2.2.2.2.2.2.2.2.2.2.2.1
abbrev Cx.A (C : Cx) : Nat → Prop := C.2.2.2.2.2.2.2.2.2.2.2.2.1
abbrev Cx.Q (C : Cx) : State → Prop := C.2.2.2.2.2.2.2.2.2.2.2.2.2
def VJ (C : Cx) (k n pc : Nat) (lv : List (Nat × Value)) (st : List Value) (ws : va_W) : Prop :=
  ∀ (ls : Array Slot) (H : Heap) (locs : List Loc), lv_has ls C.nL lv → va_P C.D vwCl ws H → va_D C.A ws → va_S C.A C.s.heap H locs →
    W C.p C.l C.e C.R C.s C.m C.args C.below C.meth C.c H locs k n C.Q (F0 C.m pc ls st)
/-- what holds all through a method: the machine, the bytes, the class, the facts that every method may use -/
def vG (C : Cx) (cc : ByteArray) (own : String) (nL : Nat) (rm : Room) : Prop :=
  C.p.tables.exec = Jvm.exec ∧ C.c.code = cc ∧ C.c.maxLocals = C.nL ∧ C.s.vm.findClass own = some C.m.cls ∧ va_K C.D vwCl (tysOf C.D) C.s ∧ (∀ q, C.s.heap.size ≤ q → C.A q) ∧ C.meth.locks = false ∧ Gv C.D C.A C.s C.s.heap ∧ C.nL = nL ∧ C.R = rm
section ENG
variable {C : Cx} {cc : ByteArray} {own : String} {nL : Nat} {rm : Room} {k n pc : Nat} {lv : List (Nat × Value)} {st : List Value} {ws : va_W}
theorem vG.x (g : vG C cc own nL rm) : C.p.tables.exec = Jvm.exec := g.1
theorem vG.b (g : vG C cc own nL rm) : C.c.code = cc := g.2.1
theorem vG.ml (g : vG C cc own nL rm) : C.c.maxLocals = C.nL := g.2.2.1
theorem vG.ow (g : vG C cc own nL rm) : C.s.vm.findClass own = some C.m.cls := g.2.2.2.1
theorem vG.K (g : vG C cc own nL rm) : va_K C.D vwCl (tysOf C.D) C.s := g.2.2.2.2.1
theorem vG.hA (g : vG C cc own nL rm) : ∀ q, C.s.heap.size ≤ q → C.A q := g.2.2.2.2.2.1
theorem vG.lk (g : vG C cc own nL rm) : C.meth.locks = false := g.2.2.2.2.2.2.1
theorem vG.gv (g : vG C cc own nL rm) : Gv C.D C.A C.s C.s.heap := g.2.2.2.2.2.2.2.1
theorem vG.nl (g : vG C cc own nL rm) : C.nL = nL := g.2.2.2.2.2.2.2.2.1
theorem vG.rmE (g : vG C cc own nL rm) : C.R = rm := g.2.2.2.2.2.2.2.2.2
theorem v_iconst (g : vG C cc own nL rm) {c : Int} {v : Int32} (hd : decode cc pc = .ok (.iconst c, 1)) (hv : Int32.ofInt c = v) (K : VJ C k n (pc + 1) lv (.int v :: st) ws) : VJ C k n pc lv st ws := fun ls H locs hl hP hD hS => lv_iconst g.x g.b hd hv (K ls H locs hl hP hD hS)
theorem v_bipush (g : vG C cc own nL rm) {c : Int} {v : Int32} (hd : decode cc pc = .ok (.bipush c, 2)) (hv : (Int8.ofInt c).toInt32 = v) (K : VJ C k n (pc + 2) lv (.int v :: st) ws) : VJ C k n pc lv st ws := fun ls H locs hl hP hD hS => lv_bipush g.x g.b hd hv (K ls H locs hl hP hD hS)
theorem v_sipush (g : vG C cc own nL rm) {c : Int} {v : Int32} (hd : decode cc pc = .ok (.sipush c, 3)) (hv : (Int16.ofInt c).toInt32 = v) (K : VJ C k n (pc + 3) lv (.int v :: st) ws) : VJ C k n pc lv st ws := fun ls H locs hl hP hD hS => lv_sipush g.x g.b hd hv (K ls H locs hl hP hD hS)
theorem v_lconst (g : vG C cc own nL rm) {c : Fin 2} {v : Int64} (hd : decode cc pc = .ok (.lconst c, 1)) (hv : Int64.ofNat (c : Nat) = v) (K : VJ C k n (pc + 1) lv (.long v :: st) ws) : VJ C k n pc lv st ws := fun ls H locs hl hP hD hS => lv_lconst g.x g.b hd hv (K ls H locs hl hP hD hS)
theorem v_iload (g : vG C cc own nL rm) {i : Nat} {x : Int32} (hd : decode cc pc = .ok (.iload i, 2)) (j : Nat) (hj : lv[j]? = some (i, .int x)) (K : VJ C k n (pc + 2) lv (.int x :: st) ws) : VJ C k n pc lv st ws := fun ls H locs hl hP hD hS => lv_iload g.x g.b hd (lv_at hl j hj) (K ls H locs hl hP hD hS)
theorem v_iload_n (g : vG C cc own nL rm) {q : Fin 4} {x : Int32} (hd : decode cc pc = .ok (.iload_n q, 1)) (i : Nat) (hi : (q : Nat) = i) (j : Nat) (hj : lv[j]? = some (i, .int x)) (K : VJ C k n (pc + 1) lv (.int x :: st) ws) : VJ C k n pc lv st ws := fun ls H locs hl hP hD hS => lv_iload_n g.x g.b hd hi (lv_at hl j hj) (K ls H locs hl hP hD hS)
theorem v_lload (g : vG C cc own nL rm) {i : Nat} {x : Int64} (hd : decode cc pc = .ok (.lload i, 2)) (j : Nat) (hj : lv[j]? = some (i, .long x)) (K : VJ C k n (pc + 2) lv (.long x :: st) ws) : VJ C k n pc lv st ws := fun ls H locs hl hP hD hS => lv_lload g.x g.b hd (lv_at hl j hj) (K ls H locs hl hP hD hS)
theorem v_lload_n (g : vG C cc own nL rm) {q : Fin 4} {x : Int64} (hd : decode cc pc = .ok (.lload_n q, 1)) (i : Nat) (hi : (q : Nat) = i) (j : Nat) (hj : lv[j]? = some (i, .long x)) (K : VJ C k n (pc + 1) lv (.long x :: st) ws) : VJ C k n pc lv st ws := fun ls H locs hl hP hD hS => lv_lload_n g.x g.b hd hi (lv_at hl j hj) (K ls H locs hl hP hD hS)
theorem v_aload (g : vG C cc own nL rm) {i : Nat} {x : Nat} (hd : decode cc pc = .ok (.aload i, 2)) (j : Nat) (hj : lv[j]? = some (i, .ref x)) (K : VJ C k n (pc + 2) lv (.ref x :: st) ws) : VJ C k n pc lv st ws := fun ls H locs hl hP hD hS => lv_aload g.x g.b hd (lv_at hl j hj) (K ls H locs hl hP hD hS)
theorem v_aload_n (g : vG C cc own nL rm) {q : Fin 4} {x : Nat} (hd : decode cc pc = .ok (.aload_n q, 1)) (i : Nat) (hi : (q : Nat) = i) (j : Nat) (hj : lv[j]? = some (i, .ref x)) (K : VJ C k n (pc + 1) lv (.ref x :: st) ws) : VJ C k n pc lv st ws := fun ls H locs hl hP hD hS => lv_aload_n g.x g.b hd hi (lv_at hl j hj) (K ls H locs hl hP hD hS)
theorem v_istore (g : vG C cc own nL rm) {i : Nat} {x : Int32} (lv' : List (Nat × Value)) (hd : decode cc pc = .ok (.istore i, 2)) (hn : i < nL) (hl0 : (i, Value.int x) :: lv.filter (fun q => !(q.1 == i) && !(q.1 + 1 == i && q.2.category == 2)) = lv') (K : VJ C k n (pc + 2) lv' st ws) : VJ C k n pc lv (.int x :: st) ws := fun ls H locs hl hP hD hS => lv_istore g.x g.b hd hl (by rw [g.nl]; exact hn) hl0 (fun ls' hl' => K ls' H locs hl' hP hD hS)
theorem v_istore_n (g : vG C cc own nL rm) {q : Fin 4} {x : Int32} (lv' : List (Nat × Value)) (hd : decode cc pc = .ok (.istore_n q, 1)) (i : Nat) (hi : (q : Nat) = i) (hn : i < nL) (hl0 : (i, Value.int x) :: lv.filter (fun q => !(q.1 == i) && !(q.1 + 1 == i && q.2.category == 2)) = lv') (K : VJ C k n (pc + 1) lv' st ws) : VJ C k n pc lv (.int x :: st) ws := fun ls H locs hl hP hD hS => lv_istore_n g.x g.b hd hi hl (by rw [g.nl]; exact hn) hl0 (fun ls' hl' => K ls' H locs hl' hP hD hS)
theorem v_lstore (g : vG C cc own nL rm) {i : Nat} {x : Int64} (lv' : List (Nat × Value)) (hd : decode cc pc = .ok (.lstore i, 2)) (hn : i + 1 < nL) (hl0 : (i, Value.long x) :: lv.filter (fun q => !(q.1 == i) && (!(q.1 == i + 1) && !(q.1 + 1 == i && q.2.category == 2))) = lv') (K : VJ C k n (pc + 2) lv' st ws) : VJ C k n pc lv (.long x :: st) ws := fun ls H locs hl hP hD hS => lv_lstore g.x g.b hd hl (by rw [g.nl]; exact hn) hl0 (fun ls' hl' => K ls' H locs hl' hP hD hS)
theorem v_lstore_n (g : vG C cc own nL rm) {q : Fin 4} {x : Int64} (lv' : List (Nat × Value)) (hd : decode cc pc = .ok (.lstore_n q, 1)) (i : Nat) (hi : (q : Nat) = i) (hn : i + 1 < nL) (hl0 : (i, Value.long x) :: lv.filter (fun q => !(q.1 == i) && (!(q.1 == i + 1) && !(q.1 + 1 == i && q.2.category == 2))) = lv') (K : VJ C k n (pc + 1) lv' st ws) : VJ C k n pc lv (.long x :: st) ws := fun ls H locs hl hP hD hS => lv_lstore_n g.x g.b hd hi hl (by rw [g.nl]; exact hn) hl0 (fun ls' hl' => K ls' H locs hl' hP hD hS)
theorem v_astore (g : vG C cc own nL rm) {i : Nat} {x : Nat} (lv' : List (Nat × Value)) (hd : decode cc pc = .ok (.astore i, 2)) (hn : i < nL) (hl0 : (i, Value.ref x) :: lv.filter (fun q => !(q.1 == i) && !(q.1 + 1 == i && q.2.category == 2)) = lv') (K : VJ C k n (pc + 2) lv' st ws) : VJ C k n pc lv (.ref x :: st) ws := fun ls H locs hl hP hD hS => lv_astore g.x g.b hd hl (by rw [g.nl]; exact hn) hl0 (fun ls' hl' => K ls' H locs hl' hP hD hS)
theorem v_astore_n (g : vG C cc own nL rm) {q : Fin 4} {x : Nat} (lv' : List (Nat × Value)) (hd : decode cc pc = .ok (.astore_n q, 1)) (i : Nat) (hi : (q : Nat) = i) (hn : i < nL) (hl0 : (i, Value.ref x) :: lv.filter (fun q => !(q.1 == i) && !(q.1 + 1 == i && q.2.category == 2)) = lv') (K : VJ C k n (pc + 1) lv' st ws) : VJ C k n pc lv (.ref x :: st) ws := fun ls H locs hl hP hD hS => lv_astore_n g.x g.b hd hi hl (by rw [g.nl]; exact hn) hl0 (fun ls' hl' => K ls' H locs hl' hP hD hS)
theorem v_iinc (g : vG C cc own nL rm) {i : Nat} {c : Int} {x v : Int32} (lv' : List (Nat × Value)) (hd : decode cc pc = .ok (.iinc i c, 3)) (j : Nat) (hj : lv[j]? = some (i, .int x)) (hv : x + Int32.ofInt c = v) (hn : i < nL) (hl0 : (i, Value.int v) :: lv.filter (fun q => !(q.1 == i) && !(q.1 + 1 == i && q.2.category == 2)) = lv') (K : VJ C k n (pc + 3) lv' st ws) : VJ C k n pc lv st ws := fun ls H locs hl hP hD hS => lv_iinc g.x g.b hd hl hj hv (by rw [g.nl]; exact hn) hl0 (fun ls' hl' => K ls' H locs hl' hP hD hS)
theorem v_iadd (g : vG C cc own nL rm) {x y : Int32} (hd : decode cc pc = .ok (.iadd, 1)) (K : VJ C k n (pc + 1) lv (.int (x + y) :: st) ws) : VJ C k n pc lv (.int y :: .int x :: st) ws := fun ls H locs hl hP hD hS => lv_iadd g.x g.b hd (K ls H locs hl hP hD hS)
theorem v_isub (g : vG C cc own nL rm) {x y : Int32} (hd : decode cc pc = .ok (.isub, 1)) (K : VJ C k n (pc + 1) lv (.int (x - y) :: st) ws) : VJ C k n pc lv (.int y :: .int x :: st) ws := fun ls H locs hl hP hD hS => lv_isub g.x g.b hd (K ls H locs hl hP hD hS)
theorem v_imul (g : vG C cc own nL rm) {x y : Int32} (hd : decode cc pc = .ok (.imul, 1)) (K : VJ C k n (pc + 1) lv (.int (x * y) :: st) ws) : VJ C k n pc lv (.int y :: .int x :: st) ws := fun ls H locs hl hP hD hS => lv_imul g.x g.b hd (K ls H locs hl hP hD hS)
theorem v_iand (g : vG C cc own nL rm) {x y : Int32} (hd : decode cc pc = .ok (.iand, 1)) (K : VJ C k n (pc + 1) lv (.int (x &&& y) :: st) ws) : VJ C k n pc lv (.int y :: .int x :: st) ws := fun ls H locs hl hP hD hS => lv_iand g.x g.b hd (K ls H locs hl hP hD hS)
theorem v_ior (g : vG C cc own nL rm) {x y : Int32} (hd : decode cc pc = .ok (.ior, 1)) (K : VJ C k n (pc + 1) lv (.int (x ||| y) :: st) ws) : VJ C k n pc lv (.int y :: .int x :: st) ws := fun ls H locs hl hP hD hS => lv_ior g.x g.b hd (K ls H locs hl hP hD hS)
theorem v_ixor (g : vG C cc own nL rm) {x y : Int32} (hd : decode cc pc = .ok (.ixor, 1)) (K : VJ C k n (pc + 1) lv (.int (x ^^^ y) :: st) ws) : VJ C k n pc lv (.int y :: .int x :: st) ws := fun ls H locs hl hP hD hS => lv_ixor g.x g.b hd (K ls H locs hl hP hD hS)
theorem v_ishl (g : vG C cc own nL rm) {x y : Int32} (hd : decode cc pc = .ok (.ishl, 1)) (K : VJ C k n (pc + 1) lv (.int (x <<< (y &&& 31)) :: st) ws) : VJ C k n pc lv (.int y :: .int x :: st) ws := fun ls H locs hl hP hD hS => lv_ishl g.x g.b hd (K ls H locs hl hP hD hS)
theorem v_ishr (g : vG C cc own nL rm) {x y : Int32} (hd : decode cc pc = .ok (.ishr, 1)) (K : VJ C k n (pc + 1) lv (.int (x >>> (y &&& 31)) :: st) ws) : VJ C k n pc lv (.int y :: .int x :: st) ws := fun ls H locs hl hP hD hS => lv_ishr g.x g.b hd (K ls H locs hl hP hD hS)
theorem v_idiv (g : vG C cc own nL rm) {x y : Int32} (hd : decode cc pc = .ok (.idiv, 1)) (hne : ¬ y = 0) (K : VJ C k n (pc + 1) lv (.int (x / y) :: st) ws) : VJ C k n pc lv (.int y :: .int x :: st) ws := fun ls H locs hl hP hD hS => lv_idiv g.x g.b hd hne (K ls H locs hl hP hD hS)
theorem v_irem (g : vG C cc own nL rm) {x y : Int32} (hd : decode cc pc = .ok (.irem, 1)) (hne : ¬ y = 0) (K : VJ C k n (pc + 1) lv (.int (x - x / y * y) :: st) ws) : VJ C k n pc lv (.int y :: .int x :: st) ws := fun ls H locs hl hP hD hS => lv_irem g.x g.b hd hne (K ls H locs hl hP hD hS)
theorem v_iushr (g : vG C cc own nL rm) {x y : Int32} (hd : decode cc pc = .ok (.iushr, 1)) (K : VJ C k n (pc + 1) lv (.int ((x.toUInt32 >>> (y.toUInt32 &&& Int32.toUInt32 31)).toInt32) :: st) ws) : VJ C k n pc lv (.int y :: .int x :: st) ws := fun ls H locs hl hP hD hS => lv_iushr g.x g.b hd rfl (K ls H locs hl hP hD hS)
theorem v_ineg (g : vG C cc own nL rm) {x : Int32} (hd : decode cc pc = .ok (.ineg, 1)) (K : VJ C k n (pc + 1) lv (.int (-x) :: st) ws) : VJ C k n pc lv (.int x :: st) ws := fun ls H locs hl hP hD hS => lv_ineg g.x g.b hd (K ls H locs hl hP hD hS)
theorem v_ladd (g : vG C cc own nL rm) {x y : Int64} (hd : decode cc pc = .ok (.ladd, 1)) (K : VJ C k n (pc + 1) lv (.long (x + y) :: st) ws) : VJ C k n pc lv (.long y :: .long x :: st) ws := fun ls H locs hl hP hD hS => lv_ladd g.x g.b hd (K ls H locs hl hP hD hS)
theorem v_lsub (g : vG C cc own nL rm) {x y : Int64} (hd : decode cc pc = .ok (.lsub, 1)) (K : VJ C k n (pc + 1) lv (.long (x - y) :: st) ws) : VJ C k n pc lv (.long y :: .long x :: st) ws := fun ls H locs hl hP hD hS => lv_lsub g.x g.b hd (K ls H locs hl hP hD hS)
theorem v_lmul (g : vG C cc own nL rm) {x y : Int64} (hd : decode cc pc = .ok (.lmul, 1)) (K : VJ C k n (pc + 1) lv (.long (x * y) :: st) ws) : VJ C k n pc lv (.long y :: .long x :: st) ws := fun ls H locs hl hP hD hS => lv_lmul g.x g.b hd (K ls H locs hl hP hD hS)
theorem v_land (g : vG C cc own nL rm) {x y : Int64} (hd : decode cc pc = .ok (.land, 1)) (K : VJ C k n (pc + 1) lv (.long (x &&& y) :: st) ws) : VJ C k n pc lv (.long y :: .long x :: st) ws := fun ls H locs hl hP hD hS => lv_land g.x g.b hd (K ls H locs hl hP hD hS)
theorem v_lor (g : vG C cc own nL rm) {x y : Int64} (hd : decode cc pc = .ok (.lor, 1)) (K : VJ C k n (pc + 1) lv (.long (x ||| y) :: st) ws) : VJ C k n pc lv (.long y :: .long x :: st) ws := fun ls H locs hl hP hD hS => lv_lor g.x g.b hd (K ls H locs hl hP hD hS)
theorem v_lxor (g : vG C cc own nL rm) {x y : Int64} (hd : decode cc pc = .ok (.lxor, 1)) (K : VJ C k n (pc + 1) lv (.long (x ^^^ y) :: st) ws) : VJ C k n pc lv (.long y :: .long x :: st) ws := fun ls H locs hl hP hD hS => lv_lxor g.x g.b hd (K ls H locs hl hP hD hS)
theorem v_lshl (g : vG C cc own nL rm) {x : Int64} {y : Int32} (hd : decode cc pc = .ok (.lshl, 1)) (K : VJ C k n (pc + 1) lv (.long (x <<< (y.toInt64 &&& 63)) :: st) ws) : VJ C k n pc lv (.int y :: .long x :: st) ws := fun ls H locs hl hP hD hS => lv_lshl g.x g.b hd rfl (K ls H locs hl hP hD hS)
theorem v_lshr (g : vG C cc own nL rm) {x : Int64} {y : Int32} (hd : decode cc pc = .ok (.lshr, 1)) (K : VJ C k n (pc + 1) lv (.long (x >>> (y.toInt64 &&& 63)) :: st) ws) : VJ C k n pc lv (.int y :: .long x :: st) ws := fun ls H locs hl hP hD hS => lv_lshr g.x g.b hd rfl (K ls H locs hl hP hD hS)
theorem v_lushr (g : vG C cc own nL rm) {x : Int64} {y : Int32} (hd : decode cc pc = .ok (.lushr, 1)) (K : VJ C k n (pc + 1) lv (.long ((x.toUInt64 >>> (y.toInt64.toUInt64 &&& Int64.toUInt64 63)).toInt64) :: st) ws) : VJ C k n pc lv (.int y :: .long x :: st) ws := fun ls H locs hl hP hD hS => lv_lushr g.x g.b hd rfl (K ls H locs hl hP hD hS)
theorem v_lcmp (g : vG C cc own nL rm) {x y : Int64} (hd : decode cc pc = .ok (.lcmp, 1)) (K : VJ C k n (pc + 1) lv (.int (lg_cmp x y) :: st) ws) : VJ C k n pc lv (.long y :: .long x :: st) ws := fun ls H locs hl hP hD hS => W.lcmp g.x g.b hd (K ls H locs hl hP hD hS)
theorem v_i2l (g : vG C cc own nL rm) {x : Int32} (hd : decode cc pc = .ok (.i2l, 1)) (K : VJ C k n (pc + 1) lv (.long (x.toInt64) :: st) ws) : VJ C k n pc lv (.int x :: st) ws := fun ls H locs hl hP hD hS => lv_i2l g.x g.b hd rfl (K ls H locs hl hP hD hS)
theorem v_l2i (g : vG C cc own nL rm) {x : Int64} (hd : decode cc pc = .ok (.l2i, 1)) (K : VJ C k n (pc + 1) lv (.int (x.toInt32) :: st) ws) : VJ C k n pc lv (.long x :: st) ws := fun ls H locs hl hP hD hS => lv_l2i g.x g.b hd rfl (K ls H locs hl hP hD hS)
theorem v_i2b (g : vG C cc own nL rm) {x : Int32} (hd : decode cc pc = .ok (.i2b, 1)) (K : VJ C k n (pc + 1) lv (.int (x.toInt8.toInt32) :: st) ws) : VJ C k n pc lv (.int x :: st) ws := fun ls H locs hl hP hD hS => lv_i2b g.x g.b hd rfl (K ls H locs hl hP hD hS)
theorem v_dup (g : vG C cc own nL rm) {a : Value} (hd : decode cc pc = .ok (.dup, 1)) (ha : a.category = 1) (K : VJ C k n (pc + 1) lv (a :: a :: st) ws) : VJ C k n pc lv (a :: st) ws := fun ls H locs hl hP hD hS => lv_dup g.x g.b hd ha (K ls H locs hl hP hD hS)
theorem v_pop (g : vG C cc own nL rm) {a : Value} (hd : decode cc pc = .ok (.pop, 1)) (ha : a.category = 1) (K : VJ C k n (pc + 1) lv st ws) : VJ C k n pc lv (a :: st) ws := fun ls H locs hl hP hD hS => lv_pop g.x g.b hd ha (K ls H locs hl hP hD hS)
theorem v_dup2 (g : vG C cc own nL rm) {a b : Value} (hd : decode cc pc = .ok (.dup2, 1)) (ha : a.category = 1) (hb : b.category = 1) (K : VJ C k n (pc + 1) lv (a :: b :: a :: b :: st) ws) : VJ C k n pc lv (a :: b :: st) ws := fun ls H locs hl hP hD hS => lv_dup2_11 g.x g.b hd ha hb (K ls H locs hl hP hD hS)
theorem v_dup_x1 (g : vG C cc own nL rm) {a b : Value} (hd : decode cc pc = .ok (.dup_x1, 1)) (ha : a.category = 1) (hb : b.category = 1) (K : VJ C k n (pc + 1) lv (a :: b :: a :: st) ws) : VJ C k n pc lv (a :: b :: st) ws := fun ls H locs hl hP hD hS => lv_dup_x1 g.x g.b hd ha hb (K ls H locs hl hP hD hS)
theorem v_nmi {x : Int32} (K : ∀ y : Int32, y = x → VJ C k n pc lv (.int y :: st) ws) : VJ C k n pc lv (.int x :: st) ws := K x rfl
theorem v_nml {x : Int64} (K : ∀ y : Int64, y = x → VJ C k n pc lv (.long y :: st) ws) : VJ C k n pc lv (.long x :: st) ws := K x rfl
theorem v_toi {x : Int32} (y : Int32) (h : x = y) (K : VJ C k n pc lv (.int y :: st) ws) : VJ C k n pc lv (.int x :: st) ws := by rw [h]; exact K
theorem v_tol {x : Int64} (y : Int64) (h : x = y) (K : VJ C k n pc lv (.long y :: st) ws) : VJ C k n pc lv (.long x :: st) ws := by rw [h]; exact K
theorem v_if_eq (g : vG C cc own nL rm) {x : Int32} {off : Int} (tgt : Nat) (hd : decode cc pc = .ok (.ifCond .eq off, 3)) (ht : (pc : Int) + off = (tgt : Int)) (kt : x = 0 → VJ C k n tgt lv st ws) (kf : ¬ x = 0 → VJ C k n (pc + 3) lv st ws) : VJ C k n pc lv (.int x :: st) ws := fun ls H locs hl hP hD hS => lv_if_eq g.x g.b hd ht (fun h => kt h ls H locs hl hP hD hS) (fun h => kf h ls H locs hl hP hD hS)
theorem v_if_ne (g : vG C cc own nL rm) {x : Int32} {off : Int} (tgt : Nat) (hd : decode cc pc = .ok (.ifCond .ne off, 3)) (ht : (pc : Int) + off = (tgt : Int)) (kt : ¬ x = 0 → VJ C k n tgt lv st ws) (kf : x = 0 → VJ C k n (pc + 3) lv st ws) : VJ C k n pc lv (.int x :: st) ws := fun ls H locs hl hP hD hS => lv_if_ne g.x g.b hd ht (fun h => kt h ls H locs hl hP hD hS) (fun h => kf h ls H locs hl hP hD hS)
theorem v_if_lt (g : vG C cc own nL rm) {x : Int32} {off : Int} (tgt : Nat) (hd : decode cc pc = .ok (.ifCond .lt off, 3)) (ht : (pc : Int) + off = (tgt : Int)) (kt : x < 0 → VJ C k n tgt lv st ws) (kf : ¬ x < 0 → VJ C k n (pc + 3) lv st ws) : VJ C k n pc lv (.int x :: st) ws := fun ls H locs hl hP hD hS => lv_if_lt g.x g.b hd ht (fun h => kt h ls H locs hl hP hD hS) (fun h => kf h ls H locs hl hP hD hS)
theorem v_if_ge (g : vG C cc own nL rm) {x : Int32} {off : Int} (tgt : Nat) (hd : decode cc pc = .ok (.ifCond .ge off, 3)) (ht : (pc : Int) + off = (tgt : Int)) (kt : 0 ≤ x → VJ C k n tgt lv st ws) (kf : ¬ 0 ≤ x → VJ C k n (pc + 3) lv st ws) : VJ C k n pc lv (.int x :: st) ws := fun ls H locs hl hP hD hS => lv_if_ge g.x g.b hd ht (fun h => kt h ls H locs hl hP hD hS) (fun h => kf h ls H locs hl hP hD hS)
theorem v_if_gt (g : vG C cc own nL rm) {x : Int32} {off : Int} (tgt : Nat) (hd : decode cc pc = .ok (.ifCond .gt off, 3)) (ht : (pc : Int) + off = (tgt : Int)) (kt : 0 < x → VJ C k n tgt lv st ws) (kf : ¬ 0 < x → VJ C k n (pc + 3) lv st ws) : VJ C k n pc lv (.int x :: st) ws := fun ls H locs hl hP hD hS => lv_if_gt g.x g.b hd ht (fun h => kt h ls H locs hl hP hD hS) (fun h => kf h ls H locs hl hP hD hS)
theorem v_if_le (g : vG C cc own nL rm) {x : Int32} {off : Int} (tgt : Nat) (hd : decode cc pc = .ok (.ifCond .le off, 3)) (ht : (pc : Int) + off = (tgt : Int)) (kt : x ≤ 0 → VJ C k n tgt lv st ws) (kf : ¬ x ≤ 0 → VJ C k n (pc + 3) lv st ws) : VJ C k n pc lv (.int x :: st) ws := fun ls H locs hl hP hD hS => lv_if_le g.x g.b hd ht (fun h => kt h ls H locs hl hP hD hS) (fun h => kf h ls H locs hl hP hD hS)
theorem v_icmp_eq (g : vG C cc own nL rm) {x y : Int32} {off : Int} (tgt : Nat) (hd : decode cc pc = .ok (.if_icmp .eq off, 3)) (ht : (pc : Int) + off = (tgt : Int)) (kt : x = y → VJ C k n tgt lv st ws) (kf : ¬ x = y → VJ C k n (pc + 3) lv st ws) : VJ C k n pc lv (.int y :: .int x :: st) ws := fun ls H locs hl hP hD hS => lv_icmp_eq g.x g.b hd ht (fun h => kt h ls H locs hl hP hD hS) (fun h => kf h ls H locs hl hP hD hS)
theorem v_icmp_ne (g : vG C cc own nL rm) {x y : Int32} {off : Int} (tgt : Nat) (hd : decode cc pc = .ok (.if_icmp .ne off, 3)) (ht : (pc : Int) + off = (tgt : Int)) (kt : ¬ x = y → VJ C k n tgt lv st ws) (kf : x = y → VJ C k n (pc + 3) lv st ws) : VJ C k n pc lv (.int y :: .int x :: st) ws := fun ls H locs hl hP hD hS => lv_icmp_ne g.x g.b hd ht (fun h => kt h ls H locs hl hP hD hS) (fun h => kf h ls H locs hl hP hD hS)
theorem v_icmp_lt (g : vG C cc own nL rm) {x y : Int32} {off : Int} (tgt : Nat) (hd : decode cc pc = .ok (.if_icmp .lt off, 3)) (ht : (pc : Int) + off = (tgt : Int)) (kt : x < y → VJ C k n tgt lv st ws) (kf : ¬ x < y → VJ C k n (pc + 3) lv st ws) : VJ C k n pc lv (.int y :: .int x :: st) ws := fun ls H locs hl hP hD hS => lv_icmp_lt g.x g.b hd ht (fun h => kt h ls H locs hl hP hD hS) (fun h => kf h ls H locs hl hP hD hS)
theorem v_icmp_ge (g : vG C cc own nL rm) {x y : Int32} {off : Int} (tgt : Nat) (hd : decode cc pc = .ok (.if_icmp .ge off, 3)) (ht : (pc : Int) + off = (tgt : Int)) (kt : y ≤ x → VJ C k n tgt lv st ws) (kf : ¬ y ≤ x → VJ C k n (pc + 3) lv st ws) : VJ C k n pc lv (.int y :: .int x :: st) ws := fun ls H locs hl hP hD hS => lv_icmp_ge g.x g.b hd ht (fun h => kt h ls H locs hl hP hD hS) (fun h => kf h ls H locs hl hP hD hS)
theorem v_icmp_gt (g : vG C cc own nL rm) {x y : Int32} {off : Int} (tgt : Nat) (hd : decode cc pc = .ok (.if_icmp .gt off, 3)) (ht : (pc : Int) + off = (tgt : Int)) (kt : y < x → VJ C k n tgt lv st ws) (kf : ¬ y < x → VJ C k n (pc + 3) lv st ws) : VJ C k n pc lv (.int y :: .int x :: st) ws := fun ls H locs hl hP hD hS => lv_icmp_gt g.x g.b hd ht (fun h => kt h ls H locs hl hP hD hS) (fun h => kf h ls H locs hl hP hD hS)
theorem v_icmp_le (g : vG C cc own nL rm) {x y : Int32} {off : Int} (tgt : Nat) (hd : decode cc pc = .ok (.if_icmp .le off, 3)) (ht : (pc : Int) + off = (tgt : Int)) (kt : x ≤ y → VJ C k n tgt lv st ws) (kf : ¬ x ≤ y → VJ C k n (pc + 3) lv st ws) : VJ C k n pc lv (.int y :: .int x :: st) ws := fun ls H locs hl hP hD hS => lv_icmp_le g.x g.b hd ht (fun h => kt h ls H locs hl hP hD hS) (fun h => kf h ls H locs hl hP hD hS)
theorem v_goto (g : vG C cc own nL rm) {off : Int} (tgt : Nat) (hd : decode cc pc = .ok (.goto off, 3)) (ht : (pc : Int) + off = (tgt : Int)) (K : VJ C k n tgt lv st ws) : VJ C k n pc lv st ws := fun ls H locs hl hP hD hS => lv_goto g.x g.b hd ht (K ls H locs hl hP hD hS)
theorem v_icmp_eqN (g : vG C cc own nL rm) {a b : Nat} {off : Int} (tgt : Nat) (hd : decode cc pc = .ok (.if_icmp .eq off, 3)) (ht : (pc : Int) + off = (tgt : Int)) (ha : a < 2 ^ 31) (hb : b < 2 ^ 31) (kt : a = b → VJ C k n tgt lv st ws) (kf : a ≠ b → VJ C k n (pc + 3) lv st ws) : VJ C k n pc lv (.int (nI b) :: .int (nI a) :: st) ws := v_icmp_eq g tgt hd ht (fun h => kt ((nI_eq ha hb).mp h)) (fun h => kf (fun q => h ((nI_eq ha hb).mpr q)))
theorem v_icmp_neN (g : vG C cc own nL rm) {a b : Nat} {off : Int} (tgt : Nat) (hd : decode cc pc = .ok (.if_icmp .ne off, 3)) (ht : (pc : Int) + off = (tgt : Int)) (ha : a < 2 ^ 31) (hb : b < 2 ^ 31) (kt : a ≠ b → VJ C k n tgt lv st ws) (kf : a = b → VJ C k n (pc + 3) lv st ws) : VJ C k n pc lv (.int (nI b) :: .int (nI a) :: st) ws := v_icmp_ne g tgt hd ht (fun h => kt (fun q => h ((nI_eq ha hb).mpr q))) (fun h => kf ((nI_eq ha hb).mp h))
theorem v_icmp_ltN (g : vG C cc own nL rm) {a b : Nat} {off : Int} (tgt : Nat) (hd : decode cc pc = .ok (.if_icmp .lt off, 3)) (ht : (pc : Int) + off = (tgt : Int)) (ha : a < 2 ^ 31) (hb : b < 2 ^ 31) (kt : a < b → VJ C k n tgt lv st ws) (kf : b ≤ a → VJ C k n (pc + 3) lv st ws) : VJ C k n pc lv (.int (nI b) :: .int (nI a) :: st) ws := v_icmp_lt g tgt hd ht (fun h => kt ((nI_ltI ha hb).mp h)) (fun h => kf (Nat.not_lt.mp fun q => h ((nI_ltI ha hb).mpr q)))
theorem v_icmp_geN (g : vG C cc own nL rm) {a b : Nat} {off : Int} (tgt : Nat) (hd : decode cc pc = .ok (.if_icmp .ge off, 3)) (ht : (pc : Int) + off = (tgt : Int)) (ha : a < 2 ^ 31) (hb : b < 2 ^ 31) (kt : b ≤ a → VJ C k n tgt lv st ws) (kf : a < b → VJ C k n (pc + 3) lv st ws) : VJ C k n pc lv (.int (nI b) :: .int (nI a) :: st) ws := v_icmp_ge g tgt hd ht (fun h => kt ((nI_leI hb ha).mp h)) (fun h => kf (Nat.not_le.mp fun q => h ((nI_leI hb ha).mpr q)))
theorem v_icmp_gtN (g : vG C cc own nL rm) {a b : Nat} {off : Int} (tgt : Nat) (hd : decode cc pc = .ok (.if_icmp .gt off, 3)) (ht : (pc : Int) + off = (tgt : Int)) (ha : a < 2 ^ 31) (hb : b < 2 ^ 31) (kt : b < a → VJ C k n tgt lv st ws) (kf : a ≤ b → VJ C k n (pc + 3) lv st ws) : VJ C k n pc lv (.int (nI b) :: .int (nI a) :: st) ws := v_icmp_gt g tgt hd ht (fun h => kt ((nI_ltI hb ha).mp h)) (fun h => kf (Nat.not_lt.mp fun q => h ((nI_ltI hb ha).mpr q)))
theorem v_icmp_leN (g : vG C cc own nL rm) {a b : Nat} {off : Int} (tgt : Nat) (hd : decode cc pc = .ok (.if_icmp .le off, 3)) (ht : (pc : Int) + off = (tgt : Int)) (ha : a < 2 ^ 31) (hb : b < 2 ^ 31) (kt : a ≤ b → VJ C k n tgt lv st ws) (kf : b < a → VJ C k n (pc + 3) lv st ws) : VJ C k n pc lv (.int (nI b) :: .int (nI a) :: st) ws := v_icmp_le g tgt hd ht (fun h => kt ((nI_leI ha hb).mp h)) (fun h => kf (Nat.not_le.mp fun q => h ((nI_leI ha hb).mpr q)))
theorem v_if_eqN (g : vG C cc own nL rm) {a : Nat} {off : Int} (tgt : Nat) (hd : decode cc pc = .ok (.ifCond .eq off, 3)) (ht : (pc : Int) + off = (tgt : Int)) (ha : a < 2 ^ 31) (kt : a = 0 → VJ C k n tgt lv st ws) (kf : a ≠ 0 → VJ C k n (pc + 3) lv st ws) : VJ C k n pc lv (.int (nI a) :: st) ws := v_if_eq g tgt hd ht (fun h => kt ((nI_eq ha (b := 0) (by omega)).mp (h.trans nI_0.symm))) (fun h => kf (fun q => h (((nI_eq ha (b := 0) (by omega)).mpr q).trans nI_0)))
theorem v_if_neN (g : vG C cc own nL rm) {a : Nat} {off : Int} (tgt : Nat) (hd : decode cc pc = .ok (.ifCond .ne off, 3)) (ht : (pc : Int) + off = (tgt : Int)) (ha : a < 2 ^ 31) (kt : a ≠ 0 → VJ C k n tgt lv st ws) (kf : a = 0 → VJ C k n (pc + 3) lv st ws) : VJ C k n pc lv (.int (nI a) :: st) ws := v_if_ne g tgt hd ht (fun h => kt (fun q => h (((nI_eq ha (b := 0) (by omega)).mpr q).trans nI_0))) (fun h => kf ((nI_eq ha (b := 0) (by omega)).mp (h.trans nI_0.symm)))
theorem v_if_gtN (g : vG C cc own nL rm) {a : Nat} {off : Int} (tgt : Nat) (hd : decode cc pc = .ok (.ifCond .gt off, 3)) (ht : (pc : Int) + off = (tgt : Int)) (ha : a < 2 ^ 31) (kt : 0 < a → VJ C k n tgt lv st ws) (kf : a = 0 → VJ C k n (pc + 3) lv st ws) : VJ C k n pc lv (.int (nI a) :: st) ws := v_if_gt g tgt hd ht (fun h => kt (Nat.pos_of_ne_zero fun q => absurd h (by rw [q, nI_0]; decide))) (fun h => kf (Nat.eq_zero_of_not_pos fun q => h (by rw [← nI_0]; exact nI_lt q ha)))
theorem v_if_leN (g : vG C cc own nL rm) {a : Nat} {off : Int} (tgt : Nat) (hd : decode cc pc = .ok (.ifCond .le off, 3)) (ht : (pc : Int) + off = (tgt : Int)) (ha : a < 2 ^ 31) (kt : a = 0 → VJ C k n tgt lv st ws) (kf : 0 < a → VJ C k n (pc + 3) lv st ws) : VJ C k n pc lv (.int (nI a) :: st) ws := v_if_le g tgt hd ht (fun h => kt (Nat.eq_zero_of_not_pos fun q => absurd h (nI_nle q ha))) (fun h => kf (Nat.pos_of_ne_zero fun q => h (by rw [q, nI_0]; decide)))
theorem v_if_ltN (g : vG C cc own nL rm) {a : Nat} {off : Int} (tgt : Nat) (hd : decode cc pc = .ok (.ifCond .lt off, 3)) (ht : (pc : Int) + off = (tgt : Int)) (ha : a < 2 ^ 31) (kt : False → VJ C k n tgt lv st ws) (kf : True → VJ C k n (pc + 3) lv st ws) : VJ C k n pc lv (.int (nI a) :: st) ws := v_if_lt g tgt hd ht (fun h => kt (nI_pos ha h)) (fun h => kf (trivial))
theorem v_if_geN (g : vG C cc own nL rm) {a : Nat} {off : Int} (tgt : Nat) (hd : decode cc pc = .ok (.ifCond .ge off, 3)) (ht : (pc : Int) + off = (tgt : Int)) (ha : a < 2 ^ 31) (kt : True → VJ C k n tgt lv st ws) (kf : False → VJ C k n (pc + 3) lv st ws) : VJ C k n pc lv (.int (nI a) :: st) ws := v_if_ge g tgt hd ht (fun h => kt (trivial)) (fun h => kf (h (nI_pos' ha)))
theorem v_iaddN (g : vG C cc own nL rm) {a b : Nat} (hd : decode cc pc = .ok (.iadd, 1)) (K : VJ C k n (pc + 1) lv (.int (nI (a + b)) :: st) ws) : VJ C k n pc lv (.int (nI b) :: .int (nI a) :: st) ws := v_iadd g hd (by rw [nI_add]; exact K)
theorem v_imulN (g : vG C cc own nL rm) {a b : Nat} (hd : decode cc pc = .ok (.imul, 1)) (K : VJ C k n (pc + 1) lv (.int (nI (a * b)) :: st) ws) : VJ C k n pc lv (.int (nI b) :: .int (nI a) :: st) ws := v_imul g hd (by rw [pk_mul]; exact K)
theorem v_isubN (g : vG C cc own nL rm) {a b : Nat} (hd : decode cc pc = .ok (.isub, 1)) (h : b ≤ a) (K : VJ C k n (pc + 1) lv (.int (nI (a - b)) :: st) ws) : VJ C k n pc lv (.int (nI b) :: .int (nI a) :: st) ws := v_isub g hd (by rw [pk_sub h]; exact K)
theorem v_idivN (g : vG C cc own nL rm) {a b : Nat} (hd : decode cc pc = .ok (.idiv, 1)) (ha : a < 2 ^ 31) (h0 : 0 < b) (hb : b < 2 ^ 31) (K : VJ C k n (pc + 1) lv (.int (nI (a / b)) :: st) ws) : VJ C k n pc lv (.int (nI b) :: .int (nI a) :: st) ws := v_idiv g hd (nI_ne0 h0 hb) (by rw [pk_div ha h0 hb]; exact K)
theorem v_iremN (g : vG C cc own nL rm) {a b : Nat} (hd : decode cc pc = .ok (.irem, 1)) (ha : a < 2 ^ 31) (h0 : 0 < b) (hb : b < 2 ^ 31) (K : VJ C k n (pc + 1) lv (.int (nI (a % b)) :: st) ws) : VJ C k n pc lv (.int (nI b) :: .int (nI a) :: st) ws := v_irem g hd (nI_ne0 h0 hb) (by rw [pk_rem ha h0 hb]; exact K)
theorem v_iincN (g : vG C cc own nL rm) {i a : Nat} {c : Int} (b : Nat) (lv' : List (Nat × Value)) (hd : decode cc pc = .ok (.iinc i c, 3)) (j : Nat) (hj : lv[j]? = some (i, .int (nI a))) (hv : Int32.ofInt c = nI b) (hn : i < nL) (hl0 : (i, Value.int (nI (a + b))) :: lv.filter (fun q => !(q.1 == i) && !(q.1 + 1 == i && q.2.category == 2)) = lv') (K : VJ C k n (pc + 3) lv' st ws) : VJ C k n pc lv st ws := v_iinc g lv' hd j hj (by rw [hv, nI_add]) hn hl0 K
theorem v_perm (is : List Nat) (ws' : va_W) (hn : va_nd is = true) (hs : is.map (fun i => ws[i]?) = ws'.map some) (hf : is.filterMap (fun i => ws[i]?) = ws') (K : VJ C k n pc lv st ws') : VJ C k n pc lv st ws := fun ls H locs hl hP hD hS => K ls H locs hl (hP.sub is hf) (hD.sub is hn hs) hS
theorem v_wid (k' n' : Nat) (h1 : k ≤ k') (h2 : n ≤ n') (K : VJ C k' n' pc lv st ws) : VJ C k n pc lv st ws := fun ls H locs hl hP hD hS => W.widen h1 h2 (K ls H locs hl hP hD hS)
theorem v_lpick (ks : List Nat) (lv' : List (Nat × Value)) (h : lv_pick lv ks = lv') (K : VJ C k n pc lv' st ws) : VJ C k n pc lv st ws := fun ls H locs hl hP hD hS => K ls H locs (lv_sub hl ks h) hP hD hS
theorem v_iald (g : vG C cc own nL rm) {a N j : Nat} {f : Nat → Int32} (q : Nat) (he : ws[q]? = some (a, .inl (C.D.1 101, N, .inl f))) (hj : j < N) (hN : N < 2 ^ 31) (hd : decode cc pc = .ok (.iaload, 1)) (K : VJ C k n (pc + 1) lv (.int (f j) :: st) ws) : VJ C k n pc lv (.int (nI j) :: .ref a :: st) ws := fun ls H locs hl hP hD hS => va_iald g.x g.b g.K hP q 1 he rfl (vp_in_nI hj hN) hd (by rw [nI_clamp (Nat.lt_trans hj hN)]; exact K ls H locs hl hP hD hS)
theorem v_bald (g : vG C cc own nL rm) {a N j : Nat} {f : Nat → Int32} (q : Nat) (he : ws[q]? = some (a, .inl (C.D.1 100, N, .inl f))) (hj : j < N) (hN : N < 2 ^ 31) (hd : decode cc pc = .ok (.baload, 1)) (K : VJ C k n (pc + 1) lv (.int (f j) :: st) ws) : VJ C k n pc lv (.int (nI j) :: .ref a :: st) ws := fun ls H locs hl hP hD hS => va_bald g.x g.b g.K hP q 0 he rfl (vp_in_nI hj hN) hd (by rw [nI_clamp (Nat.lt_trans hj hN)]; exact K ls H locs hl hP hD hS)
theorem v_lald (g : vG C cc own nL rm) {a N j : Nat} {f : Nat → Int64} (q : Nat) (he : ws[q]? = some (a, .inl (C.D.1 102, N, .inr (.inl f)))) (hj : j < N) (hN : N < 2 ^ 31) (hd : decode cc pc = .ok (.laload, 1)) (K : VJ C k n (pc + 1) lv (.long (f j) :: st) ws) : VJ C k n pc lv (.int (nI j) :: .ref a :: st) ws := fun ls H locs hl hP hD hS => va_lald g.x g.b g.K hP q 2 he rfl (vp_in_nI hj hN) hd (by rw [nI_clamp (Nat.lt_trans hj hN)]; exact K ls H locs hl hP hD hS)
theorem v_iast (g : vG C cc own nL rm) {a N j : Nat} {f : Nat → Int32} {x : Int32} (q : Nat) (he : ws[q]? = some (a, .inl (C.D.1 101, N, .inl f))) (hj : j < N) (hN : N < 2 ^ 31) (hd : decode cc pc = .ok (.iastore, 1)) (K : VJ C k n (pc + 1) lv st (ws.set q (a, .inl (C.D.1 101, N, .inl (upd f j x))))) : VJ C k n pc lv (.int x :: .int (nI j) :: .ref a :: st) ws := fun ls H locs hl hP hD hS => va_iast g.x g.b g.K hP hD hS q 1 he rfl (vp_in_nI hj hN) hd (by rw [nI_clamp (Nat.lt_trans hj hN)]; exact fun H1 locs1 hP1 hD1 hS1 => K ls H1 locs1 hl hP1 hD1 hS1)
theorem v_bast (g : vG C cc own nL rm) {a N j : Nat} {f : Nat → Int32} {x : Int32} (q : Nat) (he : ws[q]? = some (a, .inl (C.D.1 100, N, .inl f))) (hj : j < N) (hN : N < 2 ^ 31) (hd : decode cc pc = .ok (.bastore, 1)) (K : VJ C k n (pc + 1) lv st (ws.set q (a, .inl (C.D.1 100, N, .inl (upd f j (vp_nar .byte x)))))) : VJ C k n pc lv (.int x :: .int (nI j) :: .ref a :: st) ws := fun ls H locs hl hP hD hS => va_bast g.x g.b g.K hP hD hS q 0 he rfl (vp_in_nI hj hN) hd (by rw [nI_clamp (Nat.lt_trans hj hN)]; exact fun H1 locs1 hP1 hD1 hS1 => K ls H1 locs1 hl hP1 hD1 hS1)
theorem v_last (g : vG C cc own nL rm) {a N j : Nat} {f : Nat → Int64} {x : Int64} (q : Nat) (he : ws[q]? = some (a, .inl (C.D.1 102, N, .inr (.inl f)))) (hj : j < N) (hN : N < 2 ^ 31) (hd : decode cc pc = .ok (.lastore, 1)) (K : VJ C k n (pc + 1) lv st (ws.set q (a, .inl (C.D.1 102, N, .inr (.inl (vp_updL f j x)))))) : VJ C k n pc lv (.long x :: .int (nI j) :: .ref a :: st) ws := fun ls H locs hl hP hD hS => va_last g.x g.b g.K hP hD hS q 2 he rfl (vp_in_nI hj hN) hd (by rw [nI_clamp (Nat.lt_trans hj hN)]; exact fun H1 locs1 hP1 hD1 hS1 => K ls H1 locs1 hl hP1 hD1 hS1)
theorem v_alen (g : vG C cc own nL rm) {a : Nat} {x : vp_A} {cA : ClassId} {ty : FieldType} (q t0 : Nat) (he : ws[q]? = some (a, .inl (cA, x))) (ht : (tysOf C.D)[t0]? = some (cA, ty)) (hd : decode cc pc = .ok (.arraylength, 1)) (K : VJ C k n (pc + 1) lv (.int (nI x.1) :: st) ws) : VJ C k n pc lv (.ref a :: st) ws := fun ls H locs hl hP hD hS => va_alen g.x g.b g.K hP q t0 he ht (v := nI x.1) rfl hd (K ls H locs hl hP hD hS)
theorem v_aald (g : vG C cc own nL rm) {a N j r : Nat} {S : String} {cA : ClassId} {f : Nat → Option Nat} (q t0 : Nat) (he : ws[q]? = some (a, .inl (cA, N, .inr (.inr (.inr (.inr f)))))) (ht : (tysOf C.D)[t0]? = some (cA, .object S)) (hj : j < N) (hN : N < 2 ^ 31) (hr : f j = some r) (hd : decode cc pc = .ok (.aaload, 1)) (K : VJ C k n (pc + 1) lv (.ref r :: st) ws) : VJ C k n pc lv (.int (nI j) :: .ref a :: st) ws := fun ls H locs hl hP hD hS => va_aldq g.x g.b g.K hP q t0 he ht (vp_in_nI hj hN) hd (by rw [nI_clamp (Nat.lt_trans hj hN), hr]; exact K ls H locs hl hP hD hS)
theorem v_aast (g : vG C cc own nL rm) {a N j r ci : Nat} {z : vw_C} {vs : List Value} {cA : ClassId} {f : Nat → Option Nat} (q t0 qk : Nat) (he : ws[q]? = some (a, .inl (cA, N, .inr (.inr (.inr (.inr f)))))) (ht : (tysOf C.D)[t0]? = some (cA, .object z.1)) (hv : ws[qk]? = some (r, .inr (ci, vs))) (hc : vwCl[ci]? = some z) (hj : j < N) (hN : N < 2 ^ 31) (hd : decode cc pc = .ok (.aastore, 1)) (K : VJ C k n (pc + 1) lv st (ws.set q (a, .inl (cA, N, .inr (.inr (.inr (.inr (va_up f j (some r))))))))) : VJ C k n pc lv (.ref r :: .int (nI j) :: .ref a :: st) ws := fun ls H locs hl hP hD hS => va_astq g.x g.b g.K hP hD hS q t0 qk ci he ht hv hc (vp_in_nI hj hN) hd (by rw [nI_clamp (Nat.lt_trans hj hN)]; exact fun H1 locs1 hP1 hD1 hS1 => K ls H1 locs1 hl hP1 hD1 hS1)
end ENG
/-! CONTRACTS over the engine. -/
def vQ (D : va_G) (post : Option Value → va_W → Prop) (A : Nat → Prop) : Array Value → State → Outcome → State → Prop := fun _ st oc t =>
  (∃ (r : Option Value) (wo : va_W), oc = .returned r ∧ post r wo ∧ va_P D vwCl wo t.heap ∧ va_K D vwCl (tysOf D) t ∧ va_D A wo) ∧ va_F A st t
def vPre (D : va_G) (wi : va_W) (sz : Nat) (U : State) : Prop := U.heap.size = sz ∧ va_P D vwCl wi U.heap ∧ va_K D vwCl (tysOf D) U ∧ va_D (fun _ => True) wi ∧ Gv D (va_A wi sz) U U.heap
def vM (l : Launch) (D : va_G) (y : MethodName) (cc : ByteArray) (maxL : Nat) (ret : Option FieldType) (rm : Room) (av : List Value) (wi : va_W) (post : Option Value → va_W → Prop) : Prop :=
  ∀ sz : Nat, Met l y [.code y cc maxL ret] rm (va_Pc av (vPre D wi sz)) (vQ D post (va_A wi sz)) rm.cells rm.slots (va_A wi sz)
def vRet (C : Cx) (rm : Room) (ret : Option FieldType) (wi : va_W) (post : Option Value → va_W → Prop) : Prop :=
  C.Q = MQ C.below (vQ C.D post (va_A wi C.s.heap.size)) C.args C.s rm.cells rm.slots (va_A wi C.s.heap.size) ∧ C.A = va_A wi C.s.heap.size ∧ C.meth.sig.returnType = ret
theorem vM.of {l : Launch} {D : va_G} {y : MethodName} {cc : ByteArray} {maxL : Nat} {ret : Option FieldType} {rm : Room} {av : List Value} {wi : va_W} {post : Option Value → va_W → Prop} (hy : plainName y.cls = true) (hlen : (lg_sl av).length ≤ maxL)
    (body : ∀ C : Cx, C.l = l → C.D = D → vG C cc y.cls maxL rm → vRet C rm ret wi post → VJ C 0 0 0 (lv_args 0 av) [] wi) : vM l D y cc maxL ret rm av wi post := by
  intro sz
  refine Met.ofW (cc := cc) (maxL := maxL) (ret := ret) hy rfl ?_
  intro p e s m args below meth c s₁ B hml hv
  obtain ⟨rfl, hsz, hP, hK, hD0, hG⟩ := hv
  subst hsz
  have hown := findClass_of_methodNamed B.named
  have hD := hD0.self (sz := s.heap.size)
  have hl := lv_entry av (n := maxL) hlen
  rw [lg_entry_eq]
  exact body (p, l, e, rm, s, m, av.toArray, below, meth, c, maxL, D, va_A wi s.heap.size, MQ below (vQ D post (va_A wi s.heap.size)) av.toArray s rm.cells rm.slots (va_A wi s.heap.size)) rfl rfl
    ⟨B.exec, B.bytes, hml, hown, hK, fun q h => Or.inr h, B.notSynchronized, hG, rfl, rfl⟩ ⟨rfl, rfl, B.returns⟩ _ s.heap [] hl hP hD va_S.rf
section CON
variable {C : Cx} {cc : ByteArray} {own : String} {nL : Nat} {rm : Room} {k n pc : Nat} {lv : List (Nat × Value)} {st : List Value} {ws : va_W}
/-! returns -/
theorem vq_end {wi : va_W} {post : Option Value → va_W → Prop} {r : Option Value} {H : Heap} {locs : List Loc} {ret : Option FieldType} (g : vG C cc own nL rm) (R : vRet C rm ret wi post) (hp : post r ws) (hP : va_P C.D vwCl ws H) (hD : va_D C.A ws) (hS : va_S C.A C.s.heap H locs) :
    ∀ t : State, t.heap = H → C.s.WarmedH t.vm → vQ C.D post (va_A wi C.s.heap.size) C.args C.s (.returned r) t := fun t ht hW => by
  have hA := R.2.1
  rw [← hA]
  exact ⟨⟨r, ws, rfl, hp, by rw [ht]; exact hP, va_K.moved hW.alike g.K, hD⟩, hS.F ht⟩
theorem v_ret {wi : va_W} {post : Option Value → va_W → Prop} (g : vG C cc own nL rm) (R : vRet C rm none wi post) (hd : decode cc pc = .ok (.return_, 1)) (hk : k ≤ rm.cells) (hn : n ≤ rm.slots) (hp : post none ws) : VJ C k n pc lv [] ws := fun ls H locs hl hP hD hS => by
  rw [R.1]
  exact W.widen hk hn (W.vret g.x g.b R.2.2 (vq_end g R hp hP hD hS) (by rw [← R.2.1]; exact hS.2.2) hd (hlocks := g.lk))
theorem v_iret {wi : va_W} {post : Option Value → va_W → Prop} {v : Int32} (g : vG C cc own nL rm) (R : vRet C rm (some .int) wi post) (hd : decode cc pc = .ok (.ireturn, 1)) (hk : k ≤ rm.cells) (hn : n ≤ rm.slots) (hp : post (some (.int v)) ws) : VJ C k n pc lv [.int v] ws := fun ls H locs hl hP hD hS => by
  rw [R.1]
  exact W.widen hk hn (W.iret g.x g.b R.2.2 (vq_end g R hp hP hD hS) (by rw [← R.2.1]; exact hS.2.2) hd (hlocks := g.lk))
theorem v_zret {wi : va_W} {post : Option Value → va_W → Prop} {v : Int32} (g : vG C cc own nL rm) (R : vRet C rm (some .boolean) wi post) (hd : decode cc pc = .ok (.ireturn, 1)) (hb : narrow .boolean (.int v) = .int v) (hk : k ≤ rm.cells) (hn : n ≤ rm.slots) (hp : post (some (.int v)) ws) : VJ C k n pc lv [.int v] ws := fun ls H locs hl hP hD hS => by
  rw [R.1]
  exact W.widen hk hn (W.zret g.x g.b R.2.2 hb (vq_end g R hp hP hD hS) (by rw [← R.2.1]; exact hS.2.2) hd (hlocks := g.lk))
theorem v_tret {wi : va_W} {post : Option Value → va_W → Prop} {v : Int32} {ty : FieldType} (g : vG C cc own nL rm) (R : vRet C rm (some ty) wi post) (hd : decode cc pc = .ok (.ireturn, 1)) (hb : narrow ty (.int v) = .int v) (hk : k ≤ rm.cells) (hn : n ≤ rm.slots) (hp : post (some (.int v)) ws) : VJ C k n pc lv [.int v] ws := fun ls H locs hl hP hD hS => by
  rw [R.1]
  exact W.widen hk hn (W.zret g.x g.b R.2.2 hb (vq_end g R hp hP hD hS) (by rw [← R.2.1]; exact hS.2.2) hd (hlocks := g.lk))
theorem v_lret {wi : va_W} {post : Option Value → va_W → Prop} {v : Int64} (g : vG C cc own nL rm) (R : vRet C rm (some .long) wi post) (hd : decode cc pc = .ok (.lreturn, 1)) (hk : k ≤ rm.cells) (hn : n ≤ rm.slots) (hp : post (some (.long v)) ws) : VJ C k n pc lv [.long v] ws := fun ls H locs hl hP hD hS => by
  rw [R.1]
  exact W.widen hk hn (W.lret g.x g.b R.2.2 (vq_end g R hp hP hD hS) (by rw [← R.2.1]; exact hS.2.2) hd (hlocks := g.lk))
theorem v_aret {wi : va_W} {post : Option Value → va_W → Prop} {a : Nat} {S : String} (g : vG C cc own nL rm) (R : vRet C rm (some (.object S)) wi post) (hd : decode cc pc = .ok (.areturn, 1)) (hk : k ≤ rm.cells) (hn : n ≤ rm.slots) (hp : post (some (.ref a)) ws) : VJ C k n pc lv [.ref a] ws := fun ls H locs hl hP hD hS => by
  rw [R.1]
  exact W.widen hk hn (W.aret g.x g.b R.2.2 (Or.inl ⟨S, rfl⟩) (Or.inr ⟨a, rfl⟩) (vq_end g R hp hP hD hS) (by rw [← R.2.1]; exact hS.2.2) hd (hlocks := g.lk))
/-! words -/
theorem vG.w (g : vG C cc own nL rm) {w : Cond} (h : w ∈ lw_tbl) (hk : kw w = true) : w.before C.args C.s = true := g.gv.w h hk
theorem vG.wss (g : vG C cc own nL rm) {L : List Cond} (h : GoodIn lw_tbl L) : ∀ w ∈ L, w.before C.args C.s = true := fun w hw => g.w (h w hw).1 (kw_of_good (h w hw).2)
theorem good_self {L : List Cond} (h : GoodIn lw_tbl L) : GoodIn L L := fun w hw => ⟨hw, (h w hw).2⟩
/-! fields: T the class's table, kf the field's place in it, ci the class's number -/
theorem v_get {S ref : String} {T : u_T} {N ci idx a : Nat} {fs : List Value} {v : Value} (hin : ∀ w ∈ u_ws S T N, w ∈ lw_tbl ∧ kw w = true) (hc : vwCl[ci]? = some (S, T, N)) (kf : Nat) (hk : kf < N) (hlk : Cond.fieldLink own idx ref (T kf).2.1 (T kf).2.2.1 ∈ lw_tbl) (href : (T kf).1 = ref)
    (g : vG C cc own nL rm) (hd : decode cc pc = .ok (.getfield idx, 3)) (q : Nat) (he : ws[q]? = some (a, .inr (ci, fs))) (hv : fs[kf]? = some v) (K : VJ C k n (pc + 3) lv (v :: st) ws) : VJ C k n pc lv (.ref a :: st) ws := fun ls H locs hl hP hD hS =>
  va_get (Ts := u_ws S T N) g.x g.b (fun w hw => g.w (hin w hw).1 (hin w hw).2) (fun _ h => h) g.ow g.K hP q he hc kf hk (g.w hlk rfl) (fun x h => by rw [← href]; exact h) hv hd (K ls H locs hl hP hD hS)
theorem v_getN {S ref host : String} {T : u_T} {N ci idx a : Nat} {fs : List Value} {v : Value} (hin : ∀ w ∈ u_ws S T N, w ∈ lw_tbl ∧ kw w = true) (hc : vwCl[ci]? = some (S, T, N)) (kf : Nat) (hk : kf < N) (hlk : Cond.fieldLinkNest own idx ref (T kf).2.1 (T kf).2.2.1 host ∈ lw_tbl) (href : (T kf).1 = ref)
    (g : vG C cc own nL rm) (hd : decode cc pc = .ok (.getfield idx, 3)) (q : Nat) (he : ws[q]? = some (a, .inr (ci, fs))) (hv : fs[kf]? = some v) (K : VJ C k n (pc + 3) lv (v :: st) ws) : VJ C k n pc lv (.ref a :: st) ws := fun ls H locs hl hP hD hS =>
  va_getN (Ts := u_ws S T N) g.x g.b (fun w hw => g.w (hin w hw).1 (hin w hw).2) (fun _ h => h) g.ow g.K hP q he hc kf hk (g.w hlk rfl) (fun x h => by rw [← href]; exact h) hv hd (K ls H locs hl hP hD hS)
theorem v_put {S ref : String} {T : u_T} {N ci idx a : Nat} {fs : List Value} {v : Value} {ty : FieldType} (hin : ∀ w ∈ u_ws S T N, w ∈ lw_tbl ∧ kw w = true) (ty0 : Nat → FieldType) (hty : ∀ k, k < N → parseFieldDescriptor (T k).2.2.1 = some (ty0 k)) (hnm : ∀ a, a < N → ∀ b, b < N → a ≠ b → (T a).2.1 ≠ (T b).2.1) (hc : vwCl[ci]? = some (S, T, N)) (kf : Nat) (hk : kf < N) (hlk : Cond.fieldLink own idx ref (T kf).2.1 (T kf).2.2.1 ∈ lw_tbl) (href : (T kf).1 = ref) (hfin : (T kf).2.2.2 = false) (hdt : parseFieldDescriptor (T kf).2.2.1 = some ty) (hnv : narrow ty v = v) (hfv : fits ty v = true)
    (g : vG C cc own nL rm) (hd : decode cc pc = .ok (.putfield idx, 3)) (q : Nat) (ws' : va_W) (he : ws[q]? = some (a, .inr (ci, fs))) (hlen : kf < fs.length) (hs : ws.set q (a, .inr (ci, fs.set kf v)) = ws') (K : VJ C k n (pc + 3) lv st ws') : VJ C k n pc lv (v :: .ref a :: st) ws := fun ls H locs hl hP hD hS =>
  va_put (Ts := u_ws S T N) g.x g.b (fun w hw => g.w (hin w hw).1 (hin w hw).2) (fun _ h => h) ty0 hty hnm g.ow g.K hP hD hS q he hc kf hk (g.w hlk rfl) (fun x h => by rw [← href]; exact h) hfin hdt hnv hfv hlen hd (by rw [hs]; exact fun H1 locs1 hP1 hD1 hS1 => K ls H1 locs1 hl hP1 hD1 hS1)
theorem v_putN {S ref host : String} {T : u_T} {N ci idx a : Nat} {fs : List Value} {v : Value} {ty : FieldType} (hin : ∀ w ∈ u_ws S T N, w ∈ lw_tbl ∧ kw w = true) (ty0 : Nat → FieldType) (hty : ∀ k, k < N → parseFieldDescriptor (T k).2.2.1 = some (ty0 k)) (hnm : ∀ a, a < N → ∀ b, b < N → a ≠ b → (T a).2.1 ≠ (T b).2.1) (hc : vwCl[ci]? = some (S, T, N)) (kf : Nat) (hk : kf < N) (hlk : Cond.fieldLinkNest own idx ref (T kf).2.1 (T kf).2.2.1 host ∈ lw_tbl) (href : (T kf).1 = ref) (hfin : (T kf).2.2.2 = false) (hdt : parseFieldDescriptor (T kf).2.2.1 = some ty) (hnv : narrow ty v = v) (hfv : fits ty v = true)
    (g : vG C cc own nL rm) (hd : decode cc pc = .ok (.putfield idx, 3)) (q : Nat) (ws' : va_W) (he : ws[q]? = some (a, .inr (ci, fs))) (hlen : kf < fs.length) (hs : ws.set q (a, .inr (ci, fs.set kf v)) = ws') (K : VJ C k n (pc + 3) lv st ws') : VJ C k n pc lv (v :: .ref a :: st) ws := fun ls H locs hl hP hD hS =>
  va_putN (Ts := u_ws S T N) g.x g.b (fun w hw => g.w (hin w hw).1 (hin w hw).2) (fun _ h => h) ty0 hty hnm g.ow g.K hP hD hS q he hc kf hk (g.w hlk rfl) (fun x h => by rw [← href]; exact h) hfin hdt hnv hfv hlen hd (by rw [hs]; exact fun H1 locs1 hP1 hD1 hS1 => K ls H1 locs1 hl hP1 hD1 hS1)
/-! constants of the pool -/
theorem v_ldc {idx : Nat} {v : Int32} (g : vG C cc own nL rm) (hd : decode cc pc = .ok (.ldc idx, 2)) (hw : Cond.constant own idx v ∈ lw_tbl) (K : VJ C k n (pc + 2) lv (.int v :: st) ws) : VJ C k n pc lv st ws := fun ls H locs hl hP hD hS =>
  lv_ldc g.x g.b g.ow (g.w hw rfl) hd (K ls H locs hl hP hD hS)
theorem v_ldc2 {idx : Nat} {v : Int64} (g : vG C cc own nL rm) (hd : decode cc pc = .ok (.ldc2_w idx, 3)) (hw : Cond.constantLong own idx v ∈ lw_tbl) (K : VJ C k n (pc + 3) lv (.long v :: st) ws) : VJ C k n pc lv st ws := fun ls H locs hl hP hD hS =>
  lv_ldc2 g.x g.b g.ow (g.w hw rfl) hd (K ls H locs hl hP hD hS)
/-! calls -/
theorem v_back {y : MethodName} {post : Option Value → va_W → Prop} {wi wr : va_W} {mc ms : Nat} {st0 rest : List Value} {a : Array Value} {ls : Array Slot} {H : Heap} {locs : List Loc}
    (hr : va_Run C.p C.l C.e C.R C.s C.m C.args C.below C.meth C.c H locs k n mc ms (F0 C.m pc ls st0) rest (vQ C.D post (va_A wi H.size) a) (va_A wi H.size))
    (hl : lv_has ls C.nL lv) (hP : va_P C.D vwCl ws H) (hD : va_D C.A ws) (hS : va_S C.A C.s.heap H locs) (hF : ∀ q, va_A wi H.size q → C.A q) (isC isR : List Nat) (hC : isC.map (fun i => ws[i]?) = wi.map some) (hR : isR.map (fun i => ws[i]?) = wr.map some) (hn : va_nd isR = true) (hdis : ∀ i ∈ isR, i ∉ isC)
    (KK : ∀ (r : Option Value) (wo : va_W), post r wo → VJ C (k + mc) (n + ms) (pc + 3) lv (r.toList ++ rest) (wr ++ wo)) : W C.p C.l C.e C.R C.s C.m C.args C.below C.meth C.c H locs k n C.Q (F0 C.m pc ls st0) := by
  intro T hT X
  obtain ⟨v, st₀, t, T', L, h0, X', hL, e1, e2, ⟨⟨r, wo, hv, hp, hP1, hK1, hD1⟩, hz, hk⟩, stp⟩ := hr T hT X
  cases hv
  rw [h0] at hz hk
  rw [← e1] at hP1 hz hk
  obtain ⟨hP2, hD2⟩ := va_join hP hD isC isR hC hR hn hdis hk hF hP1 hD1
  have hS2 : va_S C.A C.s.heap T'.heap (locs ++ L) := ⟨Nat.le_trans hS.1 hz, fun q h1 h2 => by
      rw [hk q (Nat.lt_of_lt_of_le h1 hS.1) (fun z => h2 (hF q z))]; exact hS.2.1 q h1 h2, fun q hq => by
      rcases List.mem_append.mp hq with h | h
      · exact hS.2.2 q h
      · exact hF _ (hL q h)⟩
  obtain ⟨t2, a1, b1⟩ := KK _ wo hp ls T'.heap (locs ++ L) hl hP2 hD2 hS2 T' rfl X'
  exact ⟨t2, stp t2 a1, b1⟩
theorem v_pre {wi : va_W} {av : List Value} (g : vG C cc own nL rm) {H : Heap} {locs : List Loc} (hP : va_P C.D vwCl ws H) (hD : va_D C.A ws) (hS : va_S C.A C.s.heap H locs) (hF : ∀ q, va_A wi H.size q → C.A q) (isC : List Nat) (hC : isC.map (fun i => ws[i]?) = wi.map some) (hCf : isC.filterMap (fun i => ws[i]?) = wi) (hCn : va_nd isC = true) :
    PreS C.s H (va_Pc av (vPre C.D wi H.size)) av := by
  refine ⟨fun a U g' mk q => ?_, fun U hU hW => ⟨rfl, by rw [hU], by rw [hU]; exact hP.sub isC hCf, va_K.moved hW.alike g.K, (hD.sub isC hCn hC).weaken (fun _ _ _ _ => trivial), ?_⟩⟩
  · obtain ⟨q0, q1, qP, qK, qD, qG⟩ := q
    exact ⟨q0, q1, qP, va_K.moved (u := U) (U := U.calling g' mk a) (Vm.Alike.refl U.vm) qK, qD, qG.go (State.WarmedH.refl U) (fun _ _ _ => rfl) (fun _ h => h)⟩
  · rw [hU]
    exact g.gv.go hW hS.2.1 hF
theorem v_callV {y : MethodName} {cc' : ByteArray} {maxL' idx b ci N np : Nat} {ret' : Option FieldType} {rm' : Room} {As rest : List Value} {wi wr : va_W} {post : Option Value → va_W → Prop} {fs : List Value} {T : u_T}
    (w : GoodIn lw_tbl (wsV own idx y.cls y [.code y cc' maxL' ret'])) (hy : y.cls ≠ "java/lang/invoke/MethodHandle" ∧ y.cls ≠ "java/lang/invoke/VarHandle" ∧ (parseMethodDescriptor y.desc).map (fun d => d.parameters.length) = some np)
    (g : vG C cc own nL rm) (M : vM C.l C.D y cc' maxL' ret' rm' (.ref b :: As) wi post) (hd : decode cc pc = .ok (.invokevirtual idx, 3)) (q0 : Nat) (he : ws[q0]? = some (b, .inr (ci, fs))) (hc : vwCl[ci]? = some (y.cls, T, N)) (hnp : As.length = np)
    (hR : rm'.frames + 1 ≤ rm.frames ∧ 8 + (maxL' + 11) + rm'.locals ≤ rm.locals) (hroom : k + rm'.cells ≤ rm.cells ∧ n + rm'.slots ≤ rm.slots) (hst : (rest.map fun v => v.category).sum ≤ 8)
    (isC isR : List Nat) (hC : isC.map (fun i => ws[i]?) = wi.map some) (hCf : isC.filterMap (fun i => ws[i]?) = wi) (hCn : va_nd isC = true) (hRr : isR.map (fun i => ws[i]?) = wr.map some) (hn : va_nd isR = true) (hdis : ∀ i ∈ isR, i ∉ isC)
    (st0 : List Value) (hst0 : st0 = As.reverse ++ .ref b :: rest) (KK : ∀ (r : Option Value) (wo : va_W), post r wo → VJ C (k + rm'.cells) (n + rm'.slots) (pc + 3) lv (r.toList ++ rest) (wr ++ wo)) : VJ C k n pc lv st0 ws := fun ls H locs hl hP hD hS => by
  subst hst0
  have hF := va_free (wc := wi) hD hS g.hA isC hC
  have hpre := v_pre (wi := wi) (av := .ref b :: As) g hP hD hS hF isC hC hCf hCn
  have hRR := g.rmE
  refine v_back (y := y) (va_runV (C := y.cls) (As := As) (rest := rest) ⟨g.x, g.b, g.ml, g.ow, g.wss w⟩ (M H.size) (cwV np (g.wss w) (good_self w) rfl rfl rfl ⟨rfl, hy⟩ (by rw [hRR]; exact hR)) ⟨hpre.1, va_recv g.K hP hc he, hpre.2⟩ rfl hnp hl.1 rfl (lv_room hst) hd (by rw [hRR]; exact hroom)) hl hP hD hS hF isC isR hC hRr hn hdis KK
theorem v_callS {y : MethodName} {cc' : ByteArray} {maxL' idx np : Nat} {ret' : Option FieldType} {rm' : Room} {As rest : List Value} {wi wr : va_W} {post : Option Value → va_W → Prop}
    (w : GoodIn lw_tbl (va_wsS own idx y [.code y cc' maxL' ret'])) (hy : y.cls ≠ "java/lang/invoke/MethodHandle" ∧ y.cls ≠ "java/lang/invoke/VarHandle" ∧ (parseMethodDescriptor y.desc).map (fun d => d.parameters.length) = some np)
    (g : vG C cc own nL rm) (M : vM C.l C.D y cc' maxL' ret' rm' As wi post) (hd : decode cc pc = .ok (.invokestatic idx, 3)) (hnp : As.length = np)
    (hR : rm'.frames + 1 ≤ rm.frames ∧ 8 + (maxL' + 11) + rm'.locals ≤ rm.locals) (hroom : k + rm'.cells ≤ rm.cells ∧ n + rm'.slots ≤ rm.slots) (hst : (rest.map fun v => v.category).sum ≤ 8)
    (isC isR : List Nat) (hC : isC.map (fun i => ws[i]?) = wi.map some) (hCf : isC.filterMap (fun i => ws[i]?) = wi) (hCn : va_nd isC = true) (hRr : isR.map (fun i => ws[i]?) = wr.map some) (hn : va_nd isR = true) (hdis : ∀ i ∈ isR, i ∉ isC)
    (st0 : List Value) (hst0 : st0 = As.reverse ++ rest) (KK : ∀ (r : Option Value) (wo : va_W), post r wo → VJ C (k + rm'.cells) (n + rm'.slots) (pc + 3) lv (r.toList ++ rest) (wr ++ wo)) : VJ C k n pc lv st0 ws := fun ls H locs hl hP hD hS => by
  subst hst0
  have hF := va_free (wc := wi) hD hS g.hA isC hC
  have hpre := v_pre (wi := wi) (av := As) g hP hD hS hF isC hC hCf hCn
  have hRR := g.rmE
  have ok := g.wss w
  have hG : GoodIn (va_wsS own idx y [.code y cc' maxL' ret']) [.code y cc' maxL' ret'] := fun u hu => good_self w u (by unfold va_wsS; exact List.mem_append_right _ hu)
  refine v_back (y := y) (va_runS (As := As) (rest := rest) ⟨g.x, g.b, g.ml, g.ow, ok⟩ (M H.size) ⟨callB_of np ok hG rfl rfl rfl (ok _ (by simp [va_wsS])) (ok _ (by simp [va_wsS])) hy (by rw [hRR]; exact hR), ok _ (by simp [va_wsS])⟩ hpre rfl hnp hl.1 rfl (lv_room hst) hd (by rw [hRR]; exact hroom)) hl hP hD hS hF isC isR hC hRr hn hdis KK
theorem v_callSN {y : MethodName} {cc' : ByteArray} {maxL' idx np : Nat} {ret' : Option FieldType} {rm' : Room} {As rest : List Value} {wi wr : va_W} {post : Option Value → va_W → Prop} {host : String}
    (w : GoodIn lw_tbl [.static y, .initialized y.cls, .code y cc' maxL' ret']) (hlk : Cond.methodLinkNest own idx y host ∈ lw_tbl) (hy : y.cls ≠ "java/lang/invoke/MethodHandle" ∧ y.cls ≠ "java/lang/invoke/VarHandle" ∧ (parseMethodDescriptor y.desc).map (fun d => d.parameters.length) = some np)
    (g : vG C cc own nL rm) (M : vM C.l C.D y cc' maxL' ret' rm' As wi post) (hd : decode cc pc = .ok (.invokestatic idx, 3)) (hnp : As.length = np)
    (hR : rm'.frames + 1 ≤ rm.frames ∧ 8 + (maxL' + 11) + rm'.locals ≤ rm.locals) (hroom : k + rm'.cells ≤ rm.cells ∧ n + rm'.slots ≤ rm.slots) (hst : (rest.map fun v => v.category).sum ≤ 8)
    (isC isR : List Nat) (hC : isC.map (fun i => ws[i]?) = wi.map some) (hCf : isC.filterMap (fun i => ws[i]?) = wi) (hCn : va_nd isC = true) (hRr : isR.map (fun i => ws[i]?) = wr.map some) (hn : va_nd isR = true) (hdis : ∀ i ∈ isR, i ∉ isC)
    (st0 : List Value) (hst0 : st0 = As.reverse ++ rest) (KK : ∀ (r : Option Value) (wo : va_W), post r wo → VJ C (k + rm'.cells) (n + rm'.slots) (pc + 3) lv (r.toList ++ rest) (wr ++ wo)) : VJ C k n pc lv st0 ws := fun ls H locs hl hP hD hS => by
  subst hst0
  have hF := va_free (wc := wi) hD hS g.hA isC hC
  have hpre := v_pre (wi := wi) (av := As) g hP hD hS hF isC hC hCf hCn
  have hRR := g.rmE
  have ok := g.wss w
  have hG : GoodIn ([.static y, .initialized y.cls, .code y cc' maxL' ret'] : List Cond) [.code y cc' maxL' ret'] := fun u hu => good_self w u (List.mem_cons_of_mem _ (List.mem_cons_of_mem _ hu))
  refine v_back (y := y) (va_runSN (As := As) (rest := rest) ⟨g.x, g.b, g.ml, g.ow, ok⟩ (M H.size) ⟨va_cnB np ok hG rfl rfl rfl (va_Nw.of rfl (g.w hlk rfl)) (ok _ (by simp)) hy (by rw [hRR]; exact hR), ok _ (by simp), trivial⟩ hpre rfl hnp hl.1 rfl (lv_room hst) hd (by rw [hRR]; exact hroom)) hl hP hD hS hF isC isR hC hRr hn hdis KK
theorem v_callI {y : MethodName} {cc' : ByteArray} {maxL' idx b np : Nat} {rm' : Room} {As rest : List Value} {wi wr : va_W} {post : Option Value → va_W → Prop}
    (w : GoodIn lw_tbl [.methodLink own idx y, .instanceMethod y, .initialized y.cls, .code y cc' maxL' none]) (hin : y.name = "<init>") (hy : y.cls ≠ "java/lang/invoke/MethodHandle" ∧ y.cls ≠ "java/lang/invoke/VarHandle" ∧ (parseMethodDescriptor y.desc).map (fun d => d.parameters.length) = some np)
    (g : vG C cc own nL rm) (M : vM C.l C.D y cc' maxL' none rm' (.ref b :: As) wi post) (hd : decode cc pc = .ok (.invokespecial idx, 3)) (hnp : As.length = np)
    (hR : rm'.frames + 1 ≤ rm.frames ∧ 8 + (maxL' + 11) + rm'.locals ≤ rm.locals) (hroom : k + rm'.cells ≤ rm.cells ∧ n + rm'.slots ≤ rm.slots) (hst : (rest.map fun v => v.category).sum ≤ 8)
    (isC isR : List Nat) (hC : isC.map (fun i => ws[i]?) = wi.map some) (hCf : isC.filterMap (fun i => ws[i]?) = wi) (hCn : va_nd isC = true) (hRr : isR.map (fun i => ws[i]?) = wr.map some) (hn : va_nd isR = true) (hdis : ∀ i ∈ isR, i ∉ isC)
    (st0 : List Value) (hst0 : st0 = As.reverse ++ .ref b :: rest) (KK : ∀ (r : Option Value) (wo : va_W), post r wo → VJ C (k + rm'.cells) (n + rm'.slots) (pc + 3) lv (r.toList ++ rest) (wr ++ wo)) : VJ C k n pc lv st0 ws := fun ls H locs hl hP hD hS => by
  subst hst0
  have hF := va_free (wc := wi) hD hS g.hA isC hC
  have hpre := v_pre (wi := wi) (av := .ref b :: As) g hP hD hS hF isC hC hCf hCn
  have hRR := g.rmE
  have ok := g.wss w
  have hG : GoodIn ([.methodLink own idx y, .instanceMethod y, .initialized y.cls, .code y cc' maxL' none] : List Cond) [.code y cc' maxL' none] := fun u hu => good_self w u (List.mem_cons_of_mem _ (List.mem_cons_of_mem _ (List.mem_cons_of_mem _ hu)))
  refine v_back (y := y) (va_runI (As := As) (rest := rest) ⟨g.x, g.b, g.ml, g.ow, ok⟩ (M H.size) ⟨callB_of np ok hG rfl rfl rfl (ok _ (by simp)) (ok _ (by simp)) hy (by rw [hRR]; exact hR), hin, ok _ (by simp)⟩ hpre rfl hnp hl.1 rfl (lv_room hst) hd (by rw [hRR]; exact hroom)) hl hP hD hS hF isC isR hC hRr hn hdis KK
/-! loops -/
theorem v_for {P : Nat → Prop} (N : Nat) (hs : ∀ i, i < N → P (i + 1) → P i) (he : P N) : ∀ i, i ≤ N → P i := by
  have h : ∀ d i, i + d = N → P i := by
    intro d
    induction d with
    | zero => intro i hi; rw [show i = N by omega]; exact he
    | succ d ih => intro i hi; exact hs i (by omega) (ih (i + 1) (by omega))
  exact fun i hi => h (N - i) i (by omega)
theorem v_mea {α : Type} {P : α → Prop} (μ : α → Nat) (hs : ∀ a, (∀ b, μ b < μ a → P b) → P a) : ∀ a, P a := by
  have h : ∀ d a, μ a < d → P a := by
    intro d
    induction d with
    | zero => intro a ha; exact absurd ha (by omega)
    | succ d ih => intro a ha; exact hs a (fun b hb => ih b (by omega))
  exact fun a => h (μ a + 1) a (by omega)
end CON
/-! cells -/
abbrev aW (D : va_G) (n : Nat) (t : Nat → Wd) : va_E := .inl (D.1 101, n, .inl (fun j => wI (t j)))
abbrev aN (D : va_G) (n : Nat) (t : Nat → Nat) : va_E := .inl (D.1 101, n, .inl (fun j => nI (t j)))
abbrev aY (D : va_G) (n : Nat) (t : Nat → By) : va_E := .inl (D.1 101, n, .inl (fun j => nI (t j).toNat))
abbrev aI (D : va_G) (n : Nat) (t : Nat → Int32) : va_E := .inl (D.1 101, n, .inl t)
abbrev aB (D : va_G) (n : Nat) (t : Nat → By) : va_E := .inl (D.1 100, n, .inl (fun j => bI (t j)))
abbrev aL (D : va_G) (n : Nat) (t : Nat → Nat) : va_E := .inl (D.1 102, n, .inr (.inl (fun j => lN (t j))))
abbrev aM (D : va_G) (n : Nat) (t : Nat → Wd) : va_E := .inl (D.1 102, n, .inr (.inl (fun j => lN (t j).toNat)))
abbrev aR (D : va_G) (c n : Nat) (t : Nat → Option Nat) : va_E := .inl (D.1 c, n, .inr (.inr (.inr (.inr t))))
theorem up_of {α β : Type} (F : α → β) (t : Nat → α) (i : Nat) (x : α) : (fun j => if j = i then F x else F (t j)) = fun j => F (va_up t i x j) := by
  funext j
  by_cases h : j = i <;> simp [va_up, h]
theorem va_up_at {α : Type} (t : Nat → α) (i : Nat) (x : α) : va_up t i x i = x := by simp [va_up]
section TYP
variable {C : Cx} {cc : ByteArray} {own : String} {nL : Nat} {rm : Room} {k n pc : Nat} {lv : List (Nat × Value)} {st : List Value} {ws : va_W}
theorem v_nmN {a : Nat} (K : ∀ b : Nat, b = a → VJ C k n pc lv (.int (nI b) :: st) ws) : VJ C k n pc lv (.int (nI a) :: st) ws := K a rfl
theorem v_nmW {a : Wd} (K : ∀ b : Wd, b = a → VJ C k n pc lv (.int (wI b) :: st) ws) : VJ C k n pc lv (.int (wI a) :: st) ws := K a rfl
theorem v_nmB {a : By} (K : ∀ b : By, b = a → VJ C k n pc lv (.int (bI b) :: st) ws) : VJ C k n pc lv (.int (bI a) :: st) ws := K a rfl
theorem v_nmL {a : Nat} (K : ∀ b : Nat, b = a → VJ C k n pc lv (.long (lN b) :: st) ws) : VJ C k n pc lv (.long (lN a) :: st) ws := K a rfl
theorem v_nmX {a : BitVec 64} (K : ∀ b : BitVec 64, b = a → VJ C k n pc lv (.long (xL b) :: st) ws) : VJ C k n pc lv (.long (xL a) :: st) ws := K a rfl
theorem v_iaddW (g : vG C cc own nL rm) {x y : Int32} (a b : Wd) (hx : x = wI a) (hy : y = wI b) (hd : decode cc pc = .ok (.iadd, 1)) (K : VJ C k n (pc + 1) lv (.int (wI (a + b)) :: st) ws) : VJ C k n pc lv (.int y :: .int x :: st) ws := by subst hx; subst hy; exact v_iadd g hd K
theorem v_isubW (g : vG C cc own nL rm) {x y : Int32} (a b : Wd) (hx : x = wI a) (hy : y = wI b) (hd : decode cc pc = .ok (.isub, 1)) (K : VJ C k n (pc + 1) lv (.int (wI (a - b)) :: st) ws) : VJ C k n pc lv (.int y :: .int x :: st) ws := by subst hx; subst hy; exact v_isub g hd K
theorem v_imulW (g : vG C cc own nL rm) {x y : Int32} (a b : Wd) (hx : x = wI a) (hy : y = wI b) (hd : decode cc pc = .ok (.imul, 1)) (K : VJ C k n (pc + 1) lv (.int (wI (a * b)) :: st) ws) : VJ C k n pc lv (.int y :: .int x :: st) ws := by subst hx; subst hy; exact v_imul g hd K
theorem v_iandW (g : vG C cc own nL rm) {x y : Int32} (a b : Wd) (hx : x = wI a) (hy : y = wI b) (hd : decode cc pc = .ok (.iand, 1)) (K : VJ C k n (pc + 1) lv (.int (wI (a &&& b)) :: st) ws) : VJ C k n pc lv (.int y :: .int x :: st) ws := by subst hx; subst hy; exact v_iand g hd K
theorem v_iorW (g : vG C cc own nL rm) {x y : Int32} (a b : Wd) (hx : x = wI a) (hy : y = wI b) (hd : decode cc pc = .ok (.ior, 1)) (K : VJ C k n (pc + 1) lv (.int (wI (a ||| b)) :: st) ws) : VJ C k n pc lv (.int y :: .int x :: st) ws := by subst hx; subst hy; exact v_ior g hd K
theorem v_ixorW (g : vG C cc own nL rm) {x y : Int32} (a b : Wd) (hx : x = wI a) (hy : y = wI b) (hd : decode cc pc = .ok (.ixor, 1)) (K : VJ C k n (pc + 1) lv (.int (wI (a ^^^ b)) :: st) ws) : VJ C k n pc lv (.int y :: .int x :: st) ws := by subst hx; subst hy; exact v_ixor g hd K
theorem v_ishlW (g : vG C cc own nL rm) {x : Int32} (a : Wd) {s : Nat} (hx : x = wI a) (hs : s < 32) (hd : decode cc pc = .ok (.ishl, 1)) (K : VJ C k n (pc + 1) lv (.int (wI (a <<< s)) :: st) ws) : VJ C k n pc lv (.int (nI s) :: .int x :: st) ws := by subst hx; exact v_ishl g hd (by rw [wI_shl a hs]; exact K)
theorem v_iushrW (g : vG C cc own nL rm) {x : Int32} (a : Wd) {s : Nat} (hx : x = wI a) (hs : s < 32) (hd : decode cc pc = .ok (.iushr, 1)) (K : VJ C k n (pc + 1) lv (.int (wI (a >>> s)) :: st) ws) : VJ C k n pc lv (.int (nI s) :: .int x :: st) ws := by subst hx; exact v_iushr g hd (by rw [wI_ushr a hs]; exact K)
theorem v_i2bW (g : vG C cc own nL rm) {x : Int32} (a : Wd) (hx : x = wI a) (hd : decode cc pc = .ok (.i2b, 1)) (K : VJ C k n (pc + 1) lv (.int (bI (a.setWidth 8)) :: st) ws) : VJ C k n pc lv (.int x :: st) ws := by subst hx; exact v_i2b g hd (by rw [wI_i2b]; exact K)
theorem v_i2bN (g : vG C cc own nL rm) {a : Nat} (hd : decode cc pc = .ok (.i2b, 1)) (K : VJ C k n (pc + 1) lv (.int (bI (BitVec.ofNat 8 a)) :: st) ws) : VJ C k n pc lv (.int (nI a) :: st) ws := v_i2b g hd (by rw [nI_i2b]; exact K)
theorem v_iandB (g : vG C cc own nL rm) {b : By} (hd : decode cc pc = .ok (.iand, 1)) (K : VJ C k n (pc + 1) lv (.int (wI (b.setWidth 32)) :: st) ws) : VJ C k n pc lv (.int (nI 255) :: .int (bI b) :: st) ws := v_iand g hd (by rw [bI_and]; exact K)
theorem v_iandBN (g : vG C cc own nL rm) {b : By} (hd : decode cc pc = .ok (.iand, 1)) (K : VJ C k n (pc + 1) lv (.int (nI b.toNat) :: st) ws) : VJ C k n pc lv (.int (nI 255) :: .int (bI b) :: st) ws := v_iand g hd (by rw [bI_nat]; exact K)
theorem v_iandN (g : vG C cc own nL rm) {a b : Nat} (hd : decode cc pc = .ok (.iand, 1)) (K : VJ C k n (pc + 1) lv (.int (nI (a &&& b)) :: st) ws) : VJ C k n pc lv (.int (nI b) :: .int (nI a) :: st) ws := v_iand g hd (by rw [nI_iand]; exact K)
theorem v_iorN (g : vG C cc own nL rm) {a b : Nat} (hd : decode cc pc = .ok (.ior, 1)) (K : VJ C k n (pc + 1) lv (.int (nI (a ||| b)) :: st) ws) : VJ C k n pc lv (.int (nI b) :: .int (nI a) :: st) ws := v_ior g hd (by rw [nI_ior]; exact K)
theorem v_ixorN (g : vG C cc own nL rm) {a b : Nat} (hd : decode cc pc = .ok (.ixor, 1)) (K : VJ C k n (pc + 1) lv (.int (nI (a ^^^ b)) :: st) ws) : VJ C k n pc lv (.int (nI b) :: .int (nI a) :: st) ws := v_ixor g hd (by rw [nI_ixor]; exact K)
theorem v_iandM (g : vG C cc own nL rm) {a b : Nat} (s : Nat) (hb : b = 2 ^ s - 1) (hd : decode cc pc = .ok (.iand, 1)) (K : VJ C k n (pc + 1) lv (.int (nI (a % 2 ^ s)) :: st) ws) : VJ C k n pc lv (.int (nI b) :: .int (nI a) :: st) ws := v_iand g hd (by rw [hb, nI_mask]; exact K)
theorem v_ishlN (g : vG C cc own nL rm) {a s : Nat} (hs : s < 32) (hd : decode cc pc = .ok (.ishl, 1)) (K : VJ C k n (pc + 1) lv (.int (nI (a * 2 ^ s)) :: st) ws) : VJ C k n pc lv (.int (nI s) :: .int (nI a) :: st) ws := v_ishl g hd (by rw [nI_shl a hs]; exact K)
theorem v_ishrN (g : vG C cc own nL rm) {a s : Nat} (ha : a < 2 ^ 31) (hs : s < 32) (hd : decode cc pc = .ok (.ishr, 1)) (K : VJ C k n (pc + 1) lv (.int (nI (a / 2 ^ s)) :: st) ws) : VJ C k n pc lv (.int (nI s) :: .int (nI a) :: st) ws := v_ishr g hd (by rw [nI_shr ha hs]; exact K)
theorem v_iushrN (g : vG C cc own nL rm) {a s : Nat} (ha : a < 2 ^ 32) (hs : s < 32) (hd : decode cc pc = .ok (.iushr, 1)) (K : VJ C k n (pc + 1) lv (.int (nI (a / 2 ^ s)) :: st) ws) : VJ C k n pc lv (.int (nI s) :: .int (nI a) :: st) ws := v_iushr g hd (by rw [nI_ushr ha hs]; exact K)
theorem v_laddN (g : vG C cc own nL rm) {a b : Nat} (hd : decode cc pc = .ok (.ladd, 1)) (K : VJ C k n (pc + 1) lv (.long (lN (a + b)) :: st) ws) : VJ C k n pc lv (.long (lN b) :: .long (lN a) :: st) ws := v_ladd g hd (by rw [lN_add]; exact K)
theorem v_lmulN (g : vG C cc own nL rm) {a b : Nat} (hd : decode cc pc = .ok (.lmul, 1)) (K : VJ C k n (pc + 1) lv (.long (lN (a * b)) :: st) ws) : VJ C k n pc lv (.long (lN b) :: .long (lN a) :: st) ws := v_lmul g hd (by rw [lN_mul]; exact K)
theorem v_landN (g : vG C cc own nL rm) {a b : Nat} (hd : decode cc pc = .ok (.land, 1)) (K : VJ C k n (pc + 1) lv (.long (lN (a &&& b)) :: st) ws) : VJ C k n pc lv (.long (lN b) :: .long (lN a) :: st) ws := v_land g hd (by rw [lN_land]; exact K)
theorem v_lorN (g : vG C cc own nL rm) {a b : Nat} (hd : decode cc pc = .ok (.lor, 1)) (K : VJ C k n (pc + 1) lv (.long (lN (a ||| b)) :: st) ws) : VJ C k n pc lv (.long (lN b) :: .long (lN a) :: st) ws := v_lor g hd (by rw [lN_lor]; exact K)
theorem v_lxorN (g : vG C cc own nL rm) {a b : Nat} (hd : decode cc pc = .ok (.lxor, 1)) (K : VJ C k n (pc + 1) lv (.long (lN (a ^^^ b)) :: st) ws) : VJ C k n pc lv (.long (lN b) :: .long (lN a) :: st) ws := v_lxor g hd (by rw [lN_lxor]; exact K)
theorem v_lsubN (g : vG C cc own nL rm) {a b : Nat} (h : b ≤ a) (hd : decode cc pc = .ok (.lsub, 1)) (K : VJ C k n (pc + 1) lv (.long (lN (a - b)) :: st) ws) : VJ C k n pc lv (.long (lN b) :: .long (lN a) :: st) ws := v_lsub g hd (by rw [lN_sub h]; exact K)
theorem v_landM (g : vG C cc own nL rm) {a b : Nat} (s : Nat) (hb : b = 2 ^ s - 1) (hd : decode cc pc = .ok (.land, 1)) (K : VJ C k n (pc + 1) lv (.long (lN (a % 2 ^ s)) :: st) ws) : VJ C k n pc lv (.long (lN b) :: .long (lN a) :: st) ws := v_land g hd (by rw [hb, lN_mask]; exact K)
theorem v_lshlN (g : vG C cc own nL rm) {a s : Nat} (hs : s < 64) (hd : decode cc pc = .ok (.lshl, 1)) (K : VJ C k n (pc + 1) lv (.long (lN (a * 2 ^ s)) :: st) ws) : VJ C k n pc lv (.int (nI s) :: .long (lN a) :: st) ws := v_lshl g hd (by rw [lN_shl a hs]; exact K)
theorem v_lshrN (g : vG C cc own nL rm) {a s : Nat} (ha : a < 2 ^ 63) (hs : s < 64) (hd : decode cc pc = .ok (.lshr, 1)) (K : VJ C k n (pc + 1) lv (.long (lN (a / 2 ^ s)) :: st) ws) : VJ C k n pc lv (.int (nI s) :: .long (lN a) :: st) ws := v_lshr g hd (by rw [lN_shr ha hs]; exact K)
theorem v_lushrN (g : vG C cc own nL rm) {a s : Nat} (ha : a < 2 ^ 64) (hs : s < 64) (hd : decode cc pc = .ok (.lushr, 1)) (K : VJ C k n (pc + 1) lv (.long (lN (a / 2 ^ s)) :: st) ws) : VJ C k n pc lv (.int (nI s) :: .long (lN a) :: st) ws := v_lushr g hd (by rw [lN_ushr ha hs]; exact K)
theorem v_lushrX (g : vG C cc own nL rm) {x : BitVec 64} {s : Nat} (hs : s < 64) (hd : decode cc pc = .ok (.lushr, 1)) (K : VJ C k n (pc + 1) lv (.long (xL (x >>> s)) :: st) ws) : VJ C k n pc lv (.int (nI s) :: .long (xL x) :: st) ws := v_lushr g hd (by rw [xL_ushr x hs]; exact K)
theorem v_lshrX (g : vG C cc own nL rm) {x : BitVec 64} {s : Nat} (hs : s < 64) (hd : decode cc pc = .ok (.lshr, 1)) (K : VJ C k n (pc + 1) lv (.long (xL (x.sshiftRight s)) :: st) ws) : VJ C k n pc lv (.int (nI s) :: .long (xL x) :: st) ws := v_lshr g hd (by rw [xL_shr x hs]; exact K)
theorem v_lshlX (g : vG C cc own nL rm) {x : BitVec 64} {s : Nat} (hs : s < 64) (hd : decode cc pc = .ok (.lshl, 1)) (K : VJ C k n (pc + 1) lv (.long (xL (x <<< s)) :: st) ws) : VJ C k n pc lv (.int (nI s) :: .long (xL x) :: st) ws := v_lshl g hd (by rw [xL_shl x hs]; exact K)
theorem v_laddX (g : vG C cc own nL rm) {x y : Int64} (a b : BitVec 64) (hx : x = xL a) (hy : y = xL b) (hd : decode cc pc = .ok (.ladd, 1)) (K : VJ C k n (pc + 1) lv (.long (xL (a + b)) :: st) ws) : VJ C k n pc lv (.long y :: .long x :: st) ws := by subst hx; subst hy; exact v_ladd g hd K
theorem v_lsubX (g : vG C cc own nL rm) {x y : Int64} (a b : BitVec 64) (hx : x = xL a) (hy : y = xL b) (hd : decode cc pc = .ok (.lsub, 1)) (K : VJ C k n (pc + 1) lv (.long (xL (a - b)) :: st) ws) : VJ C k n pc lv (.long y :: .long x :: st) ws := by subst hx; subst hy; exact v_lsub g hd K
theorem v_landX (g : vG C cc own nL rm) {x y : Int64} (a b : BitVec 64) (hx : x = xL a) (hy : y = xL b) (hd : decode cc pc = .ok (.land, 1)) (K : VJ C k n (pc + 1) lv (.long (xL (a &&& b)) :: st) ws) : VJ C k n pc lv (.long y :: .long x :: st) ws := by subst hx; subst hy; exact v_land g hd K
theorem v_lorX (g : vG C cc own nL rm) {x y : Int64} (a b : BitVec 64) (hx : x = xL a) (hy : y = xL b) (hd : decode cc pc = .ok (.lor, 1)) (K : VJ C k n (pc + 1) lv (.long (xL (a ||| b)) :: st) ws) : VJ C k n pc lv (.long y :: .long x :: st) ws := by subst hx; subst hy; exact v_lor g hd K
theorem v_lxorX (g : vG C cc own nL rm) {x y : Int64} (a b : BitVec 64) (hx : x = xL a) (hy : y = xL b) (hd : decode cc pc = .ok (.lxor, 1)) (K : VJ C k n (pc + 1) lv (.long (xL (a ^^^ b)) :: st) ws) : VJ C k n pc lv (.long y :: .long x :: st) ws := by subst hx; subst hy; exact v_lxor g hd K
theorem v_i2lN (g : vG C cc own nL rm) {a : Nat} (ha : a < 2 ^ 31) (hd : decode cc pc = .ok (.i2l, 1)) (K : VJ C k n (pc + 1) lv (.long (lN a) :: st) ws) : VJ C k n pc lv (.int (nI a) :: st) ws := v_i2l g hd (by rw [nI_l ha]; exact K)
theorem v_i2lW (g : vG C cc own nL rm) {x : Int32} (a : Wd) (hx : x = wI a) (hd : decode cc pc = .ok (.i2l, 1)) (K : VJ C k n (pc + 1) lv (.long (xL (a.signExtend 64)) :: st) ws) : VJ C k n pc lv (.int x :: st) ws := by subst hx; exact v_i2l g hd K
theorem v_l2iN (g : vG C cc own nL rm) {a : Nat} (hd : decode cc pc = .ok (.l2i, 1)) (K : VJ C k n (pc + 1) lv (.int (nI a) :: st) ws) : VJ C k n pc lv (.long (lN a) :: st) ws := v_l2i g hd (by rw [lN_i]; exact K)
theorem v_l2iX (g : vG C cc own nL rm) {x : BitVec 64} (hd : decode cc pc = .ok (.l2i, 1)) (K : VJ C k n (pc + 1) lv (.int (wI (x.setWidth 32)) :: st) ws) : VJ C k n pc lv (.long (xL x) :: st) ws := v_l2i g hd (by rw [xL_l2i]; exact K)
theorem v_lif_eqN (g : vG C cc own nL rm) {a b : Nat} {off : Int} (tgt : Nat) (hd : decode cc pc = .ok (.lcmp, 1)) (hd2 : decode cc (pc + 1) = .ok (.ifCond .eq off, 3)) (ht : ((pc + 1 : Nat) : Int) + off = (tgt : Int)) (ha : a < 2 ^ 63) (hb : b < 2 ^ 63) (kt : a = b → VJ C k n tgt lv st ws) (kf : a ≠ b → VJ C k n (pc + 4) lv st ws) : VJ C k n pc lv (.long (lN b) :: .long (lN a) :: st) ws := by
  refine v_lcmp g hd (v_if_eq g tgt hd2 ht (fun h => kt ?_) (fun h => kf ?_))
  · have q := pk_lLT ha hb; have q2 := pk_lLT hb ha; have q3 := pk_lEQ ha hb; unfold lg_cmp at h; by_cases h1 : lN b < lN a <;> by_cases h2 : lN a = lN b <;> simp [h1, h2] at h q q2 q3 <;> first | omega | (revert h; decide)
  · have q := pk_lLT ha hb; have q2 := pk_lLT hb ha; have q3 := pk_lEQ ha hb; unfold lg_cmp at h; by_cases h1 : lN b < lN a <;> by_cases h2 : lN a = lN b <;> simp [h1, h2] at h q q2 q3 <;> first | omega | (revert h; decide)
theorem v_lif_neN (g : vG C cc own nL rm) {a b : Nat} {off : Int} (tgt : Nat) (hd : decode cc pc = .ok (.lcmp, 1)) (hd2 : decode cc (pc + 1) = .ok (.ifCond .ne off, 3)) (ht : ((pc + 1 : Nat) : Int) + off = (tgt : Int)) (ha : a < 2 ^ 63) (hb : b < 2 ^ 63) (kt : a ≠ b → VJ C k n tgt lv st ws) (kf : a = b → VJ C k n (pc + 4) lv st ws) : VJ C k n pc lv (.long (lN b) :: .long (lN a) :: st) ws := by
  refine v_lcmp g hd (v_if_ne g tgt hd2 ht (fun h => kt ?_) (fun h => kf ?_))
  · have q := pk_lLT ha hb; have q2 := pk_lLT hb ha; have q3 := pk_lEQ ha hb; unfold lg_cmp at h; by_cases h1 : lN b < lN a <;> by_cases h2 : lN a = lN b <;> simp [h1, h2] at h q q2 q3 <;> first | omega | (revert h; decide)
  · have q := pk_lLT ha hb; have q2 := pk_lLT hb ha; have q3 := pk_lEQ ha hb; unfold lg_cmp at h; by_cases h1 : lN b < lN a <;> by_cases h2 : lN a = lN b <;> simp [h1, h2] at h q q2 q3 <;> first | omega | (revert h; decide)
theorem v_lif_ltN (g : vG C cc own nL rm) {a b : Nat} {off : Int} (tgt : Nat) (hd : decode cc pc = .ok (.lcmp, 1)) (hd2 : decode cc (pc + 1) = .ok (.ifCond .lt off, 3)) (ht : ((pc + 1 : Nat) : Int) + off = (tgt : Int)) (ha : a < 2 ^ 63) (hb : b < 2 ^ 63) (kt : a < b → VJ C k n tgt lv st ws) (kf : b ≤ a → VJ C k n (pc + 4) lv st ws) : VJ C k n pc lv (.long (lN b) :: .long (lN a) :: st) ws := by
  refine v_lcmp g hd (v_if_lt g tgt hd2 ht (fun h => kt ?_) (fun h => kf ?_))
  · have q := pk_lLT ha hb; have q2 := pk_lLT hb ha; have q3 := pk_lEQ ha hb; unfold lg_cmp at h; by_cases h1 : lN b < lN a <;> by_cases h2 : lN a = lN b <;> simp [h1, h2] at h q q2 q3 <;> first | omega | (revert h; decide)
  · have q := pk_lLT ha hb; have q2 := pk_lLT hb ha; have q3 := pk_lEQ ha hb; unfold lg_cmp at h; by_cases h1 : lN b < lN a <;> by_cases h2 : lN a = lN b <;> simp [h1, h2] at h q q2 q3 <;> first | omega | (revert h; decide)
theorem v_lif_geN (g : vG C cc own nL rm) {a b : Nat} {off : Int} (tgt : Nat) (hd : decode cc pc = .ok (.lcmp, 1)) (hd2 : decode cc (pc + 1) = .ok (.ifCond .ge off, 3)) (ht : ((pc + 1 : Nat) : Int) + off = (tgt : Int)) (ha : a < 2 ^ 63) (hb : b < 2 ^ 63) (kt : b ≤ a → VJ C k n tgt lv st ws) (kf : a < b → VJ C k n (pc + 4) lv st ws) : VJ C k n pc lv (.long (lN b) :: .long (lN a) :: st) ws := by
  refine v_lcmp g hd (v_if_ge g tgt hd2 ht (fun h => kt ?_) (fun h => kf ?_))
  · have q := pk_lLT ha hb; have q2 := pk_lLT hb ha; have q3 := pk_lEQ ha hb; unfold lg_cmp at h; by_cases h1 : lN b < lN a <;> by_cases h2 : lN a = lN b <;> simp [h1, h2] at h q q2 q3 <;> first | omega | (revert h; decide)
  · have q := pk_lLT ha hb; have q2 := pk_lLT hb ha; have q3 := pk_lEQ ha hb; unfold lg_cmp at h; by_cases h1 : lN b < lN a <;> by_cases h2 : lN a = lN b <;> simp [h1, h2] at h q q2 q3 <;> first | omega | (revert h; decide)
theorem v_lif_gtN (g : vG C cc own nL rm) {a b : Nat} {off : Int} (tgt : Nat) (hd : decode cc pc = .ok (.lcmp, 1)) (hd2 : decode cc (pc + 1) = .ok (.ifCond .gt off, 3)) (ht : ((pc + 1 : Nat) : Int) + off = (tgt : Int)) (ha : a < 2 ^ 63) (hb : b < 2 ^ 63) (kt : b < a → VJ C k n tgt lv st ws) (kf : a ≤ b → VJ C k n (pc + 4) lv st ws) : VJ C k n pc lv (.long (lN b) :: .long (lN a) :: st) ws := by
  refine v_lcmp g hd (v_if_gt g tgt hd2 ht (fun h => kt ?_) (fun h => kf ?_))
  · have q := pk_lLT ha hb; have q2 := pk_lLT hb ha; have q3 := pk_lEQ ha hb; unfold lg_cmp at h; by_cases h1 : lN b < lN a <;> by_cases h2 : lN a = lN b <;> simp [h1, h2] at h q q2 q3 <;> first | omega | (revert h; decide)
  · have q := pk_lLT ha hb; have q2 := pk_lLT hb ha; have q3 := pk_lEQ ha hb; unfold lg_cmp at h; by_cases h1 : lN b < lN a <;> by_cases h2 : lN a = lN b <;> simp [h1, h2] at h q q2 q3 <;> first | omega | (revert h; decide)
theorem v_lif_leN (g : vG C cc own nL rm) {a b : Nat} {off : Int} (tgt : Nat) (hd : decode cc pc = .ok (.lcmp, 1)) (hd2 : decode cc (pc + 1) = .ok (.ifCond .le off, 3)) (ht : ((pc + 1 : Nat) : Int) + off = (tgt : Int)) (ha : a < 2 ^ 63) (hb : b < 2 ^ 63) (kt : a ≤ b → VJ C k n tgt lv st ws) (kf : b < a → VJ C k n (pc + 4) lv st ws) : VJ C k n pc lv (.long (lN b) :: .long (lN a) :: st) ws := by
  refine v_lcmp g hd (v_if_le g tgt hd2 ht (fun h => kt ?_) (fun h => kf ?_))
  · have q := pk_lLT ha hb; have q2 := pk_lLT hb ha; have q3 := pk_lEQ ha hb; unfold lg_cmp at h; by_cases h1 : lN b < lN a <;> by_cases h2 : lN a = lN b <;> simp [h1, h2] at h q q2 q3 <;> first | omega | (revert h; decide)
  · have q := pk_lLT ha hb; have q2 := pk_lLT hb ha; have q3 := pk_lEQ ha hb; unfold lg_cmp at h; by_cases h1 : lN b < lN a <;> by_cases h2 : lN a = lN b <;> simp [h1, h2] at h q q2 q3 <;> first | omega | (revert h; decide)
theorem v_ialdW (g : vG C cc own nL rm) {a N j : Nat} {t : Nat → Wd} (q : Nat) (he : ws[q]? = some (a, aW C.D N t)) (hj : j < N) (hN : N < 2 ^ 31) (hd : decode cc pc = .ok (.iaload, 1)) (K : VJ C k n (pc + 1) lv (.int (wI (t j)) :: st) ws) : VJ C k n pc lv (.int (nI j) :: .ref a :: st) ws := v_iald g q he hj hN hd K
theorem v_ialdN (g : vG C cc own nL rm) {a N j : Nat} {t : Nat → Nat} (q : Nat) (he : ws[q]? = some (a, aN C.D N t)) (hj : j < N) (hN : N < 2 ^ 31) (hd : decode cc pc = .ok (.iaload, 1)) (K : VJ C k n (pc + 1) lv (.int (nI (t j)) :: st) ws) : VJ C k n pc lv (.int (nI j) :: .ref a :: st) ws := v_iald g q he hj hN hd K
theorem v_ialdY (g : vG C cc own nL rm) {a N j : Nat} {t : Nat → By} (q : Nat) (he : ws[q]? = some (a, aY C.D N t)) (hj : j < N) (hN : N < 2 ^ 31) (hd : decode cc pc = .ok (.iaload, 1)) (K : VJ C k n (pc + 1) lv (.int (nI (t j).toNat) :: st) ws) : VJ C k n pc lv (.int (nI j) :: .ref a :: st) ws := v_iald g q he hj hN hd K
theorem v_baldB (g : vG C cc own nL rm) {a N j : Nat} {t : Nat → By} (q : Nat) (he : ws[q]? = some (a, aB C.D N t)) (hj : j < N) (hN : N < 2 ^ 31) (hd : decode cc pc = .ok (.baload, 1)) (K : VJ C k n (pc + 1) lv (.int (bI (t j)) :: st) ws) : VJ C k n pc lv (.int (nI j) :: .ref a :: st) ws := v_bald g q he hj hN hd K
theorem v_laldL (g : vG C cc own nL rm) {a N j : Nat} {t : Nat → Nat} (q : Nat) (he : ws[q]? = some (a, aL C.D N t)) (hj : j < N) (hN : N < 2 ^ 31) (hd : decode cc pc = .ok (.laload, 1)) (K : VJ C k n (pc + 1) lv (.long (lN (t j)) :: st) ws) : VJ C k n pc lv (.int (nI j) :: .ref a :: st) ws := v_lald g q he hj hN hd K
theorem v_laldM (g : vG C cc own nL rm) {a N j : Nat} {t : Nat → Wd} (q : Nat) (he : ws[q]? = some (a, aM C.D N t)) (hj : j < N) (hN : N < 2 ^ 31) (hd : decode cc pc = .ok (.laload, 1)) (K : VJ C k n (pc + 1) lv (.long (lN (t j).toNat) :: st) ws) : VJ C k n pc lv (.int (nI j) :: .ref a :: st) ws := v_lald g q he hj hN hd K
theorem v_iastW (g : vG C cc own nL rm) {a N j : Nat} {t : Nat → Wd} {y : Int32} (x : Wd) (hy : y = wI x) (t' : Nat → Wd) (ht : t' = va_up t j x) (q : Nat) (ws' : va_W) (he : ws[q]? = some (a, aW C.D N t)) (hj : j < N) (hN : N < 2 ^ 31) (hd : decode cc pc = .ok (.iastore, 1)) (hs : ws.set q (a, aW C.D N t') = ws') (K : VJ C k n (pc + 1) lv st ws') : VJ C k n pc lv (.int y :: .int (nI j) :: .ref a :: st) ws := by
  subst hy; subst hs; subst ht
  refine v_iast g q he hj hN hd ?_
  unfold upd
  rw [up_of (wI)]
  exact K
theorem v_iastN (g : vG C cc own nL rm) {a N j : Nat} {t : Nat → Nat} {y : Int32} (x : Nat) (hy : y = nI x) (t' : Nat → Nat) (ht : t' = va_up t j x) (q : Nat) (ws' : va_W) (he : ws[q]? = some (a, aN C.D N t)) (hj : j < N) (hN : N < 2 ^ 31) (hd : decode cc pc = .ok (.iastore, 1)) (hs : ws.set q (a, aN C.D N t') = ws') (K : VJ C k n (pc + 1) lv st ws') : VJ C k n pc lv (.int y :: .int (nI j) :: .ref a :: st) ws := by
  subst hy; subst hs; subst ht
  refine v_iast g q he hj hN hd ?_
  unfold upd
  rw [up_of (nI)]
  exact K
theorem v_iastY (g : vG C cc own nL rm) {a N j : Nat} {t : Nat → By} {y : Int32} (x : By) (hy : y = nI x.toNat) (t' : Nat → By) (ht : t' = va_up t j x) (q : Nat) (ws' : va_W) (he : ws[q]? = some (a, aY C.D N t)) (hj : j < N) (hN : N < 2 ^ 31) (hd : decode cc pc = .ok (.iastore, 1)) (hs : ws.set q (a, aY C.D N t') = ws') (K : VJ C k n (pc + 1) lv st ws') : VJ C k n pc lv (.int y :: .int (nI j) :: .ref a :: st) ws := by
  subst hy; subst hs; subst ht
  refine v_iast g q he hj hN hd ?_
  unfold upd
  rw [up_of (fun z : By => nI z.toNat)]
  exact K
theorem v_bastB (g : vG C cc own nL rm) {a N j : Nat} {t : Nat → By} {y : Int32} (x : By) (hy : y = bI x) (t' : Nat → By) (ht : t' = va_up t j x) (q : Nat) (ws' : va_W) (he : ws[q]? = some (a, aB C.D N t)) (hj : j < N) (hN : N < 2 ^ 31) (hd : decode cc pc = .ok (.bastore, 1)) (hs : ws.set q (a, aB C.D N t') = ws') (K : VJ C k n (pc + 1) lv st ws') : VJ C k n pc lv (.int y :: .int (nI j) :: .ref a :: st) ws := by
  subst hy; subst hs; subst ht
  refine v_bast g q he hj hN hd ?_
  rw [bI_nar]; unfold upd
  rw [up_of (bI)]
  exact K
theorem v_lastL (g : vG C cc own nL rm) {a N j : Nat} {t : Nat → Nat} {y : Int64} (x : Nat) (hy : y = lN x) (t' : Nat → Nat) (ht : t' = va_up t j x) (q : Nat) (ws' : va_W) (he : ws[q]? = some (a, aL C.D N t)) (hj : j < N) (hN : N < 2 ^ 31) (hd : decode cc pc = .ok (.lastore, 1)) (hs : ws.set q (a, aL C.D N t') = ws') (K : VJ C k n (pc + 1) lv st ws') : VJ C k n pc lv (.long y :: .int (nI j) :: .ref a :: st) ws := by
  subst hy; subst hs; subst ht
  refine v_last g q he hj hN hd ?_
  unfold vp_updL
  rw [up_of (lN)]
  exact K
theorem v_lastM (g : vG C cc own nL rm) {a N j : Nat} {t : Nat → Wd} {y : Int64} (x : Wd) (hy : y = lN x.toNat) (t' : Nat → Wd) (ht : t' = va_up t j x) (q : Nat) (ws' : va_W) (he : ws[q]? = some (a, aM C.D N t)) (hj : j < N) (hN : N < 2 ^ 31) (hd : decode cc pc = .ok (.lastore, 1)) (hs : ws.set q (a, aM C.D N t') = ws') (K : VJ C k n (pc + 1) lv st ws') : VJ C k n pc lv (.long y :: .int (nI j) :: .ref a :: st) ws := by
  subst hy; subst hs; subst ht
  refine v_last g q he hj hN hd ?_
  unfold vp_updL
  rw [up_of (fun z : Wd => lN z.toNat)]
  exact K
end TYP
