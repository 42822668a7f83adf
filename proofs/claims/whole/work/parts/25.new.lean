/-! making: new, newarray, anewarray, Object's constructor, final fields -/
section NEW
variable {C : Cx} {cc : ByteArray} {own : String} {nL : Nat} {rm : Room} {k n pc : Nat} {lv : List (Nat × Value)} {st : List Value} {ws : va_W}
theorem vM.ofI {l : Launch} {D : va_G} {y : MethodName} {cc : ByteArray} {maxL : Nat} {ret : Option FieldType} {rm : Room} {av : List Value} {wi : va_W} {post : Option Value → va_W → Prop} (hy : plainName y.cls = true) (hlen : (lg_sl av).length ≤ maxL)
    (body : ∀ C : Cx, C.l = l → C.D = D → C.meth.name = y.name → vG C cc y.cls maxL rm → vRet C rm ret wi post → VJ C 0 0 0 (lv_args 0 av) [] wi) : vM l D y cc maxL ret rm av wi post := by
  intro sz
  refine Met.ofW (cc := cc) (maxL := maxL) (ret := ret) hy rfl ?_
  intro p e s m args below meth c s₁ B hml hv
  obtain ⟨rfl, hsz, hP, hK, hD0, hG⟩ := hv
  subst hsz
  have hown := findClass_of_methodNamed B.named
  have hD := hD0.self (sz := s.heap.size)
  have hl := lv_entry av (n := maxL) hlen
  have hnm : meth.name = y.name := (name_of_methodNamed B.named (Stand.of_body B).method).1
  rw [lg_entry_eq]
  exact body (p, l, e, rm, s, m, av.toArray, below, meth, c, maxL, D, va_A wi s.heap.size, MQ below (vQ D post (va_A wi s.heap.size)) av.toArray s rm.cells rm.slots (va_A wi s.heap.size)) rfl rfl hnm
    ⟨B.exec, B.bytes, hml, hown, hK, fun q h => Or.inr h, B.notSynchronized, hG, rfl, rfl⟩ ⟨rfl, rfl, B.returns⟩ _ s.heap [] hl hP hD va_S.rf
theorem v_new {S : String} {T : u_T} {N ci idx : Nat} (fs : List Value) (hin : ∀ w ∈ u_ws S T N, w ∈ lw_tbl ∧ kw w = true) (ty0 : Nat → FieldType) (hty : ∀ k, k < N → parseFieldDescriptor (T k).2.2.1 = some (ty0 k)) (hc : vwCl[ci]? = some (S, T, N)) (hcl : Cond.classLink own idx S ∈ lw_tbl) (hi : Cond.instantiable S N ∈ lw_tbl) (hini : Cond.initialized S ∈ lw_tbl) (hfs : ∀ j, j < N → defaultValue (ty0 j) = vp_V fs j)
    (g : vG C cc own nL rm) (hk : k + 1 ≤ rm.cells) (hn : n + N ≤ rm.slots) (hd : decode cc pc = .ok (.new idx, 3)) (K : ∀ q : Nat, VJ C (k + 1) (n + N) (pc + 3) lv (.ref q :: st) (ws ++ [(q, .inr (ci, fs))])) : VJ C k n pc lv st ws := fun ls H locs hl hP hD hS =>
  va_new (Ts := u_ws S T N) g.x g.b (fun w hw => g.w (hin w hw).1 (hin w hw).2) (fun _ h => h) ty0 hty g.ow (g.w hcl rfl) (g.w hi rfl) (g.w hini rfl) g.K hP hD hS g.hA hc hfs (by rw [g.rmE]; exact hk) (by rw [g.rmE]; exact hn) hd (fun q H1 hP1 hD1 hS1 => K q ls H1 locs hl hP1 hD1 hS1)
theorem oi_inst : Cond.instanceMethod Lib.objectInit ∈ lw_tbl := List.mem_of_getElem? (i := 71) (by decide +kernel)
theorem oi_code : Cond.code Lib.objectInit ⟨#[0xb1]⟩ 1 none ∈ lw_tbl := List.mem_of_getElem? (i := 72) (by decide +kernel)
theorem v_objI (g : vG C cc own nL rm) {idx a : Nat} (hlk : Cond.methodLink own idx Lib.objectInit ∈ lw_tbl) (hfr : 1 ≤ rm.frames) (hlo : (st.map fun v => v.category).sum + 12 ≤ rm.locals) (hd : decode cc pc = .ok (.invokespecial idx, 3)) (K : VJ C k n (pc + 3) lv st ws) : VJ C k n pc lv (.ref a :: st) ws := fun ls H locs hl hP hD hS =>
  W.objInit g.x g.b g.ow (g.w hlk rfl) (g.w oi_inst rfl) (g.w oi_code rfl) rfl (hl.1.trans g.ml.symm) rfl hd (by rw [g.rmE]; exact hfr) (by rw [g.rmE]; show 2 * 0 + _ + 12 ≤ _; omega) (K ls H locs hl hP hD hS)
theorem ac_byte : Cond.arrayClass .byte ∈ lw_tbl := List.mem_of_getElem? (i := 92) (by decide +kernel)
theorem ac_int : Cond.arrayClass .int ∈ lw_tbl := List.mem_of_getElem? (i := 118) (by decide +kernel)
theorem ac_long : Cond.arrayClass .long ∈ lw_tbl := List.mem_of_getElem? (i := 186) (by decide +kernel)
theorem v_newB (g : vG C cc own nL rm) {N : Nat} (hN : N < 2 ^ 29) (hk : k + 1 ≤ rm.cells) (hn : n + N ≤ rm.slots) (hd : decode cc pc = .ok (.newarray .byte, 2)) (K : ∀ q : Nat, VJ C (k + 1) (n + N) (pc + 2) lv (.ref q :: st) (ws ++ [(q, aB C.D N (fun _ => 0#8))])) : VJ C k n pc lv (.int (nI N) :: st) ws := fun ls H locs hl hP hD hS => by
  refine va_newa (atype := .byte) g.x g.b (g.w ac_byte rfl) (ty := .byte) rfl g.K hP hD hS g.hA (a0 := (N, .inl (fun _ => bI 0#8))) (fun cA => rfl) (nI_pos (by omega)) (nI_clamp (by omega)) (by show N * 1 ≤ _; omega) (by rw [g.rmE]; exact hk) (by rw [g.rmE]; exact hn) hd (fun q cA H1 hK1 hP1 hD1 hS1 => ?_)
  have e : cA = C.D.1 100 := Option.some.inj (((hK1.2 5 _ rfl).2).symm.trans ((g.K.2 0 _ rfl).2))
  subst e
  exact K q ls H1 locs hl hP1 hD1 hS1
theorem v_newW (g : vG C cc own nL rm) {N : Nat} (hN : N < 2 ^ 27) (hk : k + 1 ≤ rm.cells) (hn : n + N ≤ rm.slots) (hd : decode cc pc = .ok (.newarray .int, 2)) (K : ∀ q : Nat, VJ C (k + 1) (n + N) (pc + 2) lv (.ref q :: st) (ws ++ [(q, aW C.D N (fun _ => 0#32))])) : VJ C k n pc lv (.int (nI N) :: st) ws := fun ls H locs hl hP hD hS => by
  refine va_newa (atype := .int) g.x g.b (g.w ac_int rfl) (ty := .int) rfl g.K hP hD hS g.hA (a0 := (N, .inl (fun _ => wI 0#32))) (fun cA => rfl) (nI_pos (by omega)) (nI_clamp (by omega)) (by show N * 4 ≤ _; omega) (by rw [g.rmE]; exact hk) (by rw [g.rmE]; exact hn) hd (fun q cA H1 hK1 hP1 hD1 hS1 => ?_)
  have e : cA = C.D.1 101 := Option.some.inj (((hK1.2 5 _ rfl).2).symm.trans ((g.K.2 1 _ rfl).2))
  subst e
  exact K q ls H1 locs hl hP1 hD1 hS1
theorem v_newL (g : vG C cc own nL rm) {N : Nat} (hN : N < 2 ^ 26) (hk : k + 1 ≤ rm.cells) (hn : n + N ≤ rm.slots) (hd : decode cc pc = .ok (.newarray .long, 2)) (K : ∀ q : Nat, VJ C (k + 1) (n + N) (pc + 2) lv (.ref q :: st) (ws ++ [(q, aL C.D N (fun _ => 0))])) : VJ C k n pc lv (.int (nI N) :: st) ws := fun ls H locs hl hP hD hS => by
  refine va_newa (atype := .long) g.x g.b (g.w ac_long rfl) (ty := .long) rfl g.K hP hD hS g.hA (a0 := (N, .inr (.inl (fun _ => lN 0)))) (fun cA => rfl) (nI_pos (by omega)) (nI_clamp (by omega)) (by show N * 8 ≤ _; omega) (by rw [g.rmE]; exact hk) (by rw [g.rmE]; exact hn) hd (fun q cA H1 hK1 hP1 hD1 hS1 => ?_)
  have e : cA = C.D.1 102 := Option.some.inj (((hK1.2 5 _ rfl).2).symm.trans ((g.K.2 2 _ rfl).2))
  subst e
  exact K q ls H1 locs hl hP1 hD1 hS1
theorem v_putF {S ref : String} {T : u_T} {N ci idx a : Nat} {fs : List Value} {v : Value} {ty : FieldType} (hin : ∀ w ∈ u_ws S T N, w ∈ lw_tbl ∧ kw w = true) (ty0 : Nat → FieldType) (hty : ∀ k, k < N → parseFieldDescriptor (T k).2.2.1 = some (ty0 k)) (hnm : ∀ a, a < N → ∀ b, b < N → a ≠ b → (T a).2.1 ≠ (T b).2.1) (hc : vwCl[ci]? = some (S, T, N)) (kf : Nat) (hk : kf < N) (hlk : Cond.fieldLink own idx ref (T kf).2.1 (T kf).2.2.1 ∈ lw_tbl) (href : (T kf).1 = ref) (hfin : (T kf).2.2.2 = true) (hdecl : (T kf).1 = own) (hdt : parseFieldDescriptor (T kf).2.2.1 = some ty) (hnv : narrow ty v = v) (hfv : fits ty v = true) (hme : C.meth.name = "<init>")
    (g : vG C cc own nL rm) (hd : decode cc pc = .ok (.putfield idx, 3)) (q : Nat) (ws' : va_W) (he : ws[q]? = some (a, .inr (ci, fs))) (hlen : kf < fs.length) (hs : ws.set q (a, .inr (ci, fs.set kf v)) = ws') (K : VJ C k n (pc + 3) lv st ws') : VJ C k n pc lv (v :: .ref a :: st) ws := fun ls H locs hl hP hD hS =>
  va_putF (Ts := u_ws S T N) g.x g.b (fun w hw => g.w (hin w hw).1 (hin w hw).2) (fun _ h => h) ty0 hty hnm g.ow g.K hP hD hS q he hc kf hk (g.w hlk rfl) (fun x h => by rw [← href]; exact h) hfin hme hdecl hdt hnv hfv hlen hd (by rw [hs]; exact fun H1 locs1 hP1 hD1 hS1 => K ls H1 locs1 hl hP1 hD1 hS1)
end NEW
