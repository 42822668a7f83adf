/-! FACTS that every method may use: the tables' words, the classes of arrays, what static arrays hold. -/
def kw (w : Cond) : Bool := goodWord w || (w.onTables && w.keepsH) || (match w with | .declares _ => true | .castable .. => true | _ => false)
theorem kw_of_good {w : Cond} (h : (w.onTables && w.keeps) = true ∨ ∃ ty, w = .arrayClass ty) : kw w = true := by
  have hg : goodWord w = true := by
    rcases h with h | ⟨ty, rfl⟩
    · cases w <;> first | exact h | rfl
    · rfl
  unfold kw
  rw [hg]
  rfl
def Gw (U : State) : Prop := ∀ w ∈ lw_tbl, kw w = true → w.before #[] U = true
theorem Gw.to {s U : State} (h : Gw s) (hW : s.WarmedH U.vm) {a : Array Value} {w : Cond} (hw : w ∈ lw_tbl) (hk : kw w = true) : w.before a U = true := by
  have h0 := h w hw hk
  unfold kw at hk
  rcases (Bool.or_eq_true _ _).mp hk with hk | h1
  · rcases (Bool.or_eq_true _ _).mp hk with h1 | h1
    · exact word_at hW (good_of_word h1) h0
    · have h2 := (Bool.and_eq_true _ _).mp h1
      exact Cond.onTables_warmH (T := U) hW h2.1 h2.2 h0
  · cases w <;> first
      | exact va_tabs rfl (rfl : (s.setVm U.vm).vm = U.vm) (by rw [Cond.declares_setVm hW.alike]; exact h0)
      | exact va_tabs rfl (rfl : (s.setVm U.vm).vm = U.vm) (by rw [Cond.castable_setVm hW.alike]; exact h0)
      | exact absurd h1 (by simp)
/-- a static field of a reference type, laid out as the tables say -/
def Gl (S n d : String) (A : Nat → Prop) (U : State) (H : Heap) : Prop := ∃ (c : ClassId) (k : Class) (i : Nat) (f : Field) (a : Nat) (cell : Cell), U.vm.findClass S = some c ∧ U.fieldFound? S n d = some (c, k, i, f) ∧ f.isStatic = true ∧ k.statics = some a ∧ H[a]? = some cell ∧ cell.vm.isStatics = true ∧ cell.cls = c ∧ f.slot < cell.slots.size ∧ k.staticTypes[f.slot]? = some f.type ∧ ¬ A a
theorem Gl.moved {S n d : String} {A : Nat → Prop} {u U : State} {H : Heap} (hvm : u.vm.Alike U.vm) (h : Gl S n d A u H) : Gl S n d A U H := by
  obtain ⟨c, k, i, f, a, cell, h1, h2, h3, h4, h5⟩ := h
  obtain ⟨k', hi', he⟩ := State.fieldFound?_setVm hvm h2
  exact ⟨c, k', i, f, a, cell, by rw [← h1]; exact hvm.findClass S _, hi', h3, by rw [he]; exact h4, h5.1, h5.2.1, h5.2.2.1, h5.2.2.2.1, by rw [he]; exact h5.2.2.2.2.1, h5.2.2.2.2.2⟩
theorem Gl.kept {S n d : String} {A : Nat → Prop} {U : State} {H H1 : Heap} (h : Gl S n d A U H) (hq : ∀ a : Nat, a < H.size → ¬ A a → H1[a]? = H[a]?) : Gl S n d A U H1 := by
  obtain ⟨c, k, i, f, a, cell, h1, h2, h3, h4, h5, h6⟩ := h
  exact ⟨c, k, i, f, a, cell, h1, h2, h3, h4, by rw [hq a (Array.getElem?_eq_some_iff.mp h5).1 h6.2.2.2.2]; exact h5, h6⟩
theorem Gl.narrow {S n d : String} {A B : Nat → Prop} {U : State} {H : Heap} (h : Gl S n d A U H) (hAB : ∀ q, B q → A q) : Gl S n d B U H := by
  obtain ⟨c, k, i, f, a, cell, h1, h2, h3, h4, h5, h6⟩ := h
  exact ⟨c, k, i, f, a, cell, h1, h2, h3, h4, h5, h6.1, h6.2.1, h6.2.2.1, h6.2.2.2.1, fun z => h6.2.2.2.2 (hAB a z)⟩
theorem Gl.word {S n d : String} {A : Nat → Prop} {U : State} {args : Array Value} (h : Gl S n d A U U.heap) : (Cond.laysStatic S n d).before args U = true := by
  obtain ⟨c, k, i, f, a, cell, h1, h2, h3, h4, h5, h6, h7, h8, h9, -⟩ := h
  simp [Cond.before, Cond.holds, Cond.value, h1, h2, h3, h4, h5, h6, h7, h8, h9]
theorem Gl.of {S n d : String} {A : Nat → Prop} {U : State} {args : Array Value} (h : (Cond.laysStatic S n d).before args U = true) (hA : ∀ a : Nat, a < U.heap.size → ¬ A a) : Gl S n d A U U.heap := by
  obtain ⟨c, k, i, f, a, cell, h1, h2, h3, h4, h5, h6, h7, h8, h9⟩ := Cond.laysStatic_spec h
  exact ⟨c, k, i, f, a, cell, h1, h2, h3, h4, h5, h6, h7, h8, h9, hA a (Array.getElem?_eq_some_iff.mp h5).1⟩
/-- the classes of arrays of bytes, ints, longs, Rows, Guards -/
abbrev tysOf (D : va_G) : List (ClassId × FieldType) := [(D.1 100, .byte), (D.1 101, .int), (D.1 102, .long), (D.1 103, .object "SealBox$Row"), (D.1 104, .object "SealBox$Guard")]
/-- a static array of ints -/
def Gs (D : va_G) (i : Nat) (S n : String) (N : Nat) (f : Nat → Wd) (A : Nat → Prop) (U : State) (H : Heap) : Prop := va_Z S n "[I" (.ref (D.2 100 i)) A U H ∧ va_T .int (D.2 100 i) N (fun j => .int (wI (f j))) A U H
theorem Gs.go {D : va_G} {i : Nat} {S n : String} {N : Nat} {f : Nat → Wd} {A A' : Nat → Prop} {s U : State} {Hs H : Heap} (h : Gs D i S n N f A s Hs) (hW : s.WarmedH U.vm) (hk : ∀ q : Nat, q < Hs.size → ¬ A q → H[q]? = Hs[q]?) (hA : ∀ q, A' q → A q) : Gs D i S n N f A' U H :=
  ⟨((h.1.moved hW.alike).kept hk).narrow hA, ((h.2.moved hW.alike).kept hk).narrow hA⟩
/-- the labels' texts -/
def lbT (i : Nat) : String := (["v1 key", "v1 iv", "v1 hide", "v1 turn", "v1 first a", "v1 first b", "v1 greet a", "v1 greet b", "v1 talk a", "v1 talk b", "v1 done"] : List String).getD i ""
def lbL (i : Nat) : List Nat := ([[118, 49, 32, 107, 101, 121], [118, 49, 32, 105, 118], [118, 49, 32, 104, 105, 100, 101], [118, 49, 32, 116, 117, 114, 110], [118, 49, 32, 102, 105, 114, 115, 116, 32, 97], [118, 49, 32, 102, 105, 114, 115, 116, 32, 98], [118, 49, 32, 103, 114, 101, 101, 116, 32, 97], [118, 49, 32, 103, 114, 101, 101, 116, 32, 98], [118, 49, 32, 116, 97, 108, 107, 32, 97], [118, 49, 32, 116, 97, 108, 107, 32, 98], [118, 49, 32, 100, 111, 110, 101]] : List (List Nat)).getD i []
def lbN (i : Nat) : Nat := (lbL i).length
def lbF (i j : Nat) : By := BitVec.ofNat 8 ((lbL i).getD j 0)
/-- the texts of what is thrown, by the pool's entries -/
def msgL : List (Nat × String) := [(76, "feed takes 1 to 8 bytes"), (87, "the tape has no room"), (96, "too many bytes for a slot"), (128, "no such label"), (130, "the tape is too long for a context"), (139, "the tape is no nonce of 12 bytes"), (181, "the head is not within the tape"), (187, "the tape has no room for head and tally"), (193, "the tape has no number and sample there"), (212, "nothing to look at"), (221, "no such slot"), (223, "the slot has not 32 bytes"), (225, "1 to 1024 bytes can be made"), (227, "no such guard"), (229, "the guard is not armed"), (231, "the number is below 0"), (233, "the OUT has no such byte")]
/-- a label's String -/
def Gk (D : va_G) (i : Nat) (A : Nat → Prop) (U : State) (H : Heap) : Prop := vk_R "SealBox$KeyMaker" (100 + 2 * i) (lbT i) (D.2 101 i) U ∧ va_O "java/lang/String" (D.2 101 i) A U H ∧ va_OF "java/lang/String" "coder" "B" (.int 0) (D.2 101 i) A U H ∧ va_OF "java/lang/String" "value" "[B" (.ref (D.2 102 i)) (D.2 101 i) A U H ∧ va_T .byte (D.2 102 i) (lbN i) (fun j => .int (bI (lbF i j))) A U H
theorem Gk.go {D : va_G} {i : Nat} {A A' : Nat → Prop} {s U : State} {Hs H : Heap} (h : Gk D i A s Hs) (hW : s.WarmedH U.vm) (hk : ∀ q : Nat, q < Hs.size → ¬ A q → H[q]? = Hs[q]?) (hA : ∀ q, A' q → A q) : Gk D i A' U H :=
  ⟨h.1.warm hW, ((h.2.1.moved hW.alike).kept hk).narrow hA, ((h.2.2.1.moved hW.alike).kept hk).narrow hA, ((h.2.2.2.1.moved hW.alike).kept hk).narrow hA, ((h.2.2.2.2.moved hW.alike).kept hk).narrow hA⟩
/-- what texts and throws need: static fields of the library, labels, texts of what is thrown -/
def Gx (D : va_G) (A : Nat → Prop) (U : State) (H : Heap) : Prop :=
  va_Zq "java/lang/Throwable" "UNASSIGNED_STACK" "[Ljava/lang/StackTraceElement;" A U H ∧ va_Zq "java/lang/Throwable" "SUPPRESSED_SENTINEL" "Ljava/util/List;" A U H ∧ va_Zq "jdk/internal/util/Preconditions" "SIOOBE_FORMATTER" "Ljava/util/function/BiFunction;" A U H ∧ va_Z "java/lang/String" "COMPACT_STRINGS" "Z" (.int 1) A U H ∧ (∀ i, i < 11 → Gk D i A U H) ∧ (∀ q ∈ msgL, vk_R "SealBox" q.1 q.2 (D.2 103 q.1) U) ∧ Gl "java/lang/Throwable" "UNASSIGNED_STACK" "[Ljava/lang/StackTraceElement;" A U H ∧ Gl "java/lang/Throwable" "SUPPRESSED_SENTINEL" "Ljava/util/List;" A U H
theorem Gx.go {D : va_G} {A A' : Nat → Prop} {s U : State} {Hs H : Heap} (h : Gx D A s Hs) (hW : s.WarmedH U.vm) (hk : ∀ q : Nat, q < Hs.size → ¬ A q → H[q]? = Hs[q]?) (hA : ∀ q, A' q → A q) : Gx D A' U H :=
  ⟨((h.1.moved hW.alike).kept hk).narrow hA, ((h.2.1.moved hW.alike).kept hk).narrow hA, ((h.2.2.1.moved hW.alike).kept hk).narrow hA, ((h.2.2.2.1.moved hW.alike).kept hk).narrow hA, fun i hi => (h.2.2.2.2.1 i hi).go hW hk hA, fun q hq => (h.2.2.2.2.2.1 q hq).warm hW, ((h.2.2.2.2.2.2.1.moved hW.alike).kept hk).narrow hA, ((h.2.2.2.2.2.2.2.moved hW.alike).kept hk).narrow hA⟩
def Gv (D : va_G) (A : Nat → Prop) (U : State) (H : Heap) : Prop :=
  Gw U ∧ va_AO "SealBox$Row" U ∧ va_AO "SealBox$Guard" U ∧ Gs D 0 "SealBox$Digester" "SQUARE_ROOTS" 8 shI A U H ∧ Gs D 1 "SealBox$Digester" "CUBE_ROOTS" 64 shK A U H ∧ Gs D 2 "SealBox$KeyStream" "OPENING_WORDS" 4 cc_o A U H ∧ Gx D A U H
theorem Gv.go {D : va_G} {A A' : Nat → Prop} {s U : State} {Hs H : Heap} (h : Gv D A s Hs) (hW : s.WarmedH U.vm) (hk : ∀ q : Nat, q < Hs.size → ¬ A q → H[q]? = Hs[q]?) (hA : ∀ q, A' q → A q) : Gv D A' U H :=
  ⟨fun _ hw hkw => h.1.to hW hw hkw, h.2.1.moved hW.alike, h.2.2.1.moved hW.alike, h.2.2.2.1.go hW hk hA, h.2.2.2.2.1.go hW hk hA, h.2.2.2.2.2.1.go hW hk hA, h.2.2.2.2.2.2.go hW hk hA⟩
theorem Gv.w {D : va_G} {A : Nat → Prop} {s : State} {H : Heap} (h : Gv D A s H) {a : Array Value} {w : Cond} (hw : w ∈ lw_tbl) (hk : kw w = true) : w.before a s = true := h.1.to (State.WarmedH.refl s) hw hk
theorem gi_r {ws : List Cond} (ps : List Nat) (hp : ps.filterMap (fun i => lw_tbl[i]?) = ws) (h : ws.all goodWord = true) : GoodIn lw_tbl ws := by
  intro w hw
  have h1 := List.all_eq_true.mp h w hw
  rw [← hp] at hw
  obtain ⟨i, -, hi⟩ := List.mem_filterMap.mp hw
  exact ⟨List.mem_of_getElem? hi, good_of_word h1⟩
