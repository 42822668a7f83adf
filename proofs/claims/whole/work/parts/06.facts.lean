/-! FACTS that every method may use: the tables' words, the classes of arrays, what static arrays hold. -/
def kw (w : Cond) : Bool := goodWord w || (w.onTables && w.keepsH)
theorem kw_of_good {w : Cond} (h : (w.onTables && w.keeps) = true ∨ ∃ ty, w = .arrayClass ty) : kw w = true := by
  have hg : goodWord w = true := by
    rcases h with h | ⟨ty, rfl⟩
    · cases w <;> first | exact h | rfl
    · rfl
  unfold kw
  rw [hg]
  rfl
def Gw (U : State) : Prop := ∀ w ∈ lw_tbl, kw w = true → w.before #[] U = true
theorem Gw.to {s U : State} (h : Gw s) (hW : s.WarmedH U.vm) {a : Array Value} {w : Cond} (hw : w ∈ lw_tbl) (hk : kw w = true) : w.before a U = true := by
  have h0 := h w hw hk
  unfold kw at hk
  rcases (Bool.or_eq_true _ _).mp hk with h1 | h1
  · exact word_at hW (good_of_word h1) h0
  · have h2 := (Bool.and_eq_true _ _).mp h1
    exact Cond.onTables_warmH (T := U) hW h2.1 h2.2 h0
/-- the classes of arrays of bytes, ints, longs, Rows, Guards -/
abbrev tysOf (D : va_G) : List (ClassId × FieldType) := [(D.1 100, .byte), (D.1 101, .int), (D.1 102, .long), (D.1 103, .object "SealBox$Row"), (D.1 104, .object "SealBox$Guard")]
/-- a static array of ints -/
def Gs (D : va_G) (i : Nat) (S n : String) (N : Nat) (f : Nat → Wd) (A : Nat → Prop) (U : State) (H : Heap) : Prop := va_Z S n "[I" (.ref (D.2 100 i)) A U H ∧ va_T .int (D.2 100 i) N (fun j => .int (wI (f j))) A U H
theorem Gs.go {D : va_G} {i : Nat} {S n : String} {N : Nat} {f : Nat → Wd} {A A' : Nat → Prop} {s U : State} {Hs H : Heap} (h : Gs D i S n N f A s Hs) (hW : s.WarmedH U.vm) (hk : ∀ q : Nat, q < Hs.size → ¬ A q → H[q]? = Hs[q]?) (hA : ∀ q, A' q → A q) : Gs D i S n N f A' U H :=
  ⟨((h.1.moved hW.alike).kept hk).narrow hA, ((h.2.moved hW.alike).kept hk).narrow hA⟩
def Gv (D : va_G) (A : Nat → Prop) (U : State) (H : Heap) : Prop :=
  Gw U ∧ va_AO "SealBox$Row" U ∧ va_AO "SealBox$Guard" U ∧ Gs D 0 "SealBox$Digester" "SQUARE_ROOTS" 8 shI A U H ∧ Gs D 1 "SealBox$Digester" "CUBE_ROOTS" 64 shK A U H ∧ Gs D 2 "SealBox$KeyStream" "OPENING_WORDS" 4 cc_o A U H
theorem Gv.go {D : va_G} {A A' : Nat → Prop} {s U : State} {Hs H : Heap} (h : Gv D A s Hs) (hW : s.WarmedH U.vm) (hk : ∀ q : Nat, q < Hs.size → ¬ A q → H[q]? = Hs[q]?) (hA : ∀ q, A' q → A q) : Gv D A' U H :=
  ⟨fun _ hw hkw => h.1.to hW hw hkw, h.2.1.moved hW.alike, h.2.2.1.moved hW.alike, h.2.2.2.1.go hW hk hA, h.2.2.2.2.1.go hW hk hA, h.2.2.2.2.2.go hW hk hA⟩
theorem Gv.w {D : va_G} {A : Nat → Prop} {s : State} {H : Heap} (h : Gv D A s H) {a : Array Value} {w : Cond} (hw : w ∈ lw_tbl) (hk : kw w = true) : w.before a s = true := h.1.to (State.WarmedH.refl s) hw hk
theorem gi_r {ws : List Cond} (ps : List Nat) (hp : ps.filterMap (fun i => lw_tbl[i]?) = ws) (h : ws.all goodWord = true) : GoodIn lw_tbl ws := by
  intro w hw
  have h1 := List.all_eq_true.mp h w hw
  rw [← hp] at hw
  obtain ⟨i, -, hi⟩ := List.mem_filterMap.mp hw
  exact ⟨List.mem_of_getElem? hi, good_of_word h1⟩
