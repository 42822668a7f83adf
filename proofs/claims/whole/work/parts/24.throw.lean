/-! THROWS -/
/-- a walk seen from where it stands: the state that it began in, with the heap of now -/
def nowS (s T : State) : State := { s with heap := T.heap, slotsUsed := T.slotsUsed }
theorem Stand_now {p : Program} {l : Launch} {e : Env} {R : Room} {s : State} {m : MethodId} {args : Array Value} {below : List Frame} {meth : Method} {c : Code} {T : State} {locs : List Loc} {cells slots : Nat} (X : Stand p l e R s m args below meth c T locs cells slots) (h1 : cells ≤ R.cells) (h2 : slots ≤ R.slots) :
    Stand p l e { R with cells := R.cells - cells, slots := R.slots - slots } (nowS s T) m args below meth c T [] 0 0 := by
  refine ⟨X.admits, X.cas, X.clock, X.frames, ?_, X.hears, X.method, X.code, X.here, X.tail, X.warmed, X.limits, X.bytes, ?_⟩
  · have hr := X.room
    have hb := X.book
    have hz := X.heapSize
    have hu := X.used
    simp only [State.hasRoom, Bool.and_eq_true, decide_eq_true_eq] at hr ⊢
    refine ⟨⟨⟨⟨hr.1.1.1.1, hr.1.1.1.2⟩, ?_⟩, ?_⟩, hb⟩
    · have := hr.1.1.2
      show T.heap.size + (R.cells - cells) ≤ _
      omega
    · have := hr.1.2
      show T.slotsUsed + (R.slots - slots) ≤ _
      omega
  · have hs := X.same.1
    refine ⟨?_, Nat.le_refl _, Nat.le_refl _, ?_, ?_, ?_⟩
    · exact hs
    · show T.slotsUsed = T.slotsUsed + ((T.heap.toList.drop T.heap.size).map (·.slots.size)).sum
      rw [List.drop_of_length_le (by simp)]
      rfl
    · show ((T.heap.toList.drop T.heap.size).map (·.slots.size)).sum ≤ 0
      rw [List.drop_of_length_le (by simp)]
      exact Nat.le_refl _
    · intro a c h
      exact ⟨c, h, rfl, rfl, fun _ _ => rfl⟩
theorem zq_isRef {S n d : String} {A : Nat → Prop} {U : State} {args : Array Value} (h : va_Zq S n d A U U.heap) : (Cond.isRef (.static S n d)).before args U = true := by
  rcases h with ⟨cf, kf, fi, f, a, cell, h1, h2, h3, h4, h5, h6, h7, h8⟩ | ⟨t, cf, kf, fi, f, a, cell, h1, h2, h3, h4, h5, h6, h7, h8⟩
  · simp [Cond.before, Cond.holds, Cond.value, Term.eval, State.fieldNamed?, h1, h2, h4, h5, h6, h7, Value.isRef]
  · simp [Cond.before, Cond.holds, Cond.value, Term.eval, State.fieldNamed?, h1, h2, h4, h5, h6, h7, Value.isRef]
abbrev thUp : List String := ["java/lang/RuntimeException", "java/lang/Exception"]
def thOk (own : String) (ic : Nat) (X : String) : Prop := ∀ w ∈ Bundle.ownAtoms own ic X thUp, w = .isRef (.static "java/lang/Throwable" "UNASSIGNED_STACK" "[Ljava/lang/StackTraceElement;") ∨ w = .isRef (.static "java/lang/Throwable" "SUPPRESSED_SENTINEL" "Ljava/util/List;") ∨ w = .laysStatic "java/lang/Throwable" "UNASSIGNED_STACK" "[Ljava/lang/StackTraceElement;" ∨ w = .laysStatic "java/lang/Throwable" "SUPPRESSED_SENTINEL" "Ljava/util/List;" ∨ (w ∈ lw_tbl ∧ kw w = true)
theorem th_78 : thOk RX7 78 "java/lang/IllegalArgumentException" := by unfold thOk; decide +kernel
theorem th_89 : thOk RX7 89 "java/lang/IllegalStateException" := by unfold thOk; decide +kernel
theorem th_214 : thOk RX7 214 "java/util/NoSuchElementException" := by unfold thOk; decide +kernel
