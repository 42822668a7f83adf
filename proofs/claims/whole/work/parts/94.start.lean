/-! what holds at the law's entry -/
abbrev nrl : List Cond := flatC (Cond.and given_1 narrow_1)
set_option maxRecDepth 100000 in
theorem nr_0 : ∀ j, j < 8 → nrl[7 + j]? = some (Cond.eq (.elem (.static "SealBox$Digester" "SQUARE_ROOTS" "[I") (.int (Int32.ofNat j))) (.int (wI (shI j)))) := by decide +kernel
set_option maxRecDepth 100000 in
theorem nr_1 : ∀ j, j < 64 → nrl[18 + j]? = some (Cond.eq (.elem (.static "SealBox$Digester" "CUBE_ROOTS" "[I") (.int (Int32.ofNat j))) (.int (wI (shK j)))) := by decide +kernel
set_option maxRecDepth 100000 in
theorem nr_2 : ∀ j, j < 4 → nrl[92 + j]? = some (Cond.eq (.elem (.static "SealBox$KeyStream" "OPENING_WORDS" "[I") (.int (Int32.ofNat j))) (.int (wI (cc_o j)))) := by decide +kernel
def lbO (i : Nat) : Nat := ([311, 321, 330, 341, 352, 366, 380, 394, 408, 421, 434] : List Nat).getD i 0
set_option maxRecDepth 100000 in
theorem nr_l1 : ∀ i, i < 11 → nrl[lbO i]? = some (Cond.exactly (.string "SealBox$KeyMaker" (100 + 2 * i)) "java/lang/String") := by decide +kernel
set_option maxRecDepth 100000 in
theorem nr_l2 : ∀ i, i < 11 → nrl[lbO i + 1]? = some (Cond.eq (.field (.string "SealBox$KeyMaker" (100 + 2 * i)) "java/lang/String" "coder" "B") (.int 0)) := by decide +kernel
set_option maxRecDepth 100000 in
theorem nr_l3 : ∀ i, i < 11 → nrl[lbO i + 2]? = some (Cond.arrayOf (.field (.string "SealBox$KeyMaker" (100 + 2 * i)) "java/lang/String" "value" "[B") .byte) := by decide +kernel
set_option maxRecDepth 100000 in
theorem nr_l4 : ∀ i, i < 11 → nrl[lbO i + 3]? = some (Cond.eq (.length (.field (.string "SealBox$KeyMaker" (100 + 2 * i)) "java/lang/String" "value" "[B")) (.int (Int32.ofNat (lbN i)))) := by decide +kernel
set_option maxRecDepth 100000 in
theorem nr_l5 : ∀ i, i < 11 → ∀ j, j < lbN i → nrl[lbO i + 4 + j]? = some (Cond.eq (.elem (.field (.string "SealBox$KeyMaker" (100 + 2 * i)) "java/lang/String" "value" "[B") (.int (Int32.ofNat j))) (.int (bI (lbF i j)))) := by decide +kernel
set_option maxRecDepth 100000 in
theorem ts_l : ∀ i, i < 11 → lw_tbl[485 + i]? = some (Cond.stringRef "SealBox$KeyMaker" (100 + 2 * i) (lbT i)) := by decide +kernel
theorem lbN_lt : ∀ i, i < 11 → lbN i < 2 ^ 31 := by decide +kernel
def msP (k : Nat) : Nat := ((([(76, 129), (87, 156), (96, 196), (128, 256), (130, 273), (139, 474), (181, 578), (187, 613), (193, 656), (212, 727), (221, 180), (223, 445), (225, 225), (227, 510), (229, 527), (231, 553), (233, 699)] : List (Nat × Nat)).lookup k).getD 0)
def msT (k : Nat) : Nat := ((([(76, 360), (87, 395), (96, 417), (128, 476), (130, 477), (139, 558), (181, 666), (187, 698), (193, 714), (212, 764), (221, 416), (223, 557), (225, 463), (227, 638), (229, 654), (231, 665), (233, 741)] : List (Nat × Nat)).lookup k).getD 0)
set_option maxRecDepth 100000 in
theorem nr_m : ∀ q ∈ msgL, nrl[msP q.1]? = some (Cond.exactly (.string "SealBox" q.1) "java/lang/String") := by decide +kernel
set_option maxRecDepth 100000 in
theorem ts_m : ∀ q ∈ msgL, lw_tbl[msT q.1]? = some (Cond.stringRef "SealBox" q.1 q.2) := by decide +kernel
theorem Gw.of {s : State} {a0 : Array Value} (h : ∀ w ∈ lw_tbl, w.before a0 s = true) : Gw s := fun w hw hk => by
  have h0 := h w hw
  unfold kw at hk
  rcases (Bool.or_eq_true _ _).mp hk with hk | h1
  · rcases (Bool.or_eq_true _ _).mp hk with h1 | h1
    · exact word_at (State.WarmedH.refl s) (good_of_word h1) h0
    · have h2 := (Bool.and_eq_true _ _).mp h1
      exact Cond.onTables_warmH (T := s) (State.WarmedH.refl s) h2.1 h2.2 h0
  · cases w <;> first
      | exact va_tabs rfl rfl h0
      | exact absurd h1 (by simp)
theorem st_arr {ty : FieldType} {args : Array Value} {s : State} (h : (Cond.arrayClass ty).before args s = true) : ∃ cA : ClassId, ArrOfT s cA ty ∧ s.vm.findClass ("[" ++ ty.toString) = some cA := by
  obtain ⟨c, k, comp, h1, h2, h3⟩ := Cond.arrayClass_spec (args := args) (first := s) (o := none) (s := s) (idx := []) h
  exact ⟨c, fun n z => ⟨fun k h => (by cases h), k, h2, comp, h3⟩, h1⟩
theorem st_arrO {C : String} {args : Array Value} {s : State} (h : (Cond.arrayOver (.object C)).before args s = true) : ∃ cA : ClassId, ArrOfT s cA (.object C) ∧ va_RA s cA (.object C) := by
  obtain ⟨comp, c, k, h1, -, h3, h4, h5⟩ := Cond.arrayOver_spec (args := args) (first := s) (o := none) (s := s) (idx := []) h
  exact ⟨c, fun n z => ⟨fun k h => (by cases h), k, h3, comp, h4⟩, k, comp, h3, h4, h1, h5⟩
section STA
variable {s : State} {b : Nat} {A : Nat → Prop}
theorem st_lab (hts : ∀ w ∈ lw_tbl, w.before #[Value.ref b] s = true) (hq : ∀ c ∈ nrl, c.before #[Value.ref b] s = true) (hA : ∀ a : Nat, a < s.heap.size → ¬ A a) : ∃ ad : Nat → Nat × Nat, ∀ i, i < 11 → vk_R "SealBox$KeyMaker" (100 + 2 * i) (lbT i) (ad i).1 s ∧ va_O "java/lang/String" (ad i).1 A s s.heap ∧ va_OF "java/lang/String" "coder" "B" (.int 0) (ad i).1 A s s.heap ∧ va_OF "java/lang/String" "value" "[B" (.ref (ad i).2) (ad i).1 A s s.heap ∧ va_T .byte (ad i).2 (lbN i) (fun j => .int (bI (lbF i j))) A s s.heap := by
  have h0 : ∀ i : Nat, ∃ ad : Nat × Nat, i < 11 → vk_R "SealBox$KeyMaker" (100 + 2 * i) (lbT i) ad.1 s ∧ va_O "java/lang/String" ad.1 A s s.heap ∧ va_OF "java/lang/String" "coder" "B" (.int 0) ad.1 A s s.heap ∧ va_OF "java/lang/String" "value" "[B" (.ref ad.2) ad.1 A s s.heap ∧ va_T .byte ad.2 (lbN i) (fun j => .int (bI (lbF i j))) A s s.heap := by
    intro i
    by_cases hi : i < 11
    · obtain ⟨a, c, cA, kA, q1, q2, q3, q4, q5, q6, -⟩ := Cond.exactly_spec (args := #[Value.ref b]) (first := s) (o := none) (s := s) (idx := []) (t := (.string "SealBox$KeyMaker" (100 + 2 * i))) (cls := "java/lang/String") (hq _ (List.mem_of_getElem? (nr_l1 i hi)))
      obtain ⟨t, ht, hT⟩ := va_Tof (tm := (.field (.string "SealBox$KeyMaker" (100 + 2 * i)) "java/lang/String" "value" "[B")) (ty := .byte) (N := lbN i) (f := fun j => .int (bI (lbF i j))) (A := A) (lbN_lt i hi) (hq _ (List.mem_of_getElem? (nr_l3 i hi))) (va_eqt (hq _ (List.mem_of_getElem? (nr_l4 i hi)))) (fun j hj => va_eqt (hq _ (List.mem_of_getElem? (nr_l5 i hi j hj)))) hA
      exact ⟨(a, t), fun _ => ⟨vk_R.of (hts _ (List.mem_of_getElem? (ts_l i hi))) q1, ⟨cA, q3, q5, by rw [q6]; exact q2, hA a (Array.getElem?_eq_some_iff.mp q3).1⟩, vk_OFof q1 (va_eqt (hq _ (List.mem_of_getElem? (nr_l2 i hi)))) hA, vk_OFof q1 ht hA, hT⟩⟩
    · exact ⟨(0, 0), fun h => absurd h hi⟩
  exact Classical.axiomOfChoice h0
theorem st_msg (hts : ∀ w ∈ lw_tbl, w.before #[Value.ref b] s = true) (hq : ∀ c ∈ nrl, c.before #[Value.ref b] s = true) : ∃ ms : Nat → Nat, ∀ q ∈ msgL, vk_R "SealBox" q.1 q.2 (ms q.1) s := by
  have h0 : ∀ k : Nat, ∃ a : Nat, ∀ q ∈ msgL, q.1 = k → vk_R "SealBox" q.1 q.2 a s := by
    intro k
    by_cases hk : ∃ q ∈ msgL, q.1 = k
    · obtain ⟨q0, hq0, e0⟩ := hk
      subst e0
      obtain ⟨a, c, cA, kA, q1, -⟩ := Cond.exactly_spec (args := #[Value.ref b]) (first := s) (o := none) (s := s) (idx := []) (t := .string "SealBox" q0.1) (cls := "java/lang/String") (hq _ (List.mem_of_getElem? (nr_m q0 hq0)))
      exact ⟨a, fun q hm e => by
        refine vk_R.of (hts _ (List.mem_of_getElem? (ts_m q hm))) ?_
        rw [e]
        exact q1⟩
    · exact ⟨0, fun q hm e => absurd ⟨q, hm, e⟩ hk⟩
  obtain ⟨ms, h⟩ := Classical.axiomOfChoice h0
  exact ⟨ms, fun q hm => h q.1 q hm rfl⟩
set_option maxRecDepth 100000 in
set_option maxHeartbeats 4000000 in
theorem st_all (hts : ∀ w ∈ lw_tbl, w.before #[Value.ref b] s = true) (hg : (Jvm.Cond.and given_1 narrow_1).before #[Value.ref b] s = true) : ∃ D : va_G, va_K D vwCl (tysOf D) s ∧ Gv D (fun q => s.heap.size ≤ q) s s.heap ∧ NoA s := by
  have hq : ∀ c ∈ nrl, c.before #[Value.ref b] s = true := flat_of_before _ hg
  have hA : ∀ a : Nat, a < s.heap.size → ¬ (fun q => s.heap.size ≤ q) a := fun a h => Nat.not_le.mpr h
  obtain ⟨c0, f0, k0⟩ := u_known (C := RX0) (T := TX0) (N := 5) (n := 5) hts (fun w hw => (layX0 w hw).1) (hts _ (List.mem_of_getElem? (i := 97) (by decide +kernel)))
  obtain ⟨c1, f1, k1⟩ := u_known (C := RX1) (T := TX1) (N := 5) (n := 5) hts (fun w hw => (layX1 w hw).1) (hts _ (List.mem_of_getElem? (i := 209) (by decide +kernel)))
  obtain ⟨c2, f2, k2⟩ := u_known (C := RX2) (T := TX2) (N := 6) (n := 6) hts (fun w hw => (layX2 w hw).1) (hts _ (List.mem_of_getElem? (i := 120) (by decide +kernel)))
  obtain ⟨c3, f3, k3⟩ := u_known (C := RX3) (T := TX3) (N := 3) (n := 3) hts (fun w hw => (layX3 w hw).1) (hts _ (List.mem_of_getElem? (i := 147) (by decide +kernel)))
  obtain ⟨c4, f4, k4⟩ := u_known (C := RX4) (T := TX4) (N := 2) (n := 2) hts (fun w hw => (layX4 w hw).1) (hts _ (List.mem_of_getElem? (i := 74) (by decide +kernel)))
  obtain ⟨c5, f5, k5⟩ := u_known (C := RX5) (T := TX5) (N := 5) (n := 5) hts (fun w hw => (layX5 w hw).1) (hts _ (List.mem_of_getElem? (i := 188) (by decide +kernel)))
  obtain ⟨c6, f6, k6⟩ := u_known (C := RX6) (T := TX6) (N := 5) (n := 5) hts (fun w hw => (layX6 w hw).1) (hts _ (List.mem_of_getElem? (i := 165) (by decide +kernel)))
  obtain ⟨c7, f7, k7⟩ := u_known (C := RX7) (T := TX7) (N := 10) (n := 10) hts (fun w hw => (layX7 w hw).1) (hts _ (List.mem_of_getElem? (i := 66) (by decide +kernel)))
  obtain ⟨c8, f8, k8⟩ := u_known (C := RX8) (T := TX8) (N := 37) (n := 37) hts (fun w hw => (layX8 w hw).1) (hts _ (List.mem_of_getElem? (i := 766) (by decide +kernel)))
  obtain ⟨a0, r0, n0⟩ := st_arr (hts _ ac_byte)
  obtain ⟨a1, r1, n1⟩ := st_arr (hts _ ac_int)
  obtain ⟨a2, r2, n2⟩ := st_arr (hts _ ac_long)
  have o3 : (Cond.arrayOver (.object "SealBox$Row")).before #[Value.ref b] s = true := (hts _ (List.mem_of_getElem? (i := 93) (by decide +kernel)))
  obtain ⟨a3, r3, n3⟩ := st_arrO o3
  have o4 : (Cond.arrayOver (.object "SealBox$Guard")).before #[Value.ref b] s = true := (hts _ (List.mem_of_getElem? (i := 95) (by decide +kernel)))
  obtain ⟨a4, r4, n4⟩ := st_arrO o4
  obtain ⟨t0, e0, T0⟩ := va_Tof (tm := (.static "SealBox$Digester" "SQUARE_ROOTS" "[I")) (ty := .int) (N := 8) (f := fun j => .int (wI (shI j))) (A := fun q => s.heap.size ≤ q) (by decide) (hq _ (List.mem_of_getElem? (i := 5) (by decide +kernel))) (va_eqt (z := Int32.ofNat 8) (hq _ (List.mem_of_getElem? (i := 6) (by decide +kernel)))) (fun j hj => va_eqt (hq _ (List.mem_of_getElem? (nr_0 j hj)))) hA
  have z0 := va_Zref (C := "SealBox$Digester") (n := "SQUARE_ROOTS") (d := "[I") (A := fun q => s.heap.size ≤ q) (hts _ (List.mem_of_getElem? (i := 284) (by decide +kernel))) (hts _ (List.mem_of_getElem? (i := 45) (by decide +kernel))) e0 hA
  obtain ⟨t1, e1, T1⟩ := va_Tof (tm := (.static "SealBox$Digester" "CUBE_ROOTS" "[I")) (ty := .int) (N := 64) (f := fun j => .int (wI (shK j))) (A := fun q => s.heap.size ≤ q) (by decide) (hq _ (List.mem_of_getElem? (i := 16) (by decide +kernel))) (va_eqt (z := Int32.ofNat 64) (hq _ (List.mem_of_getElem? (i := 17) (by decide +kernel)))) (fun j hj => va_eqt (hq _ (List.mem_of_getElem? (nr_1 j hj)))) hA
  have z1 := va_Zref (C := "SealBox$Digester") (n := "CUBE_ROOTS") (d := "[I") (A := fun q => s.heap.size ≤ q) (hts _ (List.mem_of_getElem? (i := 300) (by decide +kernel))) (hts _ (List.mem_of_getElem? (i := 45) (by decide +kernel))) e1 hA
  obtain ⟨t2, e2, T2⟩ := va_Tof (tm := (.static "SealBox$KeyStream" "OPENING_WORDS" "[I")) (ty := .int) (N := 4) (f := fun j => .int (wI (cc_o j))) (A := fun q => s.heap.size ≤ q) (by decide) (hq _ (List.mem_of_getElem? (i := 90) (by decide +kernel))) (va_eqt (z := Int32.ofNat 4) (hq _ (List.mem_of_getElem? (i := 91) (by decide +kernel)))) (fun j hj => va_eqt (hq _ (List.mem_of_getElem? (nr_2 j hj)))) hA
  have z2 := va_Zref (C := "SealBox$KeyStream") (n := "OPENING_WORDS") (d := "[I") (A := fun q => s.heap.size ≤ q) (hts _ (List.mem_of_getElem? (i := 564) (by decide +kernel))) (hts _ (List.mem_of_getElem? (i := 47) (by decide +kernel))) e2 hA
  have y0 := va_Zqof (C := "java/lang/Throwable") (n := "UNASSIGNED_STACK") (d := "[Ljava/lang/StackTraceElement;") (A := fun q => s.heap.size ≤ q) (hts _ (List.mem_of_getElem? (i := 346) (by decide +kernel))) (hts _ (List.mem_of_getElem? (i := 52) (by decide +kernel))) (hq _ (List.mem_of_getElem? (i := 82) (by decide +kernel))) hA
  have y1 := va_Zqof (C := "java/lang/Throwable") (n := "SUPPRESSED_SENTINEL") (d := "Ljava/util/List;") (A := fun q => s.heap.size ≤ q) (hts _ (List.mem_of_getElem? (i := 348) (by decide +kernel))) (hts _ (List.mem_of_getElem? (i := 52) (by decide +kernel))) (hq _ (List.mem_of_getElem? (i := 83) (by decide +kernel))) hA
  have y2 := va_Zqof (C := "jdk/internal/util/Preconditions") (n := "SIOOBE_FORMATTER") (d := "Ljava/util/function/BiFunction;") (A := fun q => s.heap.size ≤ q) (hts _ (List.mem_of_getElem? (i := 522) (by decide +kernel))) (hts _ (List.mem_of_getElem? (i := 62) (by decide +kernel))) (hq _ (List.mem_of_getElem? (i := 85) (by decide +kernel))) hA
  have y3 := va_Zof (C := "java/lang/String") (n := "COMPACT_STRINGS") (d := "Z") (v := .int 1) (A := fun q => s.heap.size ≤ q) (hts _ (List.mem_of_getElem? (i := 506) (by decide +kernel))) (hts _ (List.mem_of_getElem? (i := 60) (by decide +kernel))) (va_eqi (hq _ (List.mem_of_getElem? (i := 84) (by decide +kernel)))) hA
  have g0 := Gl.of (S := "java/lang/Throwable") (n := "UNASSIGNED_STACK") (d := "[Ljava/lang/StackTraceElement;") (A := fun q => s.heap.size ≤ q) (hts _ (List.mem_of_getElem? (i := 346) (by decide +kernel))) hA
  have g1 := Gl.of (S := "java/lang/Throwable") (n := "SUPPRESSED_SENTINEL") (d := "Ljava/util/List;") (A := fun q => s.heap.size ≤ q) (hts _ (List.mem_of_getElem? (i := 348) (by decide +kernel))) hA
  obtain ⟨ad, had⟩ := st_lab (A := fun q => s.heap.size ≤ q) hts hq hA
  obtain ⟨ms, hms⟩ := st_msg hts hq
  have h9 : (Cond.not (.castable "java/lang/IllegalStateException" "java/lang/IllegalArgumentException")).before #[Value.ref b] s = true := (hq _ (List.mem_of_getElem? (i := 105) (by decide +kernel)))
  have hN : NoA s := by
    have z := Cond.notCastable_moved (args' := #[]) (T := s) (Vm.Alike.refl s.vm) h9
    rwa [State.setVm_self] at z
  refine ⟨(fun c => if c < 9 then ([c0, c1, c2, c3, c4, c5, c6, c7, c8] : List ClassId).getD c c0 else ([a0, a1, a2, a3, a4] : List ClassId).getD (c - 100) c0, fun c => if c < 9 then ([f0, f1, f2, f3, f4, f5, f6, f7, f8] : List (Nat → Nat)).getD c f0 else if c = 100 then (fun i => ([t0, t1, t2] : List Nat).getD i 0) else if c = 101 then (fun i => (ad i).1) else if c = 102 then (fun i => (ad i).2) else ms), ⟨fun c q hc => ?_, fun k q hk => ?_⟩, ⟨Gw.of hts, va_AO.of o3, va_AO.of o4, ⟨z0, T0⟩, ⟨z1, T1⟩, ⟨z2, T2⟩, y0, y1, y2, y3, had, hms, g0, g1⟩, hN⟩
  · match c, hc with
    | 0, hc => obtain rfl := Option.some.inj (show some (RX0, TX0, 5) = some q from hc); exact k0
    | 1, hc => obtain rfl := Option.some.inj (show some (RX1, TX1, 5) = some q from hc); exact k1
    | 2, hc => obtain rfl := Option.some.inj (show some (RX2, TX2, 6) = some q from hc); exact k2
    | 3, hc => obtain rfl := Option.some.inj (show some (RX3, TX3, 3) = some q from hc); exact k3
    | 4, hc => obtain rfl := Option.some.inj (show some (RX4, TX4, 2) = some q from hc); exact k4
    | 5, hc => obtain rfl := Option.some.inj (show some (RX5, TX5, 5) = some q from hc); exact k5
    | 6, hc => obtain rfl := Option.some.inj (show some (RX6, TX6, 5) = some q from hc); exact k6
    | 7, hc => obtain rfl := Option.some.inj (show some (RX7, TX7, 10) = some q from hc); exact k7
    | 8, hc => obtain rfl := Option.some.inj (show some (RX8, TX8, 37) = some q from hc); exact k8
    | c + 9, hc => exact absurd hc (by simp)
  · match k, hk with
    | 0, hk => obtain rfl := Option.some.inj (show some (a0, FieldType.byte) = some q from hk); exact ⟨r0, n0⟩
    | 1, hk => obtain rfl := Option.some.inj (show some (a1, FieldType.int) = some q from hk); exact ⟨r1, n1⟩
    | 2, hk => obtain rfl := Option.some.inj (show some (a2, FieldType.long) = some q from hk); exact ⟨r2, n2⟩
    | 3, hk => obtain rfl := Option.some.inj (show some (a3, FieldType.object "SealBox$Row") = some q from hk); exact ⟨r3, n3⟩
    | 4, hk => obtain rfl := Option.some.inj (show some (a4, FieldType.object "SealBox$Guard") = some q from hk); exact ⟨r4, n4⟩
    | k + 5, hk => exact absurd hk (by simp)
end STA
