/-! constructors -/
def rfL (L : List Nat) : Nat → Option Nat := fun i => L[i]?
theorem rfL_nil : (fun _ => none : Nat → Option Nat) = rfL [] := rfl
theorem rfL_up (L : List Nat) (j v : Nat) (h : j = L.length) : rfL (L ++ [v]) = va_up (rfL L) j (some v) := by
  funext i
  unfold rfL va_up
  by_cases e : i = j
  · subst e
    subst h
    rw [if_pos rfl]
    simp
  · rw [if_neg e]
    by_cases e2 : i < L.length
    · rw [List.getElem?_append_left e2]
    · show (L ++ [v])[i]? = L[i]?
      rw [List.getElem?_eq_none (by simp; omega), List.getElem?_eq_none (by omega)]
theorem df_X0 : ∀ j, j < 5 → defaultValue (tyX0 j) = vp_V [.null, .null, .null, .int (nI 0), .long (lN 0)] j := by
  intro j hj
  match j, hj with
  | 0, _ => rfl
  | 1, _ => rfl
  | 2, _ => rfl
  | 3, _ => rfl
  | 4, _ => rfl
  | j + 5, h => exact absurd h (by omega)
theorem df_X1 : ∀ j, j < 5 → defaultValue (tyX1 j) = vp_V [.null, .null, .null, .null, .int (nI 0)] j := by
  intro j hj
  match j, hj with
  | 0, _ => rfl
  | 1, _ => rfl
  | 2, _ => rfl
  | 3, _ => rfl
  | 4, _ => rfl
  | j + 5, h => exact absurd h (by omega)
theorem df_X2 : ∀ j, j < 6 → defaultValue (tyX2 j) = vp_V [.null, .null, .null, .null, .null, .null] j := by
  intro j hj
  match j, hj with
  | 0, _ => rfl
  | 1, _ => rfl
  | 2, _ => rfl
  | 3, _ => rfl
  | 4, _ => rfl
  | 5, _ => rfl
  | j + 6, h => exact absurd h (by omega)
theorem df_X3 : ∀ j, j < 3 → defaultValue (tyX3 j) = vp_V [.null, .null, .null] j := by
  intro j hj
  match j, hj with
  | 0, _ => rfl
  | 1, _ => rfl
  | 2, _ => rfl
  | j + 3, h => exact absurd h (by omega)
theorem df_X4 : ∀ j, j < 2 → defaultValue (tyX4 j) = vp_V [.null, .int (nI 0)] j := by
  intro j hj
  match j, hj with
  | 0, _ => rfl
  | 1, _ => rfl
  | j + 2, h => exact absurd h (by omega)
theorem df_X5 : ∀ j, j < 5 → defaultValue (tyX5 j) = vp_V [.null, .null, .null, .null, .null] j := by
  intro j hj
  match j, hj with
  | 0, _ => rfl
  | 1, _ => rfl
  | 2, _ => rfl
  | 3, _ => rfl
  | 4, _ => rfl
  | j + 5, h => exact absurd h (by omega)
theorem df_X6 : ∀ j, j < 5 → defaultValue (tyX6 j) = vp_V [.null, .null, .null, .null, .null] j := by
  intro j hj
  match j, hj with
  | 0, _ => rfl
  | 1, _ => rfl
  | 2, _ => rfl
  | 3, _ => rfl
  | 4, _ => rfl
  | j + 5, h => exact absurd h (by omega)
theorem df_X7 : ∀ j, j < 10 → defaultValue (tyX7 j) = vp_V [.null, .null, .null, .null, .null, .null, .null, .null, .null, .null] j := by
  intro j hj
  match j, hj with
  | 0, _ => rfl
  | 1, _ => rfl
  | 2, _ => rfl
  | 3, _ => rfl
  | 4, _ => rfl
  | 5, _ => rfl
  | 6, _ => rfl
  | 7, _ => rfl
  | 8, _ => rfl
  | 9, _ => rfl
  | j + 10, h => exact absurd h (by omega)
theorem df_X8 : ∀ j, j < 37 → defaultValue (tyX8 j) = vp_V [.int (nI 0), .null, .int (nI 0), .null, .int (nI 0), .null, .null, .null, .null, .null, .null, .null, .null, .null, .null, .null, .null, .null, .null, .null, .null, .null, .null, .int (nI 0), .null, .int (nI 0), .null, .null, .null, .null, .null, .null, .null, .null, .null, .null, .null] j := by
  intro j hj
  match j, hj with
  | 0, _ => rfl
  | 1, _ => rfl
  | 2, _ => rfl
  | 3, _ => rfl
  | 4, _ => rfl
  | 5, _ => rfl
  | 6, _ => rfl
  | 7, _ => rfl
  | 8, _ => rfl
  | 9, _ => rfl
  | 10, _ => rfl
  | 11, _ => rfl
  | 12, _ => rfl
  | 13, _ => rfl
  | 14, _ => rfl
  | 15, _ => rfl
  | 16, _ => rfl
  | 17, _ => rfl
  | 18, _ => rfl
  | 19, _ => rfl
  | 20, _ => rfl
  | 21, _ => rfl
  | 22, _ => rfl
  | 23, _ => rfl
  | 24, _ => rfl
  | 25, _ => rfl
  | 26, _ => rfl
  | 27, _ => rfl
  | 28, _ => rfl
  | 29, _ => rfl
  | 30, _ => rfl
  | 31, _ => rfl
  | 32, _ => rfl
  | 33, _ => rfl
  | 34, _ => rfl
  | 35, _ => rfl
  | 36, _ => rfl
  | j + 37, h => exact absurd h (by omega)
theorem hn_X0_init : yX0_init.cls ≠ "java/lang/invoke/MethodHandle" ∧ yX0_init.cls ≠ "java/lang/invoke/VarHandle" ∧ (parseMethodDescriptor yX0_init.desc).map (fun d => d.parameters.length) = some 0 := by decide +kernel
set_option maxRecDepth 100000 in
theorem cw_X7_36 : GoodIn lw_tbl [.instanceMethod yX0_init, .initialized yX0_init.cls, .code yX0_init cX0_init 1 none] := gi_r [99, 45, 100] rfl rfl
theorem cl_X7_36 : Cond.methodLinkNest RX7 36 yX0_init "SealBox" ∈ lw_tbl := List.mem_of_getElem? (i := 98) (by decide +kernel)
theorem hn_X3_init : yX3_init.cls ≠ "java/lang/invoke/MethodHandle" ∧ yX3_init.cls ≠ "java/lang/invoke/VarHandle" ∧ (parseMethodDescriptor yX3_init.desc).map (fun d => d.parameters.length) = some 0 := by decide +kernel
set_option maxRecDepth 100000 in
theorem cw_X7_52 : GoodIn lw_tbl [.instanceMethod yX3_init, .initialized yX3_init.cls, .code yX3_init cX3_init 1 none] := gi_r [149, 47, 150] rfl rfl
theorem cl_X7_52 : Cond.methodLinkNest RX7 52 yX3_init "SealBox" ∈ lw_tbl := List.mem_of_getElem? (i := 148) (by decide +kernel)
theorem hn_X6_init : yX6_init.cls ≠ "java/lang/invoke/MethodHandle" ∧ yX6_init.cls ≠ "java/lang/invoke/VarHandle" ∧ (parseMethodDescriptor yX6_init.desc).map (fun d => d.parameters.length) = some 0 := by decide +kernel
set_option maxRecDepth 100000 in
theorem cw_X7_59 : GoodIn lw_tbl [.instanceMethod yX6_init, .initialized yX6_init.cls, .code yX6_init cX6_init 1 none] := gi_r [167, 48, 168] rfl rfl
theorem cl_X7_59 : Cond.methodLinkNest RX7 59 yX6_init "SealBox" ∈ lw_tbl := List.mem_of_getElem? (i := 166) (by decide +kernel)
theorem hn_X1_init : yX1_init.cls ≠ "java/lang/invoke/MethodHandle" ∧ yX1_init.cls ≠ "java/lang/invoke/VarHandle" ∧ (parseMethodDescriptor yX1_init.desc).map (fun d => d.parameters.length) = some 0 := by decide +kernel
set_option maxRecDepth 100000 in
theorem cw_X7_73 : GoodIn lw_tbl [.instanceMethod yX1_init, .initialized yX1_init.cls, .code yX1_init cX1_init 1 none] := gi_r [211, 50, 212] rfl rfl
theorem cl_X7_73 : Cond.methodLinkNest RX7 73 yX1_init "SealBox" ∈ lw_tbl := List.mem_of_getElem? (i := 210) (by decide +kernel)
theorem dX4_init_0 : decode cX4_init 0 = .ok (.aload_n 0, 1) := by decide +kernel
theorem dX4_init_1 : decode cX4_init 1 = .ok (.invokespecial 1, 3) := by decide +kernel
theorem dX4_init_4 : decode cX4_init 4 = .ok (.aload_n 0, 1) := by decide +kernel
theorem dX4_init_5 : decode cX4_init 5 = .ok (.iload_n 1, 1) := by decide +kernel
theorem dX4_init_6 : decode cX4_init 6 = .ok (.newarray .byte, 2) := by decide +kernel
theorem dX4_init_8 : decode cX4_init 8 = .ok (.putfield 7, 3) := by decide +kernel
theorem dX4_init_11 : decode cX4_init 11 = .ok (.return_, 1) := by decide +kernel
set_option maxHeartbeats 4000000 in
set_option maxRecDepth 100000 in
theorem c_RW_new0 (l : Launch) (D : va_G) (a0 : Nat)   : vM l D yX4_init cX4_init 2 none { frames := 1, cells := 1, slots := 0, locals := 24 } [.ref a0, .int (nI 0)] [(a0, .inr (4, [.null, .int (nI 0)]))] (fun r wo => ∃ (q1 : Nat), r = none ∧ wo = [(a0, .inr (4, [.ref q1, .int (nI 0)])), (q1, aB D 0 (fun _ => 0#8))]) := by
  refine vM.ofI (by decide) (Nat.le_of_ble_eq_true rfl) (fun C hCl hCD hme g R => ?_)
  subst hCl; subst hCD
  show VJ C 0 0 0 [(0, .ref a0), (1, .int (nI 0))] [] [(a0, .inr (4, [.null, .int (nI 0)]))]
  refine v_aload_n g dX4_init_0 0 rfl 0 rfl ?_
  refine v_objI g (List.mem_of_getElem? (i := 78) (by decide +kernel)) (by decide) (by decide) dX4_init_1 ?_
  refine v_aload_n g dX4_init_4 0 rfl 0 rfl ?_
  refine v_iload_n g dX4_init_5 1 rfl 1 rfl ?_
  refine v_newB g (by decide) (by decide) (by decide) dX4_init_6 (fun q1 => ?_)
  show VJ C 1 0 8 [(0, .ref a0), (1, .int (nI 0))] [.ref q1, .ref a0] [(a0, .inr (4, [.null, .int (nI 0)])), (q1, aB C.D 0 (fun _ => 0#8))]
  refine v_putF layX4 tyX4 tyX4_ok nmX4 rfl 0 (by decide) fl_X4_7 rfl rfl rfl (tyX4_ok 0 (by decide)) rfl rfl hme g dX4_init_8 0 [(a0, .inr (4, [.ref q1, .int (nI 0)])), (q1, aB C.D 0 (fun _ => 0#8))] rfl (Nat.le_of_ble_eq_true rfl) rfl ?_
  exact v_ret g R dX4_init_11 (by decide) (by decide) ⟨q1, rfl, rfl⟩
set_option maxHeartbeats 4000000 in
set_option maxRecDepth 100000 in
theorem c_RW_new12 (l : Launch) (D : va_G) (a0 : Nat)   : vM l D yX4_init cX4_init 2 none { frames := 1, cells := 1, slots := 12, locals := 24 } [.ref a0, .int (nI 12)] [(a0, .inr (4, [.null, .int (nI 0)]))] (fun r wo => ∃ (q1 : Nat), r = none ∧ wo = [(a0, .inr (4, [.ref q1, .int (nI 0)])), (q1, aB D 12 (fun _ => 0#8))]) := by
  refine vM.ofI (by decide) (Nat.le_of_ble_eq_true rfl) (fun C hCl hCD hme g R => ?_)
  subst hCl; subst hCD
  show VJ C 0 0 0 [(0, .ref a0), (1, .int (nI 12))] [] [(a0, .inr (4, [.null, .int (nI 0)]))]
  refine v_aload_n g dX4_init_0 0 rfl 0 rfl ?_
  refine v_objI g (List.mem_of_getElem? (i := 78) (by decide +kernel)) (by decide) (by decide) dX4_init_1 ?_
  refine v_aload_n g dX4_init_4 0 rfl 0 rfl ?_
  refine v_iload_n g dX4_init_5 1 rfl 1 rfl ?_
  refine v_newB g (by decide) (by decide) (by decide) dX4_init_6 (fun q1 => ?_)
  show VJ C 1 12 8 [(0, .ref a0), (1, .int (nI 12))] [.ref q1, .ref a0] [(a0, .inr (4, [.null, .int (nI 0)])), (q1, aB C.D 12 (fun _ => 0#8))]
  refine v_putF layX4 tyX4 tyX4_ok nmX4 rfl 0 (by decide) fl_X4_7 rfl rfl rfl (tyX4_ok 0 (by decide)) rfl rfl hme g dX4_init_8 0 [(a0, .inr (4, [.ref q1, .int (nI 0)])), (q1, aB C.D 12 (fun _ => 0#8))] rfl (Nat.le_of_ble_eq_true rfl) rfl ?_
  exact v_ret g R dX4_init_11 (by decide) (by decide) ⟨q1, rfl, rfl⟩
set_option maxHeartbeats 4000000 in
set_option maxRecDepth 100000 in
theorem c_RW_new32 (l : Launch) (D : va_G) (a0 : Nat)   : vM l D yX4_init cX4_init 2 none { frames := 1, cells := 1, slots := 32, locals := 24 } [.ref a0, .int (nI 32)] [(a0, .inr (4, [.null, .int (nI 0)]))] (fun r wo => ∃ (q1 : Nat), r = none ∧ wo = [(a0, .inr (4, [.ref q1, .int (nI 0)])), (q1, aB D 32 (fun _ => 0#8))]) := by
  refine vM.ofI (by decide) (Nat.le_of_ble_eq_true rfl) (fun C hCl hCD hme g R => ?_)
  subst hCl; subst hCD
  show VJ C 0 0 0 [(0, .ref a0), (1, .int (nI 32))] [] [(a0, .inr (4, [.null, .int (nI 0)]))]
  refine v_aload_n g dX4_init_0 0 rfl 0 rfl ?_
  refine v_objI g (List.mem_of_getElem? (i := 78) (by decide +kernel)) (by decide) (by decide) dX4_init_1 ?_
  refine v_aload_n g dX4_init_4 0 rfl 0 rfl ?_
  refine v_iload_n g dX4_init_5 1 rfl 1 rfl ?_
  refine v_newB g (by decide) (by decide) (by decide) dX4_init_6 (fun q1 => ?_)
  show VJ C 1 32 8 [(0, .ref a0), (1, .int (nI 32))] [.ref q1, .ref a0] [(a0, .inr (4, [.null, .int (nI 0)])), (q1, aB C.D 32 (fun _ => 0#8))]
  refine v_putF layX4 tyX4 tyX4_ok nmX4 rfl 0 (by decide) fl_X4_7 rfl rfl rfl (tyX4_ok 0 (by decide)) rfl rfl hme g dX4_init_8 0 [(a0, .inr (4, [.ref q1, .int (nI 0)])), (q1, aB C.D 32 (fun _ => 0#8))] rfl (Nat.le_of_ble_eq_true rfl) rfl ?_
  exact v_ret g R dX4_init_11 (by decide) (by decide) ⟨q1, rfl, rfl⟩
set_option maxHeartbeats 4000000 in
set_option maxRecDepth 100000 in
theorem c_RW_new128 (l : Launch) (D : va_G) (a0 : Nat)   : vM l D yX4_init cX4_init 2 none { frames := 1, cells := 1, slots := 128, locals := 24 } [.ref a0, .int (nI 128)] [(a0, .inr (4, [.null, .int (nI 0)]))] (fun r wo => ∃ (q1 : Nat), r = none ∧ wo = [(a0, .inr (4, [.ref q1, .int (nI 0)])), (q1, aB D 128 (fun _ => 0#8))]) := by
  refine vM.ofI (by decide) (Nat.le_of_ble_eq_true rfl) (fun C hCl hCD hme g R => ?_)
  subst hCl; subst hCD
  show VJ C 0 0 0 [(0, .ref a0), (1, .int (nI 128))] [] [(a0, .inr (4, [.null, .int (nI 0)]))]
  refine v_aload_n g dX4_init_0 0 rfl 0 rfl ?_
  refine v_objI g (List.mem_of_getElem? (i := 78) (by decide +kernel)) (by decide) (by decide) dX4_init_1 ?_
  refine v_aload_n g dX4_init_4 0 rfl 0 rfl ?_
  refine v_iload_n g dX4_init_5 1 rfl 1 rfl ?_
  refine v_newB g (by decide) (by decide) (by decide) dX4_init_6 (fun q1 => ?_)
  show VJ C 1 128 8 [(0, .ref a0), (1, .int (nI 128))] [.ref q1, .ref a0] [(a0, .inr (4, [.null, .int (nI 0)])), (q1, aB C.D 128 (fun _ => 0#8))]
  refine v_putF layX4 tyX4 tyX4_ok nmX4 rfl 0 (by decide) fl_X4_7 rfl rfl rfl (tyX4_ok 0 (by decide)) rfl rfl hme g dX4_init_8 0 [(a0, .inr (4, [.ref q1, .int (nI 0)])), (q1, aB C.D 128 (fun _ => 0#8))] rfl (Nat.le_of_ble_eq_true rfl) rfl ?_
  exact v_ret g R dX4_init_11 (by decide) (by decide) ⟨q1, rfl, rfl⟩
set_option maxHeartbeats 4000000 in
set_option maxRecDepth 100000 in
theorem c_RW_new269 (l : Launch) (D : va_G) (a0 : Nat)   : vM l D yX4_init cX4_init 2 none { frames := 1, cells := 1, slots := 269, locals := 24 } [.ref a0, .int (nI 269)] [(a0, .inr (4, [.null, .int (nI 0)]))] (fun r wo => ∃ (q1 : Nat), r = none ∧ wo = [(a0, .inr (4, [.ref q1, .int (nI 0)])), (q1, aB D 269 (fun _ => 0#8))]) := by
  refine vM.ofI (by decide) (Nat.le_of_ble_eq_true rfl) (fun C hCl hCD hme g R => ?_)
  subst hCl; subst hCD
  show VJ C 0 0 0 [(0, .ref a0), (1, .int (nI 269))] [] [(a0, .inr (4, [.null, .int (nI 0)]))]
  refine v_aload_n g dX4_init_0 0 rfl 0 rfl ?_
  refine v_objI g (List.mem_of_getElem? (i := 78) (by decide +kernel)) (by decide) (by decide) dX4_init_1 ?_
  refine v_aload_n g dX4_init_4 0 rfl 0 rfl ?_
  refine v_iload_n g dX4_init_5 1 rfl 1 rfl ?_
  refine v_newB g (by decide) (by decide) (by decide) dX4_init_6 (fun q1 => ?_)
  show VJ C 1 269 8 [(0, .ref a0), (1, .int (nI 269))] [.ref q1, .ref a0] [(a0, .inr (4, [.null, .int (nI 0)])), (q1, aB C.D 269 (fun _ => 0#8))]
  refine v_putF layX4 tyX4 tyX4_ok nmX4 rfl 0 (by decide) fl_X4_7 rfl rfl rfl (tyX4_ok 0 (by decide)) rfl rfl hme g dX4_init_8 0 [(a0, .inr (4, [.ref q1, .int (nI 0)])), (q1, aB C.D 269 (fun _ => 0#8))] rfl (Nat.le_of_ble_eq_true rfl) rfl ?_
  exact v_ret g R dX4_init_11 (by decide) (by decide) ⟨q1, rfl, rfl⟩
set_option maxHeartbeats 4000000 in
set_option maxRecDepth 100000 in
theorem c_RW_new2048 (l : Launch) (D : va_G) (a0 : Nat)   : vM l D yX4_init cX4_init 2 none { frames := 1, cells := 1, slots := 2048, locals := 24 } [.ref a0, .int (nI 2048)] [(a0, .inr (4, [.null, .int (nI 0)]))] (fun r wo => ∃ (q1 : Nat), r = none ∧ wo = [(a0, .inr (4, [.ref q1, .int (nI 0)])), (q1, aB D 2048 (fun _ => 0#8))]) := by
  refine vM.ofI (by decide) (Nat.le_of_ble_eq_true rfl) (fun C hCl hCD hme g R => ?_)
  subst hCl; subst hCD
  show VJ C 0 0 0 [(0, .ref a0), (1, .int (nI 2048))] [] [(a0, .inr (4, [.null, .int (nI 0)]))]
  refine v_aload_n g dX4_init_0 0 rfl 0 rfl ?_
  refine v_objI g (List.mem_of_getElem? (i := 78) (by decide +kernel)) (by decide) (by decide) dX4_init_1 ?_
  refine v_aload_n g dX4_init_4 0 rfl 0 rfl ?_
  refine v_iload_n g dX4_init_5 1 rfl 1 rfl ?_
  refine v_newB g (by decide) (by decide) (by decide) dX4_init_6 (fun q1 => ?_)
  show VJ C 1 2048 8 [(0, .ref a0), (1, .int (nI 2048))] [.ref q1, .ref a0] [(a0, .inr (4, [.null, .int (nI 0)])), (q1, aB C.D 2048 (fun _ => 0#8))]
  refine v_putF layX4 tyX4 tyX4_ok nmX4 rfl 0 (by decide) fl_X4_7 rfl rfl rfl (tyX4_ok 0 (by decide)) rfl rfl hme g dX4_init_8 0 [(a0, .inr (4, [.ref q1, .int (nI 0)])), (q1, aB C.D 2048 (fun _ => 0#8))] rfl (Nat.le_of_ble_eq_true rfl) rfl ?_
  exact v_ret g R dX4_init_11 (by decide) (by decide) ⟨q1, rfl, rfl⟩
set_option maxHeartbeats 4000000 in
set_option maxRecDepth 100000 in
theorem c_RW_new2064 (l : Launch) (D : va_G) (a0 : Nat)   : vM l D yX4_init cX4_init 2 none { frames := 1, cells := 1, slots := 2064, locals := 24 } [.ref a0, .int (nI 2064)] [(a0, .inr (4, [.null, .int (nI 0)]))] (fun r wo => ∃ (q1 : Nat), r = none ∧ wo = [(a0, .inr (4, [.ref q1, .int (nI 0)])), (q1, aB D 2064 (fun _ => 0#8))]) := by
  refine vM.ofI (by decide) (Nat.le_of_ble_eq_true rfl) (fun C hCl hCD hme g R => ?_)
  subst hCl; subst hCD
  show VJ C 0 0 0 [(0, .ref a0), (1, .int (nI 2064))] [] [(a0, .inr (4, [.null, .int (nI 0)]))]
  refine v_aload_n g dX4_init_0 0 rfl 0 rfl ?_
  refine v_objI g (List.mem_of_getElem? (i := 78) (by decide +kernel)) (by decide) (by decide) dX4_init_1 ?_
  refine v_aload_n g dX4_init_4 0 rfl 0 rfl ?_
  refine v_iload_n g dX4_init_5 1 rfl 1 rfl ?_
  refine v_newB g (by decide) (by decide) (by decide) dX4_init_6 (fun q1 => ?_)
  show VJ C 1 2064 8 [(0, .ref a0), (1, .int (nI 2064))] [.ref q1, .ref a0] [(a0, .inr (4, [.null, .int (nI 0)])), (q1, aB C.D 2064 (fun _ => 0#8))]
  refine v_putF layX4 tyX4 tyX4_ok nmX4 rfl 0 (by decide) fl_X4_7 rfl rfl rfl (tyX4_ok 0 (by decide)) rfl rfl hme g dX4_init_8 0 [(a0, .inr (4, [.ref q1, .int (nI 0)])), (q1, aB C.D 2064 (fun _ => 0#8))] rfl (Nat.le_of_ble_eq_true rfl) rfl ?_
  exact v_ret g R dX4_init_11 (by decide) (by decide) ⟨q1, rfl, rfl⟩
theorem dX1_init_0 : decode cX1_init 0 = .ok (.aload_n 0, 1) := by decide +kernel
theorem dX1_init_1 : decode cX1_init 1 = .ok (.invokespecial 3, 3) := by decide +kernel
theorem dX1_init_4 : decode cX1_init 4 = .ok (.aload_n 0, 1) := by decide +kernel
theorem dX1_init_5 : decode cX1_init 5 = .ok (.new 9, 3) := by decide +kernel
theorem dX1_init_8 : decode cX1_init 8 = .ok (.dup, 1) := by decide +kernel
theorem dX1_init_9 : decode cX1_init 9 = .ok (.bipush 32, 2) := by decide +kernel
theorem dX1_init_11 : decode cX1_init 11 = .ok (.invokespecial 11, 3) := by decide +kernel
theorem dX1_init_14 : decode cX1_init 14 = .ok (.putfield 14, 3) := by decide +kernel
theorem dX1_init_17 : decode cX1_init 17 = .ok (.aload_n 0, 1) := by decide +kernel
theorem dX1_init_18 : decode cX1_init 18 = .ok (.new 9, 3) := by decide +kernel
theorem dX1_init_21 : decode cX1_init 21 = .ok (.dup, 1) := by decide +kernel
theorem dX1_init_22 : decode cX1_init 22 = .ok (.bipush 32, 2) := by decide +kernel
theorem dX1_init_24 : decode cX1_init 24 = .ok (.invokespecial 11, 3) := by decide +kernel
theorem dX1_init_27 : decode cX1_init 27 = .ok (.putfield 20, 3) := by decide +kernel
theorem dX1_init_30 : decode cX1_init 30 = .ok (.aload_n 0, 1) := by decide +kernel
theorem dX1_init_31 : decode cX1_init 31 = .ok (.new 9, 3) := by decide +kernel
theorem dX1_init_34 : decode cX1_init 34 = .ok (.dup, 1) := by decide +kernel
theorem dX1_init_35 : decode cX1_init 35 = .ok (.bipush 12, 2) := by decide +kernel
theorem dX1_init_37 : decode cX1_init 37 = .ok (.invokespecial 11, 3) := by decide +kernel
theorem dX1_init_40 : decode cX1_init 40 = .ok (.putfield 23, 3) := by decide +kernel
theorem dX1_init_43 : decode cX1_init 43 = .ok (.aload_n 0, 1) := by decide +kernel
theorem dX1_init_44 : decode cX1_init 44 = .ok (.new 9, 3) := by decide +kernel
theorem dX1_init_47 : decode cX1_init 47 = .ok (.dup, 1) := by decide +kernel
theorem dX1_init_48 : decode cX1_init 48 = .ok (.bipush 32, 2) := by decide +kernel
theorem dX1_init_50 : decode cX1_init 50 = .ok (.invokespecial 11, 3) := by decide +kernel
theorem dX1_init_53 : decode cX1_init 53 = .ok (.putfield 26, 3) := by decide +kernel
theorem dX1_init_56 : decode cX1_init 56 = .ok (.aload_n 0, 1) := by decide +kernel
theorem dX1_init_57 : decode cX1_init 57 = .ok (.iconst (-1), 1) := by decide +kernel
theorem dX1_init_58 : decode cX1_init 58 = .ok (.putfield 29, 3) := by decide +kernel
theorem dX1_init_61 : decode cX1_init 61 = .ok (.return_, 1) := by decide +kernel
set_option maxHeartbeats 4000000 in
set_option maxRecDepth 100000 in
theorem c_GD_new (l : Launch) (D : va_G) (a0 : Nat)   : vM l D yX1_init cX1_init 1 none { frames := 2, cells := 8, slots := 116, locals := 45 } [.ref a0] [(a0, .inr (1, [.null, .null, .null, .null, .int (nI 0)]))] (fun r wo => ∃ (q1 : Nat) (q2 : Nat) (q4 : Nat) (q5 : Nat) (q7 : Nat) (q8 : Nat) (q10 : Nat) (q11 : Nat), r = none ∧ wo = [(a0, .inr (1, [.ref q1, .ref q4, .ref q7, .ref q10, .int (wI 4294967295#32)])), (q1, .inr (4, [.ref q2, .int (nI 0)])), (q2, aB D 32 (fun _ => 0#8)), (q4, .inr (4, [.ref q5, .int (nI 0)])), (q5, aB D 32 (fun _ => 0#8)), (q7, .inr (4, [.ref q8, .int (nI 0)])), (q8, aB D 12 (fun _ => 0#8)), (q10, .inr (4, [.ref q11, .int (nI 0)])), (q11, aB D 32 (fun _ => 0#8))]) := by
  refine vM.ofI (by decide) (Nat.le_of_ble_eq_true rfl) (fun C hCl hCD hme g R => ?_)
  subst hCl; subst hCD
  show VJ C 0 0 0 [(0, .ref a0)] [] [(a0, .inr (1, [.null, .null, .null, .null, .int (nI 0)]))]
  refine v_aload_n g dX1_init_0 0 rfl 0 rfl ?_
  refine v_objI g (List.mem_of_getElem? (i := 213) (by decide +kernel)) (by decide) (by decide) dX1_init_1 ?_
  refine v_aload_n g dX1_init_4 0 rfl 0 rfl ?_
  refine v_new (ci := 4) [.null, .int (nI 0)] layX4 tyX4 tyX4_ok rfl (List.mem_of_getElem? (i := 214) (by decide +kernel)) (List.mem_of_getElem? (i := 74) (by decide +kernel)) (List.mem_of_getElem? (i := 44) (by decide +kernel)) df_X4 g (by decide) (by decide) dX1_init_5 (fun q1 => ?_)
  show VJ C 1 2 8 [(0, .ref a0)] [.ref q1, .ref a0] [(a0, .inr (1, [.null, .null, .null, .null, .int (nI 0)])), (q1, .inr (4, [.null, .int (nI 0)]))]
  refine v_dup g dX1_init_8 rfl ?_
  refine v_bipush g dX1_init_9 (v := nI 32) (by decide +kernel) ?_
  refine v_callI (As := [.int (nI 32)]) (rest := [.ref q1, .ref a0]) (wr := [(a0, .inr (1, [.null, .null, .null, .null, .int (nI 0)]))]) cw_X1_11 rfl (hy_X4_init) g (c_RW_new32 C.l C.D q1 ) dX1_init_11 rfl (by decide) (by decide) (Nat.le_of_ble_eq_true rfl) [1] [0] rfl rfl (by decide) rfl (by decide) (by decide) _ rfl (fun r wo hp3 => ?_)
  obtain ⟨q2, rfl, rfl⟩ := hp3
  show VJ C 2 34 14 [(0, .ref a0)] [.ref q1, .ref a0] [(a0, .inr (1, [.null, .null, .null, .null, .int (nI 0)])), (q1, .inr (4, [.ref q2, .int (nI 0)])), (q2, aB C.D 32 (fun _ => 0#8))]
  refine v_putF layX1 tyX1 tyX1_ok nmX1 rfl 0 (by decide) fl_X1_14 rfl rfl rfl (tyX1_ok 0 (by decide)) rfl rfl hme g dX1_init_14 0 [(a0, .inr (1, [.ref q1, .null, .null, .null, .int (nI 0)])), (q1, .inr (4, [.ref q2, .int (nI 0)])), (q2, aB C.D 32 (fun _ => 0#8))] rfl (Nat.le_of_ble_eq_true rfl) rfl ?_
  refine v_aload_n g dX1_init_17 0 rfl 0 rfl ?_
  refine v_new (ci := 4) [.null, .int (nI 0)] layX4 tyX4 tyX4_ok rfl (List.mem_of_getElem? (i := 214) (by decide +kernel)) (List.mem_of_getElem? (i := 74) (by decide +kernel)) (List.mem_of_getElem? (i := 44) (by decide +kernel)) df_X4 g (by decide) (by decide) dX1_init_18 (fun q4 => ?_)
  show VJ C 3 36 21 [(0, .ref a0)] [.ref q4, .ref a0] [(a0, .inr (1, [.ref q1, .null, .null, .null, .int (nI 0)])), (q1, .inr (4, [.ref q2, .int (nI 0)])), (q2, aB C.D 32 (fun _ => 0#8)), (q4, .inr (4, [.null, .int (nI 0)]))]
  refine v_dup g dX1_init_21 rfl ?_
  refine v_bipush g dX1_init_22 (v := nI 32) (by decide +kernel) ?_
  refine v_callI (As := [.int (nI 32)]) (rest := [.ref q4, .ref a0]) (wr := [(a0, .inr (1, [.ref q1, .null, .null, .null, .int (nI 0)])), (q1, .inr (4, [.ref q2, .int (nI 0)])), (q2, aB C.D 32 (fun _ => 0#8))]) cw_X1_11 rfl (hy_X4_init) g (c_RW_new32 C.l C.D q4 ) dX1_init_24 rfl (by decide) (by decide) (Nat.le_of_ble_eq_true rfl) [3] [0, 1, 2] rfl rfl (by decide) rfl (by decide) (by decide) _ rfl (fun r wo hp6 => ?_)
  obtain ⟨q5, rfl, rfl⟩ := hp6
  show VJ C 4 68 27 [(0, .ref a0)] [.ref q4, .ref a0] [(a0, .inr (1, [.ref q1, .null, .null, .null, .int (nI 0)])), (q1, .inr (4, [.ref q2, .int (nI 0)])), (q2, aB C.D 32 (fun _ => 0#8)), (q4, .inr (4, [.ref q5, .int (nI 0)])), (q5, aB C.D 32 (fun _ => 0#8))]
  refine v_putF layX1 tyX1 tyX1_ok nmX1 rfl 1 (by decide) fl_X1_20 rfl rfl rfl (tyX1_ok 1 (by decide)) rfl rfl hme g dX1_init_27 0 [(a0, .inr (1, [.ref q1, .ref q4, .null, .null, .int (nI 0)])), (q1, .inr (4, [.ref q2, .int (nI 0)])), (q2, aB C.D 32 (fun _ => 0#8)), (q4, .inr (4, [.ref q5, .int (nI 0)])), (q5, aB C.D 32 (fun _ => 0#8))] rfl (Nat.le_of_ble_eq_true rfl) rfl ?_
  refine v_aload_n g dX1_init_30 0 rfl 0 rfl ?_
  refine v_new (ci := 4) [.null, .int (nI 0)] layX4 tyX4 tyX4_ok rfl (List.mem_of_getElem? (i := 214) (by decide +kernel)) (List.mem_of_getElem? (i := 74) (by decide +kernel)) (List.mem_of_getElem? (i := 44) (by decide +kernel)) df_X4 g (by decide) (by decide) dX1_init_31 (fun q7 => ?_)
  show VJ C 5 70 34 [(0, .ref a0)] [.ref q7, .ref a0] [(a0, .inr (1, [.ref q1, .ref q4, .null, .null, .int (nI 0)])), (q1, .inr (4, [.ref q2, .int (nI 0)])), (q2, aB C.D 32 (fun _ => 0#8)), (q4, .inr (4, [.ref q5, .int (nI 0)])), (q5, aB C.D 32 (fun _ => 0#8)), (q7, .inr (4, [.null, .int (nI 0)]))]
  refine v_dup g dX1_init_34 rfl ?_
  refine v_bipush g dX1_init_35 (v := nI 12) (by decide +kernel) ?_
  refine v_callI (As := [.int (nI 12)]) (rest := [.ref q7, .ref a0]) (wr := [(a0, .inr (1, [.ref q1, .ref q4, .null, .null, .int (nI 0)])), (q1, .inr (4, [.ref q2, .int (nI 0)])), (q2, aB C.D 32 (fun _ => 0#8)), (q4, .inr (4, [.ref q5, .int (nI 0)])), (q5, aB C.D 32 (fun _ => 0#8))]) cw_X1_11 rfl (hy_X4_init) g (c_RW_new12 C.l C.D q7 ) dX1_init_37 rfl (by decide) (by decide) (Nat.le_of_ble_eq_true rfl) [5] [0, 1, 2, 3, 4] rfl rfl (by decide) rfl (by decide) (by decide) _ rfl (fun r wo hp9 => ?_)
  obtain ⟨q8, rfl, rfl⟩ := hp9
  show VJ C 6 82 40 [(0, .ref a0)] [.ref q7, .ref a0] [(a0, .inr (1, [.ref q1, .ref q4, .null, .null, .int (nI 0)])), (q1, .inr (4, [.ref q2, .int (nI 0)])), (q2, aB C.D 32 (fun _ => 0#8)), (q4, .inr (4, [.ref q5, .int (nI 0)])), (q5, aB C.D 32 (fun _ => 0#8)), (q7, .inr (4, [.ref q8, .int (nI 0)])), (q8, aB C.D 12 (fun _ => 0#8))]
  refine v_putF layX1 tyX1 tyX1_ok nmX1 rfl 2 (by decide) fl_X1_23 rfl rfl rfl (tyX1_ok 2 (by decide)) rfl rfl hme g dX1_init_40 0 [(a0, .inr (1, [.ref q1, .ref q4, .ref q7, .null, .int (nI 0)])), (q1, .inr (4, [.ref q2, .int (nI 0)])), (q2, aB C.D 32 (fun _ => 0#8)), (q4, .inr (4, [.ref q5, .int (nI 0)])), (q5, aB C.D 32 (fun _ => 0#8)), (q7, .inr (4, [.ref q8, .int (nI 0)])), (q8, aB C.D 12 (fun _ => 0#8))] rfl (Nat.le_of_ble_eq_true rfl) rfl ?_
  refine v_aload_n g dX1_init_43 0 rfl 0 rfl ?_
  refine v_new (ci := 4) [.null, .int (nI 0)] layX4 tyX4 tyX4_ok rfl (List.mem_of_getElem? (i := 214) (by decide +kernel)) (List.mem_of_getElem? (i := 74) (by decide +kernel)) (List.mem_of_getElem? (i := 44) (by decide +kernel)) df_X4 g (by decide) (by decide) dX1_init_44 (fun q10 => ?_)
  show VJ C 7 84 47 [(0, .ref a0)] [.ref q10, .ref a0] [(a0, .inr (1, [.ref q1, .ref q4, .ref q7, .null, .int (nI 0)])), (q1, .inr (4, [.ref q2, .int (nI 0)])), (q2, aB C.D 32 (fun _ => 0#8)), (q4, .inr (4, [.ref q5, .int (nI 0)])), (q5, aB C.D 32 (fun _ => 0#8)), (q7, .inr (4, [.ref q8, .int (nI 0)])), (q8, aB C.D 12 (fun _ => 0#8)), (q10, .inr (4, [.null, .int (nI 0)]))]
  refine v_dup g dX1_init_47 rfl ?_
  refine v_bipush g dX1_init_48 (v := nI 32) (by decide +kernel) ?_
  refine v_callI (As := [.int (nI 32)]) (rest := [.ref q10, .ref a0]) (wr := [(a0, .inr (1, [.ref q1, .ref q4, .ref q7, .null, .int (nI 0)])), (q1, .inr (4, [.ref q2, .int (nI 0)])), (q2, aB C.D 32 (fun _ => 0#8)), (q4, .inr (4, [.ref q5, .int (nI 0)])), (q5, aB C.D 32 (fun _ => 0#8)), (q7, .inr (4, [.ref q8, .int (nI 0)])), (q8, aB C.D 12 (fun _ => 0#8))]) cw_X1_11 rfl (hy_X4_init) g (c_RW_new32 C.l C.D q10 ) dX1_init_50 rfl (by decide) (by decide) (Nat.le_of_ble_eq_true rfl) [7] [0, 1, 2, 3, 4, 5, 6] rfl rfl (by decide) rfl (by decide) (by decide) _ rfl (fun r wo hp12 => ?_)
  obtain ⟨q11, rfl, rfl⟩ := hp12
  show VJ C 8 116 53 [(0, .ref a0)] [.ref q10, .ref a0] [(a0, .inr (1, [.ref q1, .ref q4, .ref q7, .null, .int (nI 0)])), (q1, .inr (4, [.ref q2, .int (nI 0)])), (q2, aB C.D 32 (fun _ => 0#8)), (q4, .inr (4, [.ref q5, .int (nI 0)])), (q5, aB C.D 32 (fun _ => 0#8)), (q7, .inr (4, [.ref q8, .int (nI 0)])), (q8, aB C.D 12 (fun _ => 0#8)), (q10, .inr (4, [.ref q11, .int (nI 0)])), (q11, aB C.D 32 (fun _ => 0#8))]
  refine v_putF layX1 tyX1 tyX1_ok nmX1 rfl 3 (by decide) fl_X1_26 rfl rfl rfl (tyX1_ok 3 (by decide)) rfl rfl hme g dX1_init_53 0 [(a0, .inr (1, [.ref q1, .ref q4, .ref q7, .ref q10, .int (nI 0)])), (q1, .inr (4, [.ref q2, .int (nI 0)])), (q2, aB C.D 32 (fun _ => 0#8)), (q4, .inr (4, [.ref q5, .int (nI 0)])), (q5, aB C.D 32 (fun _ => 0#8)), (q7, .inr (4, [.ref q8, .int (nI 0)])), (q8, aB C.D 12 (fun _ => 0#8)), (q10, .inr (4, [.ref q11, .int (nI 0)])), (q11, aB C.D 32 (fun _ => 0#8))] rfl (Nat.le_of_ble_eq_true rfl) rfl ?_
  refine v_aload_n g dX1_init_56 0 rfl 0 rfl ?_
  refine v_iconst g dX1_init_57 (v := wI 4294967295#32) (by decide +kernel) ?_
  refine pf_X1_29 g dX1_init_58 0 [(a0, .inr (1, [.ref q1, .ref q4, .ref q7, .ref q10, .int (wI 4294967295#32)])), (q1, .inr (4, [.ref q2, .int (nI 0)])), (q2, aB C.D 32 (fun _ => 0#8)), (q4, .inr (4, [.ref q5, .int (nI 0)])), (q5, aB C.D 32 (fun _ => 0#8)), (q7, .inr (4, [.ref q8, .int (nI 0)])), (q8, aB C.D 12 (fun _ => 0#8)), (q10, .inr (4, [.ref q11, .int (nI 0)])), (q11, aB C.D 32 (fun _ => 0#8))] rfl (Nat.le_of_ble_eq_true rfl) rfl ?_
  exact v_ret g R dX1_init_61 (by decide) (by decide) ⟨q1, q2, q4, q5, q7, q8, q10, q11, rfl, rfl⟩
theorem dX0_init_0 : decode cX0_init 0 = .ok (.aload_n 0, 1) := by decide +kernel
theorem dX0_init_1 : decode cX0_init 1 = .ok (.invokespecial 1, 3) := by decide +kernel
theorem dX0_init_4 : decode cX0_init 4 = .ok (.aload_n 0, 1) := by decide +kernel
theorem dX0_init_5 : decode cX0_init 5 = .ok (.bipush 8, 2) := by decide +kernel
theorem dX0_init_7 : decode cX0_init 7 = .ok (.newarray .int, 2) := by decide +kernel
theorem dX0_init_9 : decode cX0_init 9 = .ok (.putfield 7, 3) := by decide +kernel
theorem dX0_init_12 : decode cX0_init 12 = .ok (.aload_n 0, 1) := by decide +kernel
theorem dX0_init_13 : decode cX0_init 13 = .ok (.bipush 64, 2) := by decide +kernel
theorem dX0_init_15 : decode cX0_init 15 = .ok (.newarray .int, 2) := by decide +kernel
theorem dX0_init_17 : decode cX0_init 17 = .ok (.putfield 13, 3) := by decide +kernel
theorem dX0_init_20 : decode cX0_init 20 = .ok (.aload_n 0, 1) := by decide +kernel
theorem dX0_init_21 : decode cX0_init 21 = .ok (.bipush 64, 2) := by decide +kernel
theorem dX0_init_23 : decode cX0_init 23 = .ok (.newarray .byte, 2) := by decide +kernel
theorem dX0_init_25 : decode cX0_init 25 = .ok (.putfield 16, 3) := by decide +kernel
theorem dX0_init_28 : decode cX0_init 28 = .ok (.return_, 1) := by decide +kernel
set_option maxHeartbeats 4000000 in
set_option maxRecDepth 100000 in
theorem c_DG_new (l : Launch) (D : va_G) (a0 : Nat)   : vM l D yX0_init cX0_init 1 none { frames := 1, cells := 3, slots := 136, locals := 24 } [.ref a0] [(a0, .inr (0, [.null, .null, .null, .int (nI 0), .long (lN 0)]))] (fun r wo => ∃ (q1 : Nat) (q2 : Nat) (q3 : Nat), r = none ∧ wo = [(a0, .inr (0, [.ref q1, .ref q2, .ref q3, .int (nI 0), .long (lN 0)])), (q1, aW D 8 (fun _ => 0#32)), (q2, aW D 64 (fun _ => 0#32)), (q3, aB D 64 (fun _ => 0#8))]) := by
  refine vM.ofI (by decide) (Nat.le_of_ble_eq_true rfl) (fun C hCl hCD hme g R => ?_)
  subst hCl; subst hCD
  show VJ C 0 0 0 [(0, .ref a0)] [] [(a0, .inr (0, [.null, .null, .null, .int (nI 0), .long (lN 0)]))]
  refine v_aload_n g dX0_init_0 0 rfl 0 rfl ?_
  refine v_objI g (List.mem_of_getElem? (i := 101) (by decide +kernel)) (by decide) (by decide) dX0_init_1 ?_
  refine v_aload_n g dX0_init_4 0 rfl 0 rfl ?_
  refine v_bipush g dX0_init_5 (v := nI 8) (by decide +kernel) ?_
  refine v_newW g (by decide) (by decide) (by decide) dX0_init_7 (fun q1 => ?_)
  show VJ C 1 8 9 [(0, .ref a0)] [.ref q1, .ref a0] [(a0, .inr (0, [.null, .null, .null, .int (nI 0), .long (lN 0)])), (q1, aW C.D 8 (fun _ => 0#32))]
  refine v_putF layX0 tyX0 tyX0_ok nmX0 rfl 0 (by decide) fl_X0_7 rfl rfl rfl (tyX0_ok 0 (by decide)) rfl rfl hme g dX0_init_9 0 [(a0, .inr (0, [.ref q1, .null, .null, .int (nI 0), .long (lN 0)])), (q1, aW C.D 8 (fun _ => 0#32))] rfl (Nat.le_of_ble_eq_true rfl) rfl ?_
  refine v_aload_n g dX0_init_12 0 rfl 0 rfl ?_
  refine v_bipush g dX0_init_13 (v := nI 64) (by decide +kernel) ?_
  refine v_newW g (by decide) (by decide) (by decide) dX0_init_15 (fun q2 => ?_)
  show VJ C 2 72 17 [(0, .ref a0)] [.ref q2, .ref a0] [(a0, .inr (0, [.ref q1, .null, .null, .int (nI 0), .long (lN 0)])), (q1, aW C.D 8 (fun _ => 0#32)), (q2, aW C.D 64 (fun _ => 0#32))]
  refine v_putF layX0 tyX0 tyX0_ok nmX0 rfl 1 (by decide) fl_X0_13 rfl rfl rfl (tyX0_ok 1 (by decide)) rfl rfl hme g dX0_init_17 0 [(a0, .inr (0, [.ref q1, .ref q2, .null, .int (nI 0), .long (lN 0)])), (q1, aW C.D 8 (fun _ => 0#32)), (q2, aW C.D 64 (fun _ => 0#32))] rfl (Nat.le_of_ble_eq_true rfl) rfl ?_
  refine v_aload_n g dX0_init_20 0 rfl 0 rfl ?_
  refine v_bipush g dX0_init_21 (v := nI 64) (by decide +kernel) ?_
  refine v_newB g (by decide) (by decide) (by decide) dX0_init_23 (fun q3 => ?_)
  show VJ C 3 136 25 [(0, .ref a0)] [.ref q3, .ref a0] [(a0, .inr (0, [.ref q1, .ref q2, .null, .int (nI 0), .long (lN 0)])), (q1, aW C.D 8 (fun _ => 0#32)), (q2, aW C.D 64 (fun _ => 0#32)), (q3, aB C.D 64 (fun _ => 0#8))]
  refine v_putF layX0 tyX0 tyX0_ok nmX0 rfl 2 (by decide) fl_X0_16 rfl rfl rfl (tyX0_ok 2 (by decide)) rfl rfl hme g dX0_init_25 0 [(a0, .inr (0, [.ref q1, .ref q2, .ref q3, .int (nI 0), .long (lN 0)])), (q1, aW C.D 8 (fun _ => 0#32)), (q2, aW C.D 64 (fun _ => 0#32)), (q3, aB C.D 64 (fun _ => 0#8))] rfl (Nat.le_of_ble_eq_true rfl) rfl ?_
  exact v_ret g R dX0_init_28 (by decide) (by decide) ⟨q1, q2, q3, rfl, rfl⟩
theorem dX2_init_0 : decode cX2_init 0 = .ok (.aload_n 0, 1) := by decide +kernel
theorem dX2_init_1 : decode cX2_init 1 = .ok (.invokespecial 3, 3) := by decide +kernel
theorem dX2_init_4 : decode cX2_init 4 = .ok (.aload_n 0, 1) := by decide +kernel
theorem dX2_init_5 : decode cX2_init 5 = .ok (.bipush 64, 2) := by decide +kernel
theorem dX2_init_7 : decode cX2_init 7 = .ok (.newarray .byte, 2) := by decide +kernel
theorem dX2_init_9 : decode cX2_init 9 = .ok (.putfield 11, 3) := by decide +kernel
theorem dX2_init_12 : decode cX2_init 12 = .ok (.aload_n 0, 1) := by decide +kernel
theorem dX2_init_13 : decode cX2_init 13 = .ok (.bipush 32, 2) := by decide +kernel
theorem dX2_init_15 : decode cX2_init 15 = .ok (.newarray .byte, 2) := by decide +kernel
theorem dX2_init_17 : decode cX2_init 17 = .ok (.putfield 17, 3) := by decide +kernel
theorem dX2_init_20 : decode cX2_init 20 = .ok (.aload_n 0, 1) := by decide +kernel
theorem dX2_init_21 : decode cX2_init 21 = .ok (.bipush 32, 2) := by decide +kernel
theorem dX2_init_23 : decode cX2_init 23 = .ok (.newarray .byte, 2) := by decide +kernel
theorem dX2_init_25 : decode cX2_init 25 = .ok (.putfield 20, 3) := by decide +kernel
theorem dX2_init_28 : decode cX2_init 28 = .ok (.aload_n 0, 1) := by decide +kernel
theorem dX2_init_29 : decode cX2_init 29 = .ok (.iconst 1, 1) := by decide +kernel
theorem dX2_init_30 : decode cX2_init 30 = .ok (.newarray .byte, 2) := by decide +kernel
theorem dX2_init_32 : decode cX2_init 32 = .ok (.putfield 23, 3) := by decide +kernel
theorem dX2_init_35 : decode cX2_init 35 = .ok (.aload_n 0, 1) := by decide +kernel
theorem dX2_init_36 : decode cX2_init 36 = .ok (.new 26, 3) := by decide +kernel
theorem dX2_init_39 : decode cX2_init 39 = .ok (.dup, 1) := by decide +kernel
theorem dX2_init_40 : decode cX2_init 40 = .ok (.sipush 269, 3) := by decide +kernel
theorem dX2_init_43 : decode cX2_init 43 = .ok (.invokespecial 28, 3) := by decide +kernel
theorem dX2_init_46 : decode cX2_init 46 = .ok (.putfield 31, 3) := by decide +kernel
theorem dX2_init_49 : decode cX2_init 49 = .ok (.aload_n 0, 1) := by decide +kernel
theorem dX2_init_50 : decode cX2_init 50 = .ok (.aload_n 1, 1) := by decide +kernel
theorem dX2_init_51 : decode cX2_init 51 = .ok (.putfield 35, 3) := by decide +kernel
theorem dX2_init_54 : decode cX2_init 54 = .ok (.return_, 1) := by decide +kernel
set_option maxHeartbeats 4000000 in
set_option maxRecDepth 100000 in
theorem c_KM_new (l : Launch) (D : va_G) (a0 : Nat) (a1 : Nat)   : vM l D yX2_init cX2_init 2 none { frames := 2, cells := 6, slots := 400, locals := 45 } [.ref a0, .ref a1] [(a0, .inr (2, [.null, .null, .null, .null, .null, .null]))] (fun r wo => ∃ (q1 : Nat) (q2 : Nat) (q3 : Nat) (q4 : Nat) (q5 : Nat) (q6 : Nat), r = none ∧ wo = [(a0, .inr (2, [.ref a1, .ref q1, .ref q2, .ref q3, .ref q4, .ref q5])), (q1, aB D 64 (fun _ => 0#8)), (q2, aB D 32 (fun _ => 0#8)), (q3, aB D 32 (fun _ => 0#8)), (q4, aB D 1 (fun _ => 0#8)), (q5, .inr (4, [.ref q6, .int (nI 0)])), (q6, aB D 269 (fun _ => 0#8))]) := by
  refine vM.ofI (by decide) (Nat.le_of_ble_eq_true rfl) (fun C hCl hCD hme g R => ?_)
  subst hCl; subst hCD
  show VJ C 0 0 0 [(0, .ref a0), (1, .ref a1)] [] [(a0, .inr (2, [.null, .null, .null, .null, .null, .null]))]
  refine v_aload_n g dX2_init_0 0 rfl 0 rfl ?_
  refine v_objI g (List.mem_of_getElem? (i := 124) (by decide +kernel)) (by decide) (by decide) dX2_init_1 ?_
  refine v_aload_n g dX2_init_4 0 rfl 0 rfl ?_
  refine v_bipush g dX2_init_5 (v := nI 64) (by decide +kernel) ?_
  refine v_newB g (by decide) (by decide) (by decide) dX2_init_7 (fun q1 => ?_)
  show VJ C 1 64 9 [(0, .ref a0), (1, .ref a1)] [.ref q1, .ref a0] [(a0, .inr (2, [.null, .null, .null, .null, .null, .null])), (q1, aB C.D 64 (fun _ => 0#8))]
  refine v_putF layX2 tyX2 tyX2_ok nmX2 rfl 1 (by decide) fl_X2_11 rfl rfl rfl (tyX2_ok 1 (by decide)) rfl rfl hme g dX2_init_9 0 [(a0, .inr (2, [.null, .ref q1, .null, .null, .null, .null])), (q1, aB C.D 64 (fun _ => 0#8))] rfl (Nat.le_of_ble_eq_true rfl) rfl ?_
  refine v_aload_n g dX2_init_12 0 rfl 0 rfl ?_
  refine v_bipush g dX2_init_13 (v := nI 32) (by decide +kernel) ?_
  refine v_newB g (by decide) (by decide) (by decide) dX2_init_15 (fun q2 => ?_)
  show VJ C 2 96 17 [(0, .ref a0), (1, .ref a1)] [.ref q2, .ref a0] [(a0, .inr (2, [.null, .ref q1, .null, .null, .null, .null])), (q1, aB C.D 64 (fun _ => 0#8)), (q2, aB C.D 32 (fun _ => 0#8))]
  refine v_putF layX2 tyX2 tyX2_ok nmX2 rfl 2 (by decide) fl_X2_17 rfl rfl rfl (tyX2_ok 2 (by decide)) rfl rfl hme g dX2_init_17 0 [(a0, .inr (2, [.null, .ref q1, .ref q2, .null, .null, .null])), (q1, aB C.D 64 (fun _ => 0#8)), (q2, aB C.D 32 (fun _ => 0#8))] rfl (Nat.le_of_ble_eq_true rfl) rfl ?_
  refine v_aload_n g dX2_init_20 0 rfl 0 rfl ?_
  refine v_bipush g dX2_init_21 (v := nI 32) (by decide +kernel) ?_
  refine v_newB g (by decide) (by decide) (by decide) dX2_init_23 (fun q3 => ?_)
  show VJ C 3 128 25 [(0, .ref a0), (1, .ref a1)] [.ref q3, .ref a0] [(a0, .inr (2, [.null, .ref q1, .ref q2, .null, .null, .null])), (q1, aB C.D 64 (fun _ => 0#8)), (q2, aB C.D 32 (fun _ => 0#8)), (q3, aB C.D 32 (fun _ => 0#8))]
  refine v_putF layX2 tyX2 tyX2_ok nmX2 rfl 3 (by decide) fl_X2_20 rfl rfl rfl (tyX2_ok 3 (by decide)) rfl rfl hme g dX2_init_25 0 [(a0, .inr (2, [.null, .ref q1, .ref q2, .ref q3, .null, .null])), (q1, aB C.D 64 (fun _ => 0#8)), (q2, aB C.D 32 (fun _ => 0#8)), (q3, aB C.D 32 (fun _ => 0#8))] rfl (Nat.le_of_ble_eq_true rfl) rfl ?_
  refine v_aload_n g dX2_init_28 0 rfl 0 rfl ?_
  refine v_iconst g dX2_init_29 (v := nI 1) (by decide +kernel) ?_
  refine v_newB g (by decide) (by decide) (by decide) dX2_init_30 (fun q4 => ?_)
  show VJ C 4 129 32 [(0, .ref a0), (1, .ref a1)] [.ref q4, .ref a0] [(a0, .inr (2, [.null, .ref q1, .ref q2, .ref q3, .null, .null])), (q1, aB C.D 64 (fun _ => 0#8)), (q2, aB C.D 32 (fun _ => 0#8)), (q3, aB C.D 32 (fun _ => 0#8)), (q4, aB C.D 1 (fun _ => 0#8))]
  refine v_putF layX2 tyX2 tyX2_ok nmX2 rfl 4 (by decide) fl_X2_23 rfl rfl rfl (tyX2_ok 4 (by decide)) rfl rfl hme g dX2_init_32 0 [(a0, .inr (2, [.null, .ref q1, .ref q2, .ref q3, .ref q4, .null])), (q1, aB C.D 64 (fun _ => 0#8)), (q2, aB C.D 32 (fun _ => 0#8)), (q3, aB C.D 32 (fun _ => 0#8)), (q4, aB C.D 1 (fun _ => 0#8))] rfl (Nat.le_of_ble_eq_true rfl) rfl ?_
  refine v_aload_n g dX2_init_35 0 rfl 0 rfl ?_
  refine v_new (ci := 4) [.null, .int (nI 0)] layX4 tyX4 tyX4_ok rfl (List.mem_of_getElem? (i := 125) (by decide +kernel)) (List.mem_of_getElem? (i := 74) (by decide +kernel)) (List.mem_of_getElem? (i := 44) (by decide +kernel)) df_X4 g (by decide) (by decide) dX2_init_36 (fun q5 => ?_)
  show VJ C 5 131 39 [(0, .ref a0), (1, .ref a1)] [.ref q5, .ref a0] [(a0, .inr (2, [.null, .ref q1, .ref q2, .ref q3, .ref q4, .null])), (q1, aB C.D 64 (fun _ => 0#8)), (q2, aB C.D 32 (fun _ => 0#8)), (q3, aB C.D 32 (fun _ => 0#8)), (q4, aB C.D 1 (fun _ => 0#8)), (q5, .inr (4, [.null, .int (nI 0)]))]
  refine v_dup g dX2_init_39 rfl ?_
  refine v_sipush g dX2_init_40 (v := nI 269) (by decide +kernel) ?_
  refine v_callI (As := [.int (nI 269)]) (rest := [.ref q5, .ref a0]) (wr := [(a0, .inr (2, [.null, .ref q1, .ref q2, .ref q3, .ref q4, .null])), (q1, aB C.D 64 (fun _ => 0#8)), (q2, aB C.D 32 (fun _ => 0#8)), (q3, aB C.D 32 (fun _ => 0#8)), (q4, aB C.D 1 (fun _ => 0#8))]) cw_X2_28 rfl (hy_X4_init) g (c_RW_new269 C.l C.D q5 ) dX2_init_43 rfl (by decide) (by decide) (Nat.le_of_ble_eq_true rfl) [5] [0, 1, 2, 3, 4] rfl rfl (by decide) rfl (by decide) (by decide) _ rfl (fun r wo hp7 => ?_)
  obtain ⟨q6, rfl, rfl⟩ := hp7
  show VJ C 6 400 46 [(0, .ref a0), (1, .ref a1)] [.ref q5, .ref a0] [(a0, .inr (2, [.null, .ref q1, .ref q2, .ref q3, .ref q4, .null])), (q1, aB C.D 64 (fun _ => 0#8)), (q2, aB C.D 32 (fun _ => 0#8)), (q3, aB C.D 32 (fun _ => 0#8)), (q4, aB C.D 1 (fun _ => 0#8)), (q5, .inr (4, [.ref q6, .int (nI 0)])), (q6, aB C.D 269 (fun _ => 0#8))]
  refine v_putF layX2 tyX2 tyX2_ok nmX2 rfl 5 (by decide) fl_X2_31 rfl rfl rfl (tyX2_ok 5 (by decide)) rfl rfl hme g dX2_init_46 0 [(a0, .inr (2, [.null, .ref q1, .ref q2, .ref q3, .ref q4, .ref q5])), (q1, aB C.D 64 (fun _ => 0#8)), (q2, aB C.D 32 (fun _ => 0#8)), (q3, aB C.D 32 (fun _ => 0#8)), (q4, aB C.D 1 (fun _ => 0#8)), (q5, .inr (4, [.ref q6, .int (nI 0)])), (q6, aB C.D 269 (fun _ => 0#8))] rfl (Nat.le_of_ble_eq_true rfl) rfl ?_
  refine v_aload_n g dX2_init_49 0 rfl 0 rfl ?_
  refine v_aload_n g dX2_init_50 1 rfl 1 rfl ?_
  refine v_putF layX2 tyX2 tyX2_ok nmX2 rfl 0 (by decide) fl_X2_35 rfl rfl rfl (tyX2_ok 0 (by decide)) rfl rfl hme g dX2_init_51 0 [(a0, .inr (2, [.ref a1, .ref q1, .ref q2, .ref q3, .ref q4, .ref q5])), (q1, aB C.D 64 (fun _ => 0#8)), (q2, aB C.D 32 (fun _ => 0#8)), (q3, aB C.D 32 (fun _ => 0#8)), (q4, aB C.D 1 (fun _ => 0#8)), (q5, .inr (4, [.ref q6, .int (nI 0)])), (q6, aB C.D 269 (fun _ => 0#8))] rfl (Nat.le_of_ble_eq_true rfl) rfl ?_
  exact v_ret g R dX2_init_54 (by decide) (by decide) ⟨q1, q2, q3, q4, q5, q6, rfl, rfl⟩
theorem dX3_init_0 : decode cX3_init 0 = .ok (.aload_n 0, 1) := by decide +kernel
theorem dX3_init_1 : decode cX3_init 1 = .ok (.invokespecial 1, 3) := by decide +kernel
theorem dX3_init_4 : decode cX3_init 4 = .ok (.aload_n 0, 1) := by decide +kernel
theorem dX3_init_5 : decode cX3_init 5 = .ok (.bipush 16, 2) := by decide +kernel
theorem dX3_init_7 : decode cX3_init 7 = .ok (.newarray .int, 2) := by decide +kernel
theorem dX3_init_9 : decode cX3_init 9 = .ok (.putfield 7, 3) := by decide +kernel
theorem dX3_init_12 : decode cX3_init 12 = .ok (.aload_n 0, 1) := by decide +kernel
theorem dX3_init_13 : decode cX3_init 13 = .ok (.bipush 16, 2) := by decide +kernel
theorem dX3_init_15 : decode cX3_init 15 = .ok (.newarray .int, 2) := by decide +kernel
theorem dX3_init_17 : decode cX3_init 17 = .ok (.putfield 13, 3) := by decide +kernel
theorem dX3_init_20 : decode cX3_init 20 = .ok (.aload_n 0, 1) := by decide +kernel
theorem dX3_init_21 : decode cX3_init 21 = .ok (.bipush 64, 2) := by decide +kernel
theorem dX3_init_23 : decode cX3_init 23 = .ok (.newarray .byte, 2) := by decide +kernel
theorem dX3_init_25 : decode cX3_init 25 = .ok (.putfield 16, 3) := by decide +kernel
theorem dX3_init_28 : decode cX3_init 28 = .ok (.return_, 1) := by decide +kernel
set_option maxHeartbeats 4000000 in
set_option maxRecDepth 100000 in
theorem c_KS_new (l : Launch) (D : va_G) (a0 : Nat)   : vM l D yX3_init cX3_init 1 none { frames := 1, cells := 3, slots := 96, locals := 24 } [.ref a0] [(a0, .inr (3, [.null, .null, .null]))] (fun r wo => ∃ (q1 : Nat) (q2 : Nat) (q3 : Nat), r = none ∧ wo = [(a0, .inr (3, [.ref q1, .ref q2, .ref q3])), (q1, aW D 16 (fun _ => 0#32)), (q2, aW D 16 (fun _ => 0#32)), (q3, aB D 64 (fun _ => 0#8))]) := by
  refine vM.ofI (by decide) (Nat.le_of_ble_eq_true rfl) (fun C hCl hCD hme g R => ?_)
  subst hCl; subst hCD
  show VJ C 0 0 0 [(0, .ref a0)] [] [(a0, .inr (3, [.null, .null, .null]))]
  refine v_aload_n g dX3_init_0 0 rfl 0 rfl ?_
  refine v_objI g (List.mem_of_getElem? (i := 151) (by decide +kernel)) (by decide) (by decide) dX3_init_1 ?_
  refine v_aload_n g dX3_init_4 0 rfl 0 rfl ?_
  refine v_bipush g dX3_init_5 (v := nI 16) (by decide +kernel) ?_
  refine v_newW g (by decide) (by decide) (by decide) dX3_init_7 (fun q1 => ?_)
  show VJ C 1 16 9 [(0, .ref a0)] [.ref q1, .ref a0] [(a0, .inr (3, [.null, .null, .null])), (q1, aW C.D 16 (fun _ => 0#32))]
  refine v_putF layX3 tyX3 tyX3_ok nmX3 rfl 0 (by decide) fl_X3_7 rfl rfl rfl (tyX3_ok 0 (by decide)) rfl rfl hme g dX3_init_9 0 [(a0, .inr (3, [.ref q1, .null, .null])), (q1, aW C.D 16 (fun _ => 0#32))] rfl (Nat.le_of_ble_eq_true rfl) rfl ?_
  refine v_aload_n g dX3_init_12 0 rfl 0 rfl ?_
  refine v_bipush g dX3_init_13 (v := nI 16) (by decide +kernel) ?_
  refine v_newW g (by decide) (by decide) (by decide) dX3_init_15 (fun q2 => ?_)
  show VJ C 2 32 17 [(0, .ref a0)] [.ref q2, .ref a0] [(a0, .inr (3, [.ref q1, .null, .null])), (q1, aW C.D 16 (fun _ => 0#32)), (q2, aW C.D 16 (fun _ => 0#32))]
  refine v_putF layX3 tyX3 tyX3_ok nmX3 rfl 1 (by decide) fl_X3_13 rfl rfl rfl (tyX3_ok 1 (by decide)) rfl rfl hme g dX3_init_17 0 [(a0, .inr (3, [.ref q1, .ref q2, .null])), (q1, aW C.D 16 (fun _ => 0#32)), (q2, aW C.D 16 (fun _ => 0#32))] rfl (Nat.le_of_ble_eq_true rfl) rfl ?_
  refine v_aload_n g dX3_init_20 0 rfl 0 rfl ?_
  refine v_bipush g dX3_init_21 (v := nI 64) (by decide +kernel) ?_
  refine v_newB g (by decide) (by decide) (by decide) dX3_init_23 (fun q3 => ?_)
  show VJ C 3 96 25 [(0, .ref a0)] [.ref q3, .ref a0] [(a0, .inr (3, [.ref q1, .ref q2, .null])), (q1, aW C.D 16 (fun _ => 0#32)), (q2, aW C.D 16 (fun _ => 0#32)), (q3, aB C.D 64 (fun _ => 0#8))]
  refine v_putF layX3 tyX3 tyX3_ok nmX3 rfl 2 (by decide) fl_X3_16 rfl rfl rfl (tyX3_ok 2 (by decide)) rfl rfl hme g dX3_init_25 0 [(a0, .inr (3, [.ref q1, .ref q2, .ref q3])), (q1, aW C.D 16 (fun _ => 0#32)), (q2, aW C.D 16 (fun _ => 0#32)), (q3, aB C.D 64 (fun _ => 0#8))] rfl (Nat.le_of_ble_eq_true rfl) rfl ?_
  exact v_ret g R dX3_init_28 (by decide) (by decide) ⟨q1, q2, q3, rfl, rfl⟩
theorem dX6_init_0 : decode cX6_init 0 = .ok (.aload_n 0, 1) := by decide +kernel
theorem dX6_init_1 : decode cX6_init 1 = .ok (.invokespecial 5, 3) := by decide +kernel
theorem dX6_init_4 : decode cX6_init 4 = .ok (.aload_n 0, 1) := by decide +kernel
theorem dX6_init_5 : decode cX6_init 5 = .ok (.iconst 5, 1) := by decide +kernel
theorem dX6_init_6 : decode cX6_init 6 = .ok (.newarray .long, 2) := by decide +kernel
theorem dX6_init_8 : decode cX6_init 8 = .ok (.putfield 11, 3) := by decide +kernel
theorem dX6_init_11 : decode cX6_init 11 = .ok (.aload_n 0, 1) := by decide +kernel
theorem dX6_init_12 : decode cX6_init 12 = .ok (.iconst 5, 1) := by decide +kernel
theorem dX6_init_13 : decode cX6_init 13 = .ok (.newarray .long, 2) := by decide +kernel
theorem dX6_init_15 : decode cX6_init 15 = .ok (.putfield 15, 3) := by decide +kernel
theorem dX6_init_18 : decode cX6_init 18 = .ok (.aload_n 0, 1) := by decide +kernel
theorem dX6_init_19 : decode cX6_init 19 = .ok (.iconst 5, 1) := by decide +kernel
theorem dX6_init_20 : decode cX6_init 20 = .ok (.newarray .long, 2) := by decide +kernel
theorem dX6_init_22 : decode cX6_init 22 = .ok (.putfield 18, 3) := by decide +kernel
theorem dX6_init_25 : decode cX6_init 25 = .ok (.aload_n 0, 1) := by decide +kernel
theorem dX6_init_26 : decode cX6_init 26 = .ok (.iconst 4, 1) := by decide +kernel
theorem dX6_init_27 : decode cX6_init 27 = .ok (.newarray .long, 2) := by decide +kernel
theorem dX6_init_29 : decode cX6_init 29 = .ok (.putfield 21, 3) := by decide +kernel
theorem dX6_init_32 : decode cX6_init 32 = .ok (.aload_n 0, 1) := by decide +kernel
theorem dX6_init_33 : decode cX6_init 33 = .ok (.bipush 17, 2) := by decide +kernel
theorem dX6_init_35 : decode cX6_init 35 = .ok (.newarray .byte, 2) := by decide +kernel
theorem dX6_init_37 : decode cX6_init 37 = .ok (.putfield 24, 3) := by decide +kernel
theorem dX6_init_40 : decode cX6_init 40 = .ok (.return_, 1) := by decide +kernel
set_option maxHeartbeats 4000000 in
set_option maxRecDepth 100000 in
theorem c_TL_new (l : Launch) (D : va_G) (a0 : Nat)   : vM l D yX6_init cX6_init 1 none { frames := 1, cells := 5, slots := 36, locals := 24 } [.ref a0] [(a0, .inr (6, [.null, .null, .null, .null, .null]))] (fun r wo => ∃ (q1 : Nat) (q2 : Nat) (q3 : Nat) (q4 : Nat) (q5 : Nat), r = none ∧ wo = [(a0, .inr (6, [.ref q1, .ref q2, .ref q3, .ref q4, .ref q5])), (q1, aL D 5 (fun _ => 0)), (q2, aL D 5 (fun _ => 0)), (q3, aL D 5 (fun _ => 0)), (q4, aL D 4 (fun _ => 0)), (q5, aB D 17 (fun _ => 0#8))]) := by
  refine vM.ofI (by decide) (Nat.le_of_ble_eq_true rfl) (fun C hCl hCD hme g R => ?_)
  subst hCl; subst hCD
  show VJ C 0 0 0 [(0, .ref a0)] [] [(a0, .inr (6, [.null, .null, .null, .null, .null]))]
  refine v_aload_n g dX6_init_0 0 rfl 0 rfl ?_
  refine v_objI g (List.mem_of_getElem? (i := 169) (by decide +kernel)) (by decide) (by decide) dX6_init_1 ?_
  refine v_aload_n g dX6_init_4 0 rfl 0 rfl ?_
  refine v_iconst g dX6_init_5 (v := nI 5) (by decide +kernel) ?_
  refine v_newL g (by decide) (by decide) (by decide) dX6_init_6 (fun q1 => ?_)
  show VJ C 1 5 8 [(0, .ref a0)] [.ref q1, .ref a0] [(a0, .inr (6, [.null, .null, .null, .null, .null])), (q1, aL C.D 5 (fun _ => 0))]
  refine v_putF layX6 tyX6 tyX6_ok nmX6 rfl 0 (by decide) fl_X6_11 rfl rfl rfl (tyX6_ok 0 (by decide)) rfl rfl hme g dX6_init_8 0 [(a0, .inr (6, [.ref q1, .null, .null, .null, .null])), (q1, aL C.D 5 (fun _ => 0))] rfl (Nat.le_of_ble_eq_true rfl) rfl ?_
  refine v_aload_n g dX6_init_11 0 rfl 0 rfl ?_
  refine v_iconst g dX6_init_12 (v := nI 5) (by decide +kernel) ?_
  refine v_newL g (by decide) (by decide) (by decide) dX6_init_13 (fun q2 => ?_)
  show VJ C 2 10 15 [(0, .ref a0)] [.ref q2, .ref a0] [(a0, .inr (6, [.ref q1, .null, .null, .null, .null])), (q1, aL C.D 5 (fun _ => 0)), (q2, aL C.D 5 (fun _ => 0))]
  refine v_putF layX6 tyX6 tyX6_ok nmX6 rfl 1 (by decide) fl_X6_15 rfl rfl rfl (tyX6_ok 1 (by decide)) rfl rfl hme g dX6_init_15 0 [(a0, .inr (6, [.ref q1, .ref q2, .null, .null, .null])), (q1, aL C.D 5 (fun _ => 0)), (q2, aL C.D 5 (fun _ => 0))] rfl (Nat.le_of_ble_eq_true rfl) rfl ?_
  refine v_aload_n g dX6_init_18 0 rfl 0 rfl ?_
  refine v_iconst g dX6_init_19 (v := nI 5) (by decide +kernel) ?_
  refine v_newL g (by decide) (by decide) (by decide) dX6_init_20 (fun q3 => ?_)
  show VJ C 3 15 22 [(0, .ref a0)] [.ref q3, .ref a0] [(a0, .inr (6, [.ref q1, .ref q2, .null, .null, .null])), (q1, aL C.D 5 (fun _ => 0)), (q2, aL C.D 5 (fun _ => 0)), (q3, aL C.D 5 (fun _ => 0))]
  refine v_putF layX6 tyX6 tyX6_ok nmX6 rfl 2 (by decide) fl_X6_18 rfl rfl rfl (tyX6_ok 2 (by decide)) rfl rfl hme g dX6_init_22 0 [(a0, .inr (6, [.ref q1, .ref q2, .ref q3, .null, .null])), (q1, aL C.D 5 (fun _ => 0)), (q2, aL C.D 5 (fun _ => 0)), (q3, aL C.D 5 (fun _ => 0))] rfl (Nat.le_of_ble_eq_true rfl) rfl ?_
  refine v_aload_n g dX6_init_25 0 rfl 0 rfl ?_
  refine v_iconst g dX6_init_26 (v := nI 4) (by decide +kernel) ?_
  refine v_newL g (by decide) (by decide) (by decide) dX6_init_27 (fun q4 => ?_)
  show VJ C 4 19 29 [(0, .ref a0)] [.ref q4, .ref a0] [(a0, .inr (6, [.ref q1, .ref q2, .ref q3, .null, .null])), (q1, aL C.D 5 (fun _ => 0)), (q2, aL C.D 5 (fun _ => 0)), (q3, aL C.D 5 (fun _ => 0)), (q4, aL C.D 4 (fun _ => 0))]
  refine v_putF layX6 tyX6 tyX6_ok nmX6 rfl 3 (by decide) fl_X6_21 rfl rfl rfl (tyX6_ok 3 (by decide)) rfl rfl hme g dX6_init_29 0 [(a0, .inr (6, [.ref q1, .ref q2, .ref q3, .ref q4, .null])), (q1, aL C.D 5 (fun _ => 0)), (q2, aL C.D 5 (fun _ => 0)), (q3, aL C.D 5 (fun _ => 0)), (q4, aL C.D 4 (fun _ => 0))] rfl (Nat.le_of_ble_eq_true rfl) rfl ?_
  refine v_aload_n g dX6_init_32 0 rfl 0 rfl ?_
  refine v_bipush g dX6_init_33 (v := nI 17) (by decide +kernel) ?_
  refine v_newB g (by decide) (by decide) (by decide) dX6_init_35 (fun q5 => ?_)
  show VJ C 5 36 37 [(0, .ref a0)] [.ref q5, .ref a0] [(a0, .inr (6, [.ref q1, .ref q2, .ref q3, .ref q4, .null])), (q1, aL C.D 5 (fun _ => 0)), (q2, aL C.D 5 (fun _ => 0)), (q3, aL C.D 5 (fun _ => 0)), (q4, aL C.D 4 (fun _ => 0)), (q5, aB C.D 17 (fun _ => 0#8))]
  refine v_putF layX6 tyX6 tyX6_ok nmX6 rfl 4 (by decide) fl_X6_24 rfl rfl rfl (tyX6_ok 4 (by decide)) rfl rfl hme g dX6_init_37 0 [(a0, .inr (6, [.ref q1, .ref q2, .ref q3, .ref q4, .ref q5])), (q1, aL C.D 5 (fun _ => 0)), (q2, aL C.D 5 (fun _ => 0)), (q3, aL C.D 5 (fun _ => 0)), (q4, aL C.D 4 (fun _ => 0)), (q5, aB C.D 17 (fun _ => 0#8))] rfl (Nat.le_of_ble_eq_true rfl) rfl ?_
  exact v_ret g R dX6_init_40 (by decide) (by decide) ⟨q1, q2, q3, q4, q5, rfl, rfl⟩
theorem dX5_init_0 : decode cX5_init 0 = .ok (.aload_n 0, 1) := by decide +kernel
theorem dX5_init_1 : decode cX5_init 1 = .ok (.invokespecial 3, 3) := by decide +kernel
theorem dX5_init_4 : decode cX5_init 4 = .ok (.aload_n 0, 1) := by decide +kernel
theorem dX5_init_5 : decode cX5_init 5 = .ok (.bipush 12, 2) := by decide +kernel
theorem dX5_init_7 : decode cX5_init 7 = .ok (.newarray .byte, 2) := by decide +kernel
theorem dX5_init_9 : decode cX5_init 9 = .ok (.putfield 9, 3) := by decide +kernel
theorem dX5_init_12 : decode cX5_init 12 = .ok (.aload_n 0, 1) := by decide +kernel
theorem dX5_init_13 : decode cX5_init 13 = .ok (.bipush 16, 2) := by decide +kernel
theorem dX5_init_15 : decode cX5_init 15 = .ok (.newarray .byte, 2) := by decide +kernel
theorem dX5_init_17 : decode cX5_init 17 = .ok (.putfield 15, 3) := by decide +kernel
theorem dX5_init_20 : decode cX5_init 20 = .ok (.aload_n 0, 1) := by decide +kernel
theorem dX5_init_21 : decode cX5_init 21 = .ok (.bipush 16, 2) := by decide +kernel
theorem dX5_init_23 : decode cX5_init 23 = .ok (.newarray .byte, 2) := by decide +kernel
theorem dX5_init_25 : decode cX5_init 25 = .ok (.putfield 18, 3) := by decide +kernel
theorem dX5_init_28 : decode cX5_init 28 = .ok (.aload_n 0, 1) := by decide +kernel
theorem dX5_init_29 : decode cX5_init 29 = .ok (.aload_n 1, 1) := by decide +kernel
theorem dX5_init_30 : decode cX5_init 30 = .ok (.putfield 21, 3) := by decide +kernel
theorem dX5_init_33 : decode cX5_init 33 = .ok (.aload_n 0, 1) := by decide +kernel
theorem dX5_init_34 : decode cX5_init 34 = .ok (.aload_n 2, 1) := by decide +kernel
theorem dX5_init_35 : decode cX5_init 35 = .ok (.putfield 25, 3) := by decide +kernel
theorem dX5_init_38 : decode cX5_init 38 = .ok (.return_, 1) := by decide +kernel
set_option maxHeartbeats 4000000 in
set_option maxRecDepth 100000 in
theorem c_SL_new (l : Launch) (D : va_G) (a0 : Nat) (a1 : Nat) (a2 : Nat)   : vM l D yX5_init cX5_init 3 none { frames := 1, cells := 3, slots := 44, locals := 24 } [.ref a0, .ref a1, .ref a2] [(a0, .inr (5, [.null, .null, .null, .null, .null]))] (fun r wo => ∃ (q1 : Nat) (q2 : Nat) (q3 : Nat), r = none ∧ wo = [(a0, .inr (5, [.ref a1, .ref a2, .ref q1, .ref q2, .ref q3])), (q1, aB D 12 (fun _ => 0#8)), (q2, aB D 16 (fun _ => 0#8)), (q3, aB D 16 (fun _ => 0#8))]) := by
  refine vM.ofI (by decide) (Nat.le_of_ble_eq_true rfl) (fun C hCl hCD hme g R => ?_)
  subst hCl; subst hCD
  show VJ C 0 0 0 [(0, .ref a0), (1, .ref a1), (2, .ref a2)] [] [(a0, .inr (5, [.null, .null, .null, .null, .null]))]
  refine v_aload_n g dX5_init_0 0 rfl 0 rfl ?_
  refine v_objI g (List.mem_of_getElem? (i := 192) (by decide +kernel)) (by decide) (by decide) dX5_init_1 ?_
  refine v_aload_n g dX5_init_4 0 rfl 0 rfl ?_
  refine v_bipush g dX5_init_5 (v := nI 12) (by decide +kernel) ?_
  refine v_newB g (by decide) (by decide) (by decide) dX5_init_7 (fun q1 => ?_)
  show VJ C 1 12 9 [(0, .ref a0), (1, .ref a1), (2, .ref a2)] [.ref q1, .ref a0] [(a0, .inr (5, [.null, .null, .null, .null, .null])), (q1, aB C.D 12 (fun _ => 0#8))]
  refine v_putF layX5 tyX5 tyX5_ok nmX5 rfl 2 (by decide) fl_X5_9 rfl rfl rfl (tyX5_ok 2 (by decide)) rfl rfl hme g dX5_init_9 0 [(a0, .inr (5, [.null, .null, .ref q1, .null, .null])), (q1, aB C.D 12 (fun _ => 0#8))] rfl (Nat.le_of_ble_eq_true rfl) rfl ?_
  refine v_aload_n g dX5_init_12 0 rfl 0 rfl ?_
  refine v_bipush g dX5_init_13 (v := nI 16) (by decide +kernel) ?_
  refine v_newB g (by decide) (by decide) (by decide) dX5_init_15 (fun q2 => ?_)
  show VJ C 2 28 17 [(0, .ref a0), (1, .ref a1), (2, .ref a2)] [.ref q2, .ref a0] [(a0, .inr (5, [.null, .null, .ref q1, .null, .null])), (q1, aB C.D 12 (fun _ => 0#8)), (q2, aB C.D 16 (fun _ => 0#8))]
  refine v_putF layX5 tyX5 tyX5_ok nmX5 rfl 3 (by decide) fl_X5_15 rfl rfl rfl (tyX5_ok 3 (by decide)) rfl rfl hme g dX5_init_17 0 [(a0, .inr (5, [.null, .null, .ref q1, .ref q2, .null])), (q1, aB C.D 12 (fun _ => 0#8)), (q2, aB C.D 16 (fun _ => 0#8))] rfl (Nat.le_of_ble_eq_true rfl) rfl ?_
  refine v_aload_n g dX5_init_20 0 rfl 0 rfl ?_
  refine v_bipush g dX5_init_21 (v := nI 16) (by decide +kernel) ?_
  refine v_newB g (by decide) (by decide) (by decide) dX5_init_23 (fun q3 => ?_)
  show VJ C 3 44 25 [(0, .ref a0), (1, .ref a1), (2, .ref a2)] [.ref q3, .ref a0] [(a0, .inr (5, [.null, .null, .ref q1, .ref q2, .null])), (q1, aB C.D 12 (fun _ => 0#8)), (q2, aB C.D 16 (fun _ => 0#8)), (q3, aB C.D 16 (fun _ => 0#8))]
  refine v_putF layX5 tyX5 tyX5_ok nmX5 rfl 4 (by decide) fl_X5_18 rfl rfl rfl (tyX5_ok 4 (by decide)) rfl rfl hme g dX5_init_25 0 [(a0, .inr (5, [.null, .null, .ref q1, .ref q2, .ref q3])), (q1, aB C.D 12 (fun _ => 0#8)), (q2, aB C.D 16 (fun _ => 0#8)), (q3, aB C.D 16 (fun _ => 0#8))] rfl (Nat.le_of_ble_eq_true rfl) rfl ?_
  refine v_aload_n g dX5_init_28 0 rfl 0 rfl ?_
  refine v_aload_n g dX5_init_29 1 rfl 1 rfl ?_
  refine v_putF layX5 tyX5 tyX5_ok nmX5 rfl 0 (by decide) fl_X5_21 rfl rfl rfl (tyX5_ok 0 (by decide)) rfl rfl hme g dX5_init_30 0 [(a0, .inr (5, [.ref a1, .null, .ref q1, .ref q2, .ref q3])), (q1, aB C.D 12 (fun _ => 0#8)), (q2, aB C.D 16 (fun _ => 0#8)), (q3, aB C.D 16 (fun _ => 0#8))] rfl (Nat.le_of_ble_eq_true rfl) rfl ?_
  refine v_aload_n g dX5_init_33 0 rfl 0 rfl ?_
  refine v_aload_n g dX5_init_34 2 rfl 2 rfl ?_
  refine v_putF layX5 tyX5 tyX5_ok nmX5 rfl 1 (by decide) fl_X5_25 rfl rfl rfl (tyX5_ok 1 (by decide)) rfl rfl hme g dX5_init_35 0 [(a0, .inr (5, [.ref a1, .ref a2, .ref q1, .ref q2, .ref q3])), (q1, aB C.D 12 (fun _ => 0#8)), (q2, aB C.D 16 (fun _ => 0#8)), (q3, aB C.D 16 (fun _ => 0#8))] rfl (Nat.le_of_ble_eq_true rfl) rfl ?_
  exact v_ret g R dX5_init_38 (by decide) (by decide) ⟨q1, q2, q3, rfl, rfl⟩
