/-! the box: rows and helpers -/
section LGE
variable {C : Cx} {cc : ByteArray} {own : String} {nL : Nat} {rm : Room} {k n pc : Nat} {lv : List (Nat × Value)} {st : List Value} {ws : va_W}
theorem lg0 (x : Int64) : (0 ≤ lg_cmp x (lN 0) → ¬ x < 0) ∧ (¬ 0 ≤ lg_cmp x (lN 0) → x < 0) := by
  have e : lN 0 = (0 : Int64) := by decide +kernel
  rw [e]
  unfold lg_cmp
  by_cases h1 : 0 < x
  · simp only [if_pos h1]
    exact ⟨fun _ q => by have := Int64.lt_iff_toInt_lt.mp h1; have := Int64.lt_iff_toInt_lt.mp q; omega, fun q => absurd (by decide) q⟩
  · simp only [if_neg h1]
    by_cases h2 : x = 0
    · simp only [if_pos h2]
      exact ⟨fun _ => by rw [h2]; decide, fun q => absurd (by decide) q⟩
    · simp only [if_neg h2]
      refine ⟨fun q => absurd q (by decide), fun _ => ?_⟩
      rw [Int64.lt_iff_toInt_lt] at h1 ⊢
      have h3 : x.toInt ≠ (0 : Int64).toInt := fun q => h2 (Int64.toInt_inj.mp q)
      omega
theorem v_lge0 (g : vG C cc own nL rm) {x : Int64} {off : Int} (tgt : Nat) (hd : decode cc pc = .ok (.lcmp, 1)) (hd2 : decode cc (pc + 1) = .ok (.ifCond .ge off, 3)) (ht : ((pc + 1 : Nat) : Int) + off = (tgt : Int)) (kt : ¬ x < 0 → VJ C k n tgt lv st ws) (kf : x < 0 → VJ C k n (pc + 4) lv st ws) : VJ C k n pc lv (.long (lN 0) :: .long x :: st) ws :=
  v_lcmp g hd (v_if_ge g tgt hd2 ht (fun h => kt ((lg0 x).1 h)) (fun h => kf ((lg0 x).2 h)))
end LGE
theorem dX7_needKey_0 : decode cX7_needKey 0 = .ok (.aload_n 0, 1) := by decide +kernel
theorem dX7_needKey_1 : decode cX7_needKey 1 = .ok (.getfield 24, 3) := by decide +kernel
theorem dX7_needKey_4 : decode cX7_needKey 4 = .ok (.iload_n 1, 1) := by decide +kernel
theorem dX7_needKey_5 : decode cX7_needKey 5 = .ok (.aaload, 1) := by decide +kernel
theorem dX7_needKey_6 : decode cX7_needKey 6 = .ok (.getfield 81, 3) := by decide +kernel
theorem dX7_needKey_9 : decode cX7_needKey 9 = .ok (.bipush 32, 2) := by decide +kernel
theorem dX7_needKey_11 : decode cX7_needKey 11 = .ok (.if_icmp .eq 13, 3) := by decide +kernel
theorem dX7_needKey_14 : decode cX7_needKey 14 = .ok (.new 85, 3) := by decide +kernel
theorem dX7_needKey_17 : decode cX7_needKey 17 = .ok (.dup, 1) := by decide +kernel
theorem dX7_needKey_18 : decode cX7_needKey 18 = .ok (.ldc 223, 2) := by decide +kernel
theorem dX7_needKey_20 : decode cX7_needKey 20 = .ok (.invokespecial 89, 3) := by decide +kernel
theorem dX7_needKey_23 : decode cX7_needKey 23 = .ok (.athrow, 1) := by decide +kernel
theorem dX7_needKey_24 : decode cX7_needKey 24 = .ok (.return_, 1) := by decide +kernel
theorem dX7_needArmed_0 : decode cX7_needArmed 0 = .ok (.aload_n 0, 1) := by decide +kernel
theorem dX7_needArmed_1 : decode cX7_needArmed 1 = .ok (.getfield 30, 3) := by decide +kernel
theorem dX7_needArmed_4 : decode cX7_needArmed 4 = .ok (.iload_n 1, 1) := by decide +kernel
theorem dX7_needArmed_5 : decode cX7_needArmed 5 = .ok (.aaload, 1) := by decide +kernel
theorem dX7_needArmed_6 : decode cX7_needArmed 6 = .ok (.getfield 164, 3) := by decide +kernel
theorem dX7_needArmed_9 : decode cX7_needArmed 9 = .ok (.iconst (-1), 1) := by decide +kernel
theorem dX7_needArmed_10 : decode cX7_needArmed 10 = .ok (.if_icmp .ne 13, 3) := by decide +kernel
theorem dX7_needArmed_13 : decode cX7_needArmed 13 = .ok (.new 85, 3) := by decide +kernel
theorem dX7_needArmed_16 : decode cX7_needArmed 16 = .ok (.dup, 1) := by decide +kernel
theorem dX7_needArmed_17 : decode cX7_needArmed 17 = .ok (.ldc 229, 2) := by decide +kernel
theorem dX7_needArmed_19 : decode cX7_needArmed 19 = .ok (.invokespecial 89, 3) := by decide +kernel
theorem dX7_needArmed_22 : decode cX7_needArmed 22 = .ok (.athrow, 1) := by decide +kernel
theorem dX7_needArmed_23 : decode cX7_needArmed 23 = .ok (.return_, 1) := by decide +kernel
theorem dX7_needNumber_0 : decode cX7_needNumber 0 = .ok (.lload_n 0, 1) := by decide +kernel
theorem dX7_needNumber_1 : decode cX7_needNumber 1 = .ok (.lconst 0, 1) := by decide +kernel
theorem dX7_needNumber_2 : decode cX7_needNumber 2 = .ok (.lcmp, 1) := by decide +kernel
theorem dX7_needNumber_3 : decode cX7_needNumber 3 = .ok (.ifCond .ge 13, 3) := by decide +kernel
theorem dX7_needNumber_6 : decode cX7_needNumber 6 = .ok (.new 74, 3) := by decide +kernel
theorem dX7_needNumber_9 : decode cX7_needNumber 9 = .ok (.dup, 1) := by decide +kernel
theorem dX7_needNumber_10 : decode cX7_needNumber 10 = .ok (.ldc 231, 2) := by decide +kernel
theorem dX7_needNumber_12 : decode cX7_needNumber 12 = .ok (.invokespecial 78, 3) := by decide +kernel
theorem dX7_needNumber_15 : decode cX7_needNumber 15 = .ok (.athrow, 1) := by decide +kernel
theorem dX7_needNumber_16 : decode cX7_needNumber 16 = .ok (.return_, 1) := by decide +kernel
theorem dX7_needOutByte_0 : decode cX7_needOutByte 0 = .ok (.iload_n 1, 1) := by decide +kernel
theorem dX7_needOutByte_1 : decode cX7_needOutByte 1 = .ok (.ifCond .lt 14, 3) := by decide +kernel
theorem dX7_needOutByte_4 : decode cX7_needOutByte 4 = .ok (.iload_n 1, 1) := by decide +kernel
theorem dX7_needOutByte_5 : decode cX7_needOutByte 5 = .ok (.aload_n 0, 1) := by decide +kernel
theorem dX7_needOutByte_6 : decode cX7_needOutByte 6 = .ok (.getfield 18, 3) := by decide +kernel
theorem dX7_needOutByte_9 : decode cX7_needOutByte 9 = .ok (.getfield 81, 3) := by decide +kernel
theorem dX7_needOutByte_12 : decode cX7_needOutByte 12 = .ok (.if_icmp .lt 13, 3) := by decide +kernel
theorem dX7_needOutByte_15 : decode cX7_needOutByte 15 = .ok (.new 210, 3) := by decide +kernel
theorem dX7_needOutByte_18 : decode cX7_needOutByte 18 = .ok (.dup, 1) := by decide +kernel
theorem dX7_needOutByte_19 : decode cX7_needOutByte 19 = .ok (.ldc 233, 2) := by decide +kernel
theorem dX7_needOutByte_21 : decode cX7_needOutByte 21 = .ok (.invokespecial 214, 3) := by decide +kernel
theorem dX7_needOutByte_24 : decode cX7_needOutByte 24 = .ok (.athrow, 1) := by decide +kernel
theorem dX7_needOutByte_25 : decode cX7_needOutByte 25 = .ok (.return_, 1) := by decide +kernel
set_option maxHeartbeats 4000000 in
set_option maxRecDepth 100000 in
theorem c_needKey (l : Launch) (D : va_G) (a0 : Nat) (p1 : Nat) (a0_tape : Nat) (a0_made : Nat) (a0_nothing : Nat) (a0_slots : Nat) (a0_guards : Nat) (a0_digester : Nat) (a0_keyMaker : Nat) (a0_keyStream : Nat) (a0_tallier : Nat) (a0_sealer : Nat) (t_a0_slots : Nat → Option Nat) (a0_slots_at1 : Nat) (a0_slots_at1_bytes : Nat) (v_a0_slots_at1_count : Nat)  (hs1 : p1 < 8) (h1 : v_a0_slots_at1_count = 32) (h_a0_slots_at1 : t_a0_slots p1 = some a0_slots_at1) : vM l D yX7_needKey cX7_needKey 2 none { frames := 0, cells := 0, slots := 0, locals := 0 } [.ref a0, .int (nI p1)] [(a0, .inr (7, [.ref a0_tape, .ref a0_made, .ref a0_nothing, .ref a0_slots, .ref a0_guards, .ref a0_digester, .ref a0_keyMaker, .ref a0_keyStream, .ref a0_tallier, .ref a0_sealer])), (a0_slots, aR D 103 8 t_a0_slots), (a0_slots_at1, .inr (4, [.ref a0_slots_at1_bytes, .int (nI v_a0_slots_at1_count)]))] (fun r wo => r = none ∧ wo = [(a0, .inr (7, [.ref a0_tape, .ref a0_made, .ref a0_nothing, .ref a0_slots, .ref a0_guards, .ref a0_digester, .ref a0_keyMaker, .ref a0_keyStream, .ref a0_tallier, .ref a0_sealer])), (a0_slots, aR D 103 8 t_a0_slots), (a0_slots_at1, .inr (4, [.ref a0_slots_at1_bytes, .int (nI v_a0_slots_at1_count)]))]) := by
  refine vM.of (by decide) (Nat.le_of_ble_eq_true rfl) (fun C hCl hCD g R => ?_)
  subst hCl; subst hCD
  show VJ C 0 0 0 [(0, .ref a0), (1, .int (nI p1))] [] [(a0, .inr (7, [.ref a0_tape, .ref a0_made, .ref a0_nothing, .ref a0_slots, .ref a0_guards, .ref a0_digester, .ref a0_keyMaker, .ref a0_keyStream, .ref a0_tallier, .ref a0_sealer])), (a0_slots, aR C.D 103 8 t_a0_slots), (a0_slots_at1, .inr (4, [.ref a0_slots_at1_bytes, .int (nI v_a0_slots_at1_count)]))]
  refine v_aload_n g dX7_needKey_0 0 rfl 0 rfl ?_
  refine gf_X7_24 g dX7_needKey_1 0 rfl rfl ?_
  refine v_iload_n g dX7_needKey_4 1 rfl 1 rfl ?_
  refine v_aaldR g a0_slots_at1 1 3 rfl rfl (by omega) (by decide) h_a0_slots_at1 dX7_needKey_5 ?_
  refine gf_X7_81 g dX7_needKey_6 2 rfl rfl ?_
  refine v_bipush g dX7_needKey_9 (v := nI 32) (by decide +kernel) ?_
  refine v_icmp_eqN g 24 dX7_needKey_11 (by decide) (by omega) (by omega) (fun _ => ?_) (fun h => absurd h (by omega))
  exact v_ret g R dX7_needKey_24 (by decide) (by decide) ⟨rfl, rfl⟩
set_option maxHeartbeats 4000000 in
set_option maxRecDepth 100000 in
theorem x_needKey (l : Launch) (hL : noTr l) (D : va_G) (a0 : Nat) (p1 : Nat) (a0_tape : Nat) (a0_made : Nat) (a0_nothing : Nat) (a0_slots : Nat) (a0_guards : Nat) (a0_digester : Nat) (a0_keyMaker : Nat) (a0_keyStream : Nat) (a0_tallier : Nat) (a0_sealer : Nat) (t_a0_slots : Nat → Option Nat) (a0_slots_at1 : Nat) (a0_slots_at1_bytes : Nat) (v_a0_slots_at1_count : Nat)  (hs1 : p1 < 8) (h1 : v_a0_slots_at1_count ≠ 32) (h2 : v_a0_slots_at1_count < 2 ^ 31) (h_a0_slots_at1 : t_a0_slots p1 = some a0_slots_at1) : vMX l D yX7_needKey cX7_needKey 2 none { frames := 6, cells := 1, slots := 6, locals := 82 } [.ref a0, .int (nI p1)] [(a0, .inr (7, [.ref a0_tape, .ref a0_made, .ref a0_nothing, .ref a0_slots, .ref a0_guards, .ref a0_digester, .ref a0_keyMaker, .ref a0_keyStream, .ref a0_tallier, .ref a0_sealer])), (a0_slots, aR D 103 8 t_a0_slots), (a0_slots_at1, .inr (4, [.ref a0_slots_at1_bytes, .int (nI v_a0_slots_at1_count)]))] "java/lang/IllegalStateException" := by
  refine vMX.of (by decide) (Nat.le_of_ble_eq_true rfl) (fun C hCl hCD g R => ?_)
  subst hCl; subst hCD
  show VJ C 0 0 0 [(0, .ref a0), (1, .int (nI p1))] [] [(a0, .inr (7, [.ref a0_tape, .ref a0_made, .ref a0_nothing, .ref a0_slots, .ref a0_guards, .ref a0_digester, .ref a0_keyMaker, .ref a0_keyStream, .ref a0_tallier, .ref a0_sealer])), (a0_slots, aR C.D 103 8 t_a0_slots), (a0_slots_at1, .inr (4, [.ref a0_slots_at1_bytes, .int (nI v_a0_slots_at1_count)]))]
  refine v_aload_n g dX7_needKey_0 0 rfl 0 rfl ?_
  refine gf_X7_24 g dX7_needKey_1 0 rfl rfl ?_
  refine v_iload_n g dX7_needKey_4 1 rfl 1 rfl ?_
  refine v_aaldR g a0_slots_at1 1 3 rfl rfl (by omega) (by decide) h_a0_slots_at1 dX7_needKey_5 ?_
  refine gf_X7_81 g dX7_needKey_6 2 rfl rfl ?_
  refine v_bipush g dX7_needKey_9 (v := nI 32) (by decide +kernel) ?_
  refine v_icmp_eqN g 24 dX7_needKey_11 (by decide) (by omega) (by omega) (fun h => absurd h (by omega)) (fun _ => ?_)
  exact v_throw g hL R th_89 (List.mem_of_getElem? (i := 386) (by decide +kernel)) (List.mem_of_getElem? (i := 387) (by decide +kernel)) (List.mem_of_getElem? (i := 56) (by decide +kernel)) (by decide +kernel) (g.gx.2.2.2.2.2.1 (223, "the slot has not 32 bytes") (by decide)) dX7_needKey_14 dX7_needKey_17 dX7_needKey_18 dX7_needKey_20 dX7_needKey_23 (by decide) (by decide) (by decide) (by decide)
set_option maxHeartbeats 4000000 in
set_option maxRecDepth 100000 in
theorem c_needArmed (l : Launch) (D : va_G) (a0 : Nat) (p1 : Nat) (a0_tape : Nat) (a0_made : Nat) (a0_nothing : Nat) (a0_slots : Nat) (a0_guards : Nat) (a0_digester : Nat) (a0_keyMaker : Nat) (a0_keyStream : Nat) (a0_tallier : Nat) (a0_sealer : Nat) (t_a0_guards : Nat → Option Nat) (a0_guards_at1 : Nat) (a0_guards_at1_secret : Nat) (a0_guards_at1_key : Nat) (a0_guards_at1_iv : Nat) (a0_guards_at1_hide : Nat) (v_a0_guards_at1_phase : Int32)  (hg1 : p1 < 4) (h1 : v_a0_guards_at1_phase ≠ wI 4294967295#32) (h_a0_guards_at1 : t_a0_guards p1 = some a0_guards_at1) : vM l D yX7_needArmed cX7_needArmed 2 none { frames := 0, cells := 0, slots := 0, locals := 0 } [.ref a0, .int (nI p1)] [(a0, .inr (7, [.ref a0_tape, .ref a0_made, .ref a0_nothing, .ref a0_slots, .ref a0_guards, .ref a0_digester, .ref a0_keyMaker, .ref a0_keyStream, .ref a0_tallier, .ref a0_sealer])), (a0_guards, aR D 104 4 t_a0_guards), (a0_guards_at1, .inr (1, [.ref a0_guards_at1_secret, .ref a0_guards_at1_key, .ref a0_guards_at1_iv, .ref a0_guards_at1_hide, .int v_a0_guards_at1_phase]))] (fun r wo => r = none ∧ wo = [(a0, .inr (7, [.ref a0_tape, .ref a0_made, .ref a0_nothing, .ref a0_slots, .ref a0_guards, .ref a0_digester, .ref a0_keyMaker, .ref a0_keyStream, .ref a0_tallier, .ref a0_sealer])), (a0_guards, aR D 104 4 t_a0_guards), (a0_guards_at1, .inr (1, [.ref a0_guards_at1_secret, .ref a0_guards_at1_key, .ref a0_guards_at1_iv, .ref a0_guards_at1_hide, .int v_a0_guards_at1_phase]))]) := by
  refine vM.of (by decide) (Nat.le_of_ble_eq_true rfl) (fun C hCl hCD g R => ?_)
  subst hCl; subst hCD
  show VJ C 0 0 0 [(0, .ref a0), (1, .int (nI p1))] [] [(a0, .inr (7, [.ref a0_tape, .ref a0_made, .ref a0_nothing, .ref a0_slots, .ref a0_guards, .ref a0_digester, .ref a0_keyMaker, .ref a0_keyStream, .ref a0_tallier, .ref a0_sealer])), (a0_guards, aR C.D 104 4 t_a0_guards), (a0_guards_at1, .inr (1, [.ref a0_guards_at1_secret, .ref a0_guards_at1_key, .ref a0_guards_at1_iv, .ref a0_guards_at1_hide, .int v_a0_guards_at1_phase]))]
  refine v_aload_n g dX7_needArmed_0 0 rfl 0 rfl ?_
  refine gf_X7_30 g dX7_needArmed_1 0 rfl rfl ?_
  refine v_iload_n g dX7_needArmed_4 1 rfl 1 rfl ?_
  refine v_aaldR g a0_guards_at1 1 4 rfl rfl (by omega) (by decide) h_a0_guards_at1 dX7_needArmed_5 ?_
  refine gf_X7_164 g dX7_needArmed_6 2 rfl rfl ?_
  refine v_iconst g dX7_needArmed_9 (v := wI 4294967295#32) (by decide +kernel) ?_
  refine v_icmp_ne g 23 dX7_needArmed_10 (by decide) (fun h2 => ?_) (fun h2 => ?_)
  · skip
    exact v_ret g R dX7_needArmed_23 (by decide) (by decide) ⟨rfl, rfl⟩
  · skip
    exact absurd h2 h1
set_option maxHeartbeats 4000000 in
set_option maxRecDepth 100000 in
theorem x_needArmed (l : Launch) (hL : noTr l) (D : va_G) (a0 : Nat) (p1 : Nat) (a0_tape : Nat) (a0_made : Nat) (a0_nothing : Nat) (a0_slots : Nat) (a0_guards : Nat) (a0_digester : Nat) (a0_keyMaker : Nat) (a0_keyStream : Nat) (a0_tallier : Nat) (a0_sealer : Nat) (t_a0_guards : Nat → Option Nat) (a0_guards_at1 : Nat) (a0_guards_at1_secret : Nat) (a0_guards_at1_key : Nat) (a0_guards_at1_iv : Nat) (a0_guards_at1_hide : Nat) (v_a0_guards_at1_phase : Int32)  (hg1 : p1 < 4) (h1 : v_a0_guards_at1_phase = wI 4294967295#32) (h_a0_guards_at1 : t_a0_guards p1 = some a0_guards_at1) : vMX l D yX7_needArmed cX7_needArmed 2 none { frames := 6, cells := 1, slots := 6, locals := 82 } [.ref a0, .int (nI p1)] [(a0, .inr (7, [.ref a0_tape, .ref a0_made, .ref a0_nothing, .ref a0_slots, .ref a0_guards, .ref a0_digester, .ref a0_keyMaker, .ref a0_keyStream, .ref a0_tallier, .ref a0_sealer])), (a0_guards, aR D 104 4 t_a0_guards), (a0_guards_at1, .inr (1, [.ref a0_guards_at1_secret, .ref a0_guards_at1_key, .ref a0_guards_at1_iv, .ref a0_guards_at1_hide, .int v_a0_guards_at1_phase]))] "java/lang/IllegalStateException" := by
  refine vMX.of (by decide) (Nat.le_of_ble_eq_true rfl) (fun C hCl hCD g R => ?_)
  subst hCl; subst hCD
  show VJ C 0 0 0 [(0, .ref a0), (1, .int (nI p1))] [] [(a0, .inr (7, [.ref a0_tape, .ref a0_made, .ref a0_nothing, .ref a0_slots, .ref a0_guards, .ref a0_digester, .ref a0_keyMaker, .ref a0_keyStream, .ref a0_tallier, .ref a0_sealer])), (a0_guards, aR C.D 104 4 t_a0_guards), (a0_guards_at1, .inr (1, [.ref a0_guards_at1_secret, .ref a0_guards_at1_key, .ref a0_guards_at1_iv, .ref a0_guards_at1_hide, .int v_a0_guards_at1_phase]))]
  refine v_aload_n g dX7_needArmed_0 0 rfl 0 rfl ?_
  refine gf_X7_30 g dX7_needArmed_1 0 rfl rfl ?_
  refine v_iload_n g dX7_needArmed_4 1 rfl 1 rfl ?_
  refine v_aaldR g a0_guards_at1 1 4 rfl rfl (by omega) (by decide) h_a0_guards_at1 dX7_needArmed_5 ?_
  refine gf_X7_164 g dX7_needArmed_6 2 rfl rfl ?_
  refine v_iconst g dX7_needArmed_9 (v := wI 4294967295#32) (by decide +kernel) ?_
  refine v_icmp_ne g 23 dX7_needArmed_10 (by decide) (fun h2 => ?_) (fun h2 => ?_)
  · skip
    exact absurd h1 h2
  · skip
    exact v_throw g hL R th_89 (List.mem_of_getElem? (i := 386) (by decide +kernel)) (List.mem_of_getElem? (i := 387) (by decide +kernel)) (List.mem_of_getElem? (i := 56) (by decide +kernel)) (by decide +kernel) (g.gx.2.2.2.2.2.1 (229, "the guard is not armed") (by decide)) dX7_needArmed_13 dX7_needArmed_16 dX7_needArmed_17 dX7_needArmed_19 dX7_needArmed_22 (by decide) (by decide) (by decide) (by decide)
set_option maxHeartbeats 4000000 in
set_option maxRecDepth 100000 in
theorem c_needNumber (l : Launch) (D : va_G) (p0 : BitVec 64)  (h1 : ¬ xL p0 < 0) : vM l D yX7_needNumber cX7_needNumber 2 none { frames := 0, cells := 0, slots := 0, locals := 0 } [.long (xL p0)] [] (fun r wo => r = none ∧ wo = []) := by
  refine vM.of (by decide) (Nat.le_of_ble_eq_true rfl) (fun C hCl hCD g R => ?_)
  subst hCl; subst hCD
  show VJ C 0 0 0 [(0, .long (xL p0))] [] []
  refine v_lload_n g dX7_needNumber_0 0 rfl 0 rfl ?_
  refine v_lconst g dX7_needNumber_1 (v := lN 0) (by decide +kernel) ?_
  refine v_lge0 g 16 dX7_needNumber_2 dX7_needNumber_3 (by decide) (fun _ => ?_) (fun h => absurd h h1)
  exact v_ret g R dX7_needNumber_16 (by decide) (by decide) ⟨rfl, rfl⟩
set_option maxHeartbeats 4000000 in
set_option maxRecDepth 100000 in
theorem x_needNumber (l : Launch) (hL : noTr l) (D : va_G) (p0 : BitVec 64)  (h1 : xL p0 < 0) : vMX l D yX7_needNumber cX7_needNumber 2 none { frames := 6, cells := 1, slots := 6, locals := 82 } [.long (xL p0)] [] "java/lang/IllegalArgumentException" := by
  refine vMX.of (by decide) (Nat.le_of_ble_eq_true rfl) (fun C hCl hCD g R => ?_)
  subst hCl; subst hCD
  show VJ C 0 0 0 [(0, .long (xL p0))] [] []
  refine v_lload_n g dX7_needNumber_0 0 rfl 0 rfl ?_
  refine v_lconst g dX7_needNumber_1 (v := lN 0) (by decide +kernel) ?_
  refine v_lge0 g 16 dX7_needNumber_2 dX7_needNumber_3 (by decide) (fun h => absurd h1 h) (fun _ => ?_)
  exact v_throw g hL R th_78 (List.mem_of_getElem? (i := 319) (by decide +kernel)) (List.mem_of_getElem? (i := 320) (by decide +kernel)) (List.mem_of_getElem? (i := 55) (by decide +kernel)) (by decide +kernel) (g.gx.2.2.2.2.2.1 (231, "the number is below 0") (by decide)) dX7_needNumber_6 dX7_needNumber_9 dX7_needNumber_10 dX7_needNumber_12 dX7_needNumber_15 (by decide) (by decide) (by decide) (by decide)
set_option maxHeartbeats 4000000 in
set_option maxRecDepth 100000 in
theorem c_needOut (l : Launch) (D : va_G) (a0 : Nat) (p1 : Nat) (a0_tape : Nat) (a0_made : Nat) (a0_nothing : Nat) (a0_slots : Nat) (a0_guards : Nat) (a0_digester : Nat) (a0_keyMaker : Nat) (a0_keyStream : Nat) (a0_tallier : Nat) (a0_sealer : Nat) (a0_made_bytes : Nat) (v_a0_made_count : Nat)  (h1 : p1 < v_a0_made_count) (hM : v_a0_made_count ≤ 2064) : vM l D yX7_needOutByte cX7_needOutByte 2 none { frames := 0, cells := 0, slots := 0, locals := 0 } [.ref a0, .int (nI p1)] [(a0, .inr (7, [.ref a0_tape, .ref a0_made, .ref a0_nothing, .ref a0_slots, .ref a0_guards, .ref a0_digester, .ref a0_keyMaker, .ref a0_keyStream, .ref a0_tallier, .ref a0_sealer])), (a0_made, .inr (4, [.ref a0_made_bytes, .int (nI v_a0_made_count)]))] (fun r wo => r = none ∧ wo = [(a0, .inr (7, [.ref a0_tape, .ref a0_made, .ref a0_nothing, .ref a0_slots, .ref a0_guards, .ref a0_digester, .ref a0_keyMaker, .ref a0_keyStream, .ref a0_tallier, .ref a0_sealer])), (a0_made, .inr (4, [.ref a0_made_bytes, .int (nI v_a0_made_count)]))]) := by
  refine vM.of (by decide) (Nat.le_of_ble_eq_true rfl) (fun C hCl hCD g R => ?_)
  subst hCl; subst hCD
  show VJ C 0 0 0 [(0, .ref a0), (1, .int (nI p1))] [] [(a0, .inr (7, [.ref a0_tape, .ref a0_made, .ref a0_nothing, .ref a0_slots, .ref a0_guards, .ref a0_digester, .ref a0_keyMaker, .ref a0_keyStream, .ref a0_tallier, .ref a0_sealer])), (a0_made, .inr (4, [.ref a0_made_bytes, .int (nI v_a0_made_count)]))]
  refine v_iload_n g dX7_needOutByte_0 1 rfl 1 rfl ?_
  refine v_if_ltN g 15 dX7_needOutByte_1 (by decide) (by omega) (fun h => h.elim) (fun _ => ?_)
  refine v_iload_n g dX7_needOutByte_4 1 rfl 1 rfl ?_
  refine v_aload_n g dX7_needOutByte_5 0 rfl 0 rfl ?_
  refine gf_X7_18 g dX7_needOutByte_6 0 rfl rfl ?_
  refine gf_X7_81 g dX7_needOutByte_9 1 rfl rfl ?_
  refine v_icmp_ltN g 25 dX7_needOutByte_12 (by decide) (by omega) (by omega) (fun _ => ?_) (fun h => absurd h (by omega))
  exact v_ret g R dX7_needOutByte_25 (by decide) (by decide) ⟨rfl, rfl⟩
set_option maxHeartbeats 4000000 in
set_option maxRecDepth 100000 in
theorem x_needOut (l : Launch) (hL : noTr l) (D : va_G) (a0 : Nat) (p1 : Int32) (a0_tape : Nat) (a0_made : Nat) (a0_nothing : Nat) (a0_slots : Nat) (a0_guards : Nat) (a0_digester : Nat) (a0_keyMaker : Nat) (a0_keyStream : Nat) (a0_tallier : Nat) (a0_sealer : Nat) (a0_made_bytes : Nat) (v_a0_made_count : Nat)  (h1 : p1 < 0 ∨ nI v_a0_made_count ≤ p1) : vMX l D yX7_needOutByte cX7_needOutByte 2 none { frames := 6, cells := 1, slots := 6, locals := 82 } [.ref a0, .int p1] [(a0, .inr (7, [.ref a0_tape, .ref a0_made, .ref a0_nothing, .ref a0_slots, .ref a0_guards, .ref a0_digester, .ref a0_keyMaker, .ref a0_keyStream, .ref a0_tallier, .ref a0_sealer])), (a0_made, .inr (4, [.ref a0_made_bytes, .int (nI v_a0_made_count)]))] "java/util/NoSuchElementException" := by
  refine vMX.of (by decide) (Nat.le_of_ble_eq_true rfl) (fun C hCl hCD g R => ?_)
  subst hCl; subst hCD
  show VJ C 0 0 0 [(0, .ref a0), (1, .int p1)] [] [(a0, .inr (7, [.ref a0_tape, .ref a0_made, .ref a0_nothing, .ref a0_slots, .ref a0_guards, .ref a0_digester, .ref a0_keyMaker, .ref a0_keyStream, .ref a0_tallier, .ref a0_sealer])), (a0_made, .inr (4, [.ref a0_made_bytes, .int (nI v_a0_made_count)]))]
  refine v_iload_n g dX7_needOutByte_0 1 rfl 1 rfl ?_
  refine v_if_lt g 15 dX7_needOutByte_1 (by decide) (fun h2 => ?_) (fun h2 => ?_)
  · skip
    exact v_throwX g hL R (by decide +kernel) (by decide +kernel) (by decide +kernel) (by decide +kernel) th_214 (List.mem_of_getElem? (i := 732) (by decide +kernel)) (List.mem_of_getElem? (i := 733) (by decide +kernel)) (List.mem_of_getElem? (i := 64) (by decide +kernel)) (by decide +kernel) (g.gx.2.2.2.2.2.1 (233, "the OUT has no such byte") (by decide)) dX7_needOutByte_15 dX7_needOutByte_18 dX7_needOutByte_19 dX7_needOutByte_21 dX7_needOutByte_24 (by decide) (by decide) (by decide) (by decide)
  · skip
    refine v_iload_n g dX7_needOutByte_4 1 rfl 1 rfl ?_
    refine v_aload_n g dX7_needOutByte_5 0 rfl 0 rfl ?_
    refine gf_X7_18 g dX7_needOutByte_6 0 rfl rfl ?_
    refine gf_X7_81 g dX7_needOutByte_9 1 rfl rfl ?_
    refine v_icmp_lt g 25 dX7_needOutByte_12 (by decide) (fun h3 => ?_) (fun h3 => ?_)
    · skip
      exact absurd h3 (h1.elim (fun q => absurd q h2) i_le_nlt)
    · skip
      exact v_throwX g hL R (by decide +kernel) (by decide +kernel) (by decide +kernel) (by decide +kernel) th_214 (List.mem_of_getElem? (i := 732) (by decide +kernel)) (List.mem_of_getElem? (i := 733) (by decide +kernel)) (List.mem_of_getElem? (i := 64) (by decide +kernel)) (by decide +kernel) (g.gx.2.2.2.2.2.1 (233, "the OUT has no such byte") (by decide)) dX7_needOutByte_15 dX7_needOutByte_18 dX7_needOutByte_19 dX7_needOutByte_21 dX7_needOutByte_24 (by decide) (by decide) (by decide) (by decide)
