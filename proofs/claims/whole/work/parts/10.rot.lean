/-! Integer.rotateLeft, rotateRight -/
theorem sh_nu : ∀ n, n < 32 → 0 < n → (((-nI n).toUInt32 &&& Int32.toUInt32 31).toBitVec % 32).toNat = 32 - n := by decide +kernel
theorem sh_nl : ∀ n, n < 32 → 0 < n → ((-nI n &&& 31).toBitVec.smod 32).toNat = 32 - n := by decide +kernel
theorem wI_nushr (x : Wd) {k : Nat} (h0 : 0 < k) (hk : k < 32) : ((wI x).toUInt32 >>> ((-nI k).toUInt32 &&& Int32.toUInt32 31)).toInt32 = wI (x >>> (32 - k)) := by
  apply Int32.toBitVec_inj.mp
  show ((wI x).toUInt32 >>> ((-nI k).toUInt32 &&& Int32.toUInt32 31)).toBitVec = x >>> (32 - k)
  rw [UInt32.toBitVec_shiftRight]
  rw [BitVec.ushiftRight_eq', sh_nu k hk h0]
  rfl
theorem wI_nshl (x : Wd) {k : Nat} (h0 : 0 < k) (hk : k < 32) : wI x <<< (-nI k &&& 31) = wI (x <<< (32 - k)) := by
  apply Int32.toBitVec_inj.mp
  rw [Int32.toBitVec_shiftLeft]
  rw [BitVec.shiftLeft_eq', sh_nl k hk h0]
  rfl
theorem dJ6_rotateLeft_0 : decode cJ6_rotateLeft 0 = .ok (.iload_n 0, 1) := by decide +kernel
theorem dJ6_rotateLeft_1 : decode cJ6_rotateLeft 1 = .ok (.iload_n 1, 1) := by decide +kernel
theorem dJ6_rotateLeft_2 : decode cJ6_rotateLeft 2 = .ok (.ishl, 1) := by decide +kernel
theorem dJ6_rotateLeft_3 : decode cJ6_rotateLeft 3 = .ok (.iload_n 0, 1) := by decide +kernel
theorem dJ6_rotateLeft_4 : decode cJ6_rotateLeft 4 = .ok (.iload_n 1, 1) := by decide +kernel
theorem dJ6_rotateLeft_5 : decode cJ6_rotateLeft 5 = .ok (.ineg, 1) := by decide +kernel
theorem dJ6_rotateLeft_6 : decode cJ6_rotateLeft 6 = .ok (.iushr, 1) := by decide +kernel
theorem dJ6_rotateLeft_7 : decode cJ6_rotateLeft 7 = .ok (.ior, 1) := by decide +kernel
theorem dJ6_rotateLeft_8 : decode cJ6_rotateLeft 8 = .ok (.ireturn, 1) := by decide +kernel
theorem dJ6_rotateRight_0 : decode cJ6_rotateRight 0 = .ok (.iload_n 0, 1) := by decide +kernel
theorem dJ6_rotateRight_1 : decode cJ6_rotateRight 1 = .ok (.iload_n 1, 1) := by decide +kernel
theorem dJ6_rotateRight_2 : decode cJ6_rotateRight 2 = .ok (.iushr, 1) := by decide +kernel
theorem dJ6_rotateRight_3 : decode cJ6_rotateRight 3 = .ok (.iload_n 0, 1) := by decide +kernel
theorem dJ6_rotateRight_4 : decode cJ6_rotateRight 4 = .ok (.iload_n 1, 1) := by decide +kernel
theorem dJ6_rotateRight_5 : decode cJ6_rotateRight 5 = .ok (.ineg, 1) := by decide +kernel
theorem dJ6_rotateRight_6 : decode cJ6_rotateRight 6 = .ok (.ishl, 1) := by decide +kernel
theorem dJ6_rotateRight_7 : decode cJ6_rotateRight 7 = .ok (.ior, 1) := by decide +kernel
theorem dJ6_rotateRight_8 : decode cJ6_rotateRight 8 = .ok (.ireturn, 1) := by decide +kernel
set_option maxHeartbeats 4000000 in
set_option maxRecDepth 100000 in
theorem c_rotl (l : Launch) (D : va_G) (p0 : Wd) (p1 : Nat)  (h0 : 0 < p1) (h1 : p1 < 32) : vM l D yJ6_rotateLeft cJ6_rotateLeft 2 (some .int) { frames := 0, cells := 0, slots := 0, locals := 0 } [.int (wI p0), .int (nI p1)] [] (fun r wo => r = some (.int (wI (rotl p0 p1))) ∧ wo = []) := by
  refine vM.of (by decide) (Nat.le_of_ble_eq_true rfl) (fun C hCl hCD g R => ?_)
  subst hCl; subst hCD
  show VJ C 0 0 0 [(0, .int (wI p0)), (1, .int (nI p1))] [] []
  refine v_iload_n g dJ6_rotateLeft_0 0 rfl 0 rfl ?_
  refine v_iload_n g dJ6_rotateLeft_1 1 rfl 1 rfl ?_
  refine v_ishlW g (p0) rfl (by omega) dJ6_rotateLeft_2 ?_
  refine v_iload_n g dJ6_rotateLeft_3 0 rfl 0 rfl ?_
  refine v_iload_n g dJ6_rotateLeft_4 1 rfl 1 rfl ?_
  refine v_ineg g dJ6_rotateLeft_5 ?_
  refine v_iushr g dJ6_rotateLeft_6 ?_
  refine v_toi (wI (p0 >>> (32 - p1))) (wI_nushr p0 h0 h1) ?_
  refine v_iorW g (p0 <<< p1) (p0 >>> (32 - p1)) rfl rfl dJ6_rotateLeft_7 ?_
  exact v_iret g R dJ6_rotateLeft_8 (by decide) (by decide) ⟨rfl, rfl⟩
set_option maxHeartbeats 4000000 in
set_option maxRecDepth 100000 in
theorem c_rotr (l : Launch) (D : va_G) (p0 : Wd) (p1 : Nat)  (h0 : 0 < p1) (h1 : p1 < 32) : vM l D yJ6_rotateRight cJ6_rotateRight 2 (some .int) { frames := 0, cells := 0, slots := 0, locals := 0 } [.int (wI p0), .int (nI p1)] [] (fun r wo => r = some (.int (wI (rotr p0 p1))) ∧ wo = []) := by
  refine vM.of (by decide) (Nat.le_of_ble_eq_true rfl) (fun C hCl hCD g R => ?_)
  subst hCl; subst hCD
  show VJ C 0 0 0 [(0, .int (wI p0)), (1, .int (nI p1))] [] []
  refine v_iload_n g dJ6_rotateRight_0 0 rfl 0 rfl ?_
  refine v_iload_n g dJ6_rotateRight_1 1 rfl 1 rfl ?_
  refine v_iushrW g (p0) rfl (by omega) dJ6_rotateRight_2 ?_
  refine v_iload_n g dJ6_rotateRight_3 0 rfl 0 rfl ?_
  refine v_iload_n g dJ6_rotateRight_4 1 rfl 1 rfl ?_
  refine v_ineg g dJ6_rotateRight_5 ?_
  refine v_ishl g dJ6_rotateRight_6 ?_
  refine v_toi (wI (p0 <<< (32 - p1))) (wI_nshl p0 h0 h1) ?_
  refine v_iorW g (p0 >>> p1) (p0 <<< (32 - p1)) rfl rfl dJ6_rotateRight_7 ?_
  exact v_iret g R dJ6_rotateRight_8 (by decide) (by decide) ⟨rfl, rfl⟩
