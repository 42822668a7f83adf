/-! rows; the nonce; the key blocks over a text -/
def nonF (iv : Nat → By) (x : BitVec 64) : Nat → By := fun j => if j < 4 then iv j else iv j ^^^ (x >>> (8 * (11 - j))).setWidth 8
def covF (key nonce t : Nat → By) (h e : Nat) : Nat → By := fun j => if h ≤ j ∧ j < e then t j ^^^ ccF key nonce (BitVec.ofNat 32 (1 + (j - h) / 64)) ((j - h) % 64) else t j
theorem sx8 : ∀ b : By, (b.signExtend 32).setWidth 8 = b := by decide +kernel
theorem xbb (a b : By) : (a.signExtend 32 ^^^ b.signExtend 32).setWidth 8 = a ^^^ b := by rw [xb_byte, sx8]
theorem non_s {iv tn tn' : Nat → By} {x : BitVec 64} {i : Nat} (hi : i < 8) (h : ∀ j, j < 12 → tn j = if 12 ≤ j + i then iv j ^^^ (x >>> (8 * (11 - j))).setWidth 8 else iv j)
    (ht : tn' = va_up tn (11 - i) (tn (11 - i) ^^^ ((x >>> (8 * i)).setWidth 32).setWidth 8)) : ∀ j, j < 12 → tn' j = if 12 ≤ j + (i + 1) then iv j ^^^ (x >>> (8 * (11 - j))).setWidth 8 else iv j := by
  intro j hj
  rw [ht]
  unfold va_up
  by_cases e : j = 11 - i
  · rw [if_pos e, if_pos (by omega), h (11 - i) (by omega), if_neg (by omega), BitVec.setWidth_setWidth_of_le _ (by omega), e, show 11 - (11 - i) = i by omega]
  · rw [if_neg e, h j hj]
    by_cases e2 : 12 ≤ j + i
    · rw [if_pos e2, if_pos (by omega)]
    · rw [if_neg e2, if_neg (by omega)]
theorem non_end {iv tn : Nat → By} {x : BitVec 64} (h : ∀ j, j < 12 → tn j = if 12 ≤ j + 8 then iv j ^^^ (x >>> (8 * (11 - j))).setWidth 8 else iv j) : ∀ j, j < 12 → tn j = nonF iv x j := by
  intro j hj
  rw [h j hj]
  unfold nonF
  by_cases e : j < 4
  · rw [if_neg (by omega), if_pos e]
  · rw [if_pos (by omega), if_neg e]
theorem cov_0 (key nonce t : Nat → By) (h : Nat) : covF key nonce t h h = t := by funext j; unfold covF; rw [if_neg (by omega)]
theorem cov_s {key nonce t kb : Nat → By} {h i q : Nat} (hq : q < 64) (hk : ∀ j, j < 64 → kb j = ccF key nonce (BitVec.ofNat 32 (1 + 64 * i / 64)) j) : va_up (covF key nonce t h (h + 64 * i + q)) (h + 64 * i + q) (covF key nonce t h (h + 64 * i + q) (h + 64 * i + q) ^^^ kb q) = covF key nonce t h (h + 64 * i + (q + 1)) := by
  funext j
  unfold va_up
  by_cases e : j = h + 64 * i + q
  · rw [if_pos e]
    unfold covF
    rw [if_neg (by omega), if_pos (by omega), hk q hq, e, show (h + 64 * i + q - h) / 64 = 64 * i / 64 by omega, show (h + 64 * i + q - h) % 64 = q by omega]
  · rw [if_neg e]
    unfold covF
    by_cases e2 : h ≤ j ∧ j < h + 64 * i + q
    · rw [if_pos e2, if_pos (by omega)]
    · rw [if_neg e2, if_neg (by omega)]
theorem dX4_add_0 : decode cX4_add 0 = .ok (.aload_n 0, 1) := by decide +kernel
theorem dX4_add_1 : decode cX4_add 1 = .ok (.getfield 13, 3) := by decide +kernel
theorem dX4_add_4 : decode cX4_add 4 = .ok (.aload_n 0, 1) := by decide +kernel
theorem dX4_add_5 : decode cX4_add 5 = .ok (.getfield 7, 3) := by decide +kernel
theorem dX4_add_8 : decode cX4_add 8 = .ok (.arraylength, 1) := by decide +kernel
theorem dX4_add_9 : decode cX4_add 9 = .ok (.if_icmp .ge 24, 3) := by decide +kernel
theorem dX4_add_12 : decode cX4_add 12 = .ok (.aload_n 0, 1) := by decide +kernel
theorem dX4_add_13 : decode cX4_add 13 = .ok (.getfield 7, 3) := by decide +kernel
theorem dX4_add_16 : decode cX4_add 16 = .ok (.aload_n 0, 1) := by decide +kernel
theorem dX4_add_17 : decode cX4_add 17 = .ok (.getfield 13, 3) := by decide +kernel
theorem dX4_add_20 : decode cX4_add 20 = .ok (.iload_n 1, 1) := by decide +kernel
theorem dX4_add_21 : decode cX4_add 21 = .ok (.i2b, 1) := by decide +kernel
theorem dX4_add_22 : decode cX4_add 22 = .ok (.bastore, 1) := by decide +kernel
theorem dX4_add_23 : decode cX4_add 23 = .ok (.aload_n 0, 1) := by decide +kernel
theorem dX4_add_24 : decode cX4_add 24 = .ok (.dup, 1) := by decide +kernel
theorem dX4_add_25 : decode cX4_add 25 = .ok (.getfield 13, 3) := by decide +kernel
theorem dX4_add_28 : decode cX4_add 28 = .ok (.iconst 1, 1) := by decide +kernel
theorem dX4_add_29 : decode cX4_add 29 = .ok (.iadd, 1) := by decide +kernel
theorem dX4_add_30 : decode cX4_add 30 = .ok (.putfield 13, 3) := by decide +kernel
theorem dX4_add_33 : decode cX4_add 33 = .ok (.return_, 1) := by decide +kernel
theorem dX4_copy_0 : decode cX4_copy 0 = .ok (.aload_n 0, 1) := by decide +kernel
theorem dX4_copy_1 : decode cX4_copy 1 = .ok (.aload_n 1, 1) := by decide +kernel
theorem dX4_copy_2 : decode cX4_copy 2 = .ok (.getfield 13, 3) := by decide +kernel
theorem dX4_copy_5 : decode cX4_copy 5 = .ok (.aload_n 0, 1) := by decide +kernel
theorem dX4_copy_6 : decode cX4_copy 6 = .ok (.getfield 7, 3) := by decide +kernel
theorem dX4_copy_9 : decode cX4_copy 9 = .ok (.arraylength, 1) := by decide +kernel
theorem dX4_copy_10 : decode cX4_copy 10 = .ok (.invokestatic 17, 3) := by decide +kernel
theorem dX4_copy_13 : decode cX4_copy 13 = .ok (.putfield 13, 3) := by decide +kernel
theorem dX4_copy_16 : decode cX4_copy 16 = .ok (.aload_n 1, 1) := by decide +kernel
theorem dX4_copy_17 : decode cX4_copy 17 = .ok (.getfield 7, 3) := by decide +kernel
theorem dX4_copy_20 : decode cX4_copy 20 = .ok (.iconst 0, 1) := by decide +kernel
theorem dX4_copy_21 : decode cX4_copy 21 = .ok (.aload_n 0, 1) := by decide +kernel
theorem dX4_copy_22 : decode cX4_copy 22 = .ok (.getfield 7, 3) := by decide +kernel
theorem dX4_copy_25 : decode cX4_copy 25 = .ok (.iconst 0, 1) := by decide +kernel
theorem dX4_copy_26 : decode cX4_copy 26 = .ok (.aload_n 0, 1) := by decide +kernel
theorem dX4_copy_27 : decode cX4_copy 27 = .ok (.getfield 13, 3) := by decide +kernel
theorem dX4_copy_30 : decode cX4_copy 30 = .ok (.invokestatic 23, 3) := by decide +kernel
theorem dX4_copy_33 : decode cX4_copy 33 = .ok (.return_, 1) := by decide +kernel
theorem dX5_setNonce_0 : decode cX5_setNonce 0 = .ok (.aload_n 1, 1) := by decide +kernel
theorem dX5_setNonce_1 : decode cX5_setNonce 1 = .ok (.getfield 81, 3) := by decide +kernel
theorem dX5_setNonce_4 : decode cX5_setNonce 4 = .ok (.getfield 43, 3) := by decide +kernel
theorem dX5_setNonce_7 : decode cX5_setNonce 7 = .ok (.iconst 0, 1) := by decide +kernel
theorem dX5_setNonce_8 : decode cX5_setNonce 8 = .ok (.aload_n 0, 1) := by decide +kernel
theorem dX5_setNonce_9 : decode cX5_setNonce 9 = .ok (.getfield 9, 3) := by decide +kernel
theorem dX5_setNonce_12 : decode cX5_setNonce 12 = .ok (.iconst 0, 1) := by decide +kernel
theorem dX5_setNonce_13 : decode cX5_setNonce 13 = .ok (.bipush 12, 2) := by decide +kernel
theorem dX5_setNonce_15 : decode cX5_setNonce 15 = .ok (.invokestatic 54, 3) := by decide +kernel
theorem dX5_setNonce_18 : decode cX5_setNonce 18 = .ok (.iconst 0, 1) := by decide +kernel
theorem dX5_setNonce_19 : decode cX5_setNonce 19 = .ok (.istore 4, 2) := by decide +kernel
theorem dX5_setNonce_21 : decode cX5_setNonce 21 = .ok (.iload 4, 2) := by decide +kernel
theorem dX5_setNonce_23 : decode cX5_setNonce 23 = .ok (.bipush 8, 2) := by decide +kernel
theorem dX5_setNonce_25 : decode cX5_setNonce 25 = .ok (.if_icmp .ge 32, 3) := by decide +kernel
theorem dX5_setNonce_28 : decode cX5_setNonce 28 = .ok (.aload_n 0, 1) := by decide +kernel
theorem dX5_setNonce_29 : decode cX5_setNonce 29 = .ok (.getfield 9, 3) := by decide +kernel
theorem dX5_setNonce_32 : decode cX5_setNonce 32 = .ok (.bipush 11, 2) := by decide +kernel
theorem dX5_setNonce_34 : decode cX5_setNonce 34 = .ok (.iload 4, 2) := by decide +kernel
theorem dX5_setNonce_36 : decode cX5_setNonce 36 = .ok (.isub, 1) := by decide +kernel
theorem dX5_setNonce_37 : decode cX5_setNonce 37 = .ok (.dup2, 1) := by decide +kernel
theorem dX5_setNonce_38 : decode cX5_setNonce 38 = .ok (.baload, 1) := by decide +kernel
theorem dX5_setNonce_39 : decode cX5_setNonce 39 = .ok (.lload_n 2, 1) := by decide +kernel
theorem dX5_setNonce_40 : decode cX5_setNonce 40 = .ok (.bipush 8, 2) := by decide +kernel
theorem dX5_setNonce_42 : decode cX5_setNonce 42 = .ok (.iload 4, 2) := by decide +kernel
theorem dX5_setNonce_44 : decode cX5_setNonce 44 = .ok (.imul, 1) := by decide +kernel
theorem dX5_setNonce_45 : decode cX5_setNonce 45 = .ok (.lushr, 1) := by decide +kernel
theorem dX5_setNonce_46 : decode cX5_setNonce 46 = .ok (.l2i, 1) := by decide +kernel
theorem dX5_setNonce_47 : decode cX5_setNonce 47 = .ok (.i2b, 1) := by decide +kernel
theorem dX5_setNonce_48 : decode cX5_setNonce 48 = .ok (.ixor, 1) := by decide +kernel
theorem dX5_setNonce_49 : decode cX5_setNonce 49 = .ok (.i2b, 1) := by decide +kernel
theorem dX5_setNonce_50 : decode cX5_setNonce 50 = .ok (.bastore, 1) := by decide +kernel
theorem dX5_setNonce_51 : decode cX5_setNonce 51 = .ok (.iinc 4 1, 3) := by decide +kernel
theorem dX5_setNonce_54 : decode cX5_setNonce 54 = .ok (.goto (-33), 3) := by decide +kernel
theorem dX5_setNonce_57 : decode cX5_setNonce 57 = .ok (.return_, 1) := by decide +kernel
theorem dX5_cover_0 : decode cX5_cover 0 = .ok (.aload_n 2, 1) := by decide +kernel
theorem dX5_cover_1 : decode cX5_cover 1 = .ok (.getfield 46, 3) := by decide +kernel
theorem dX5_cover_4 : decode cX5_cover 4 = .ok (.iload_n 3, 1) := by decide +kernel
theorem dX5_cover_5 : decode cX5_cover 5 = .ok (.isub, 1) := by decide +kernel
theorem dX5_cover_6 : decode cX5_cover 6 = .ok (.istore 4, 2) := by decide +kernel
theorem dX5_cover_8 : decode cX5_cover 8 = .ok (.iconst 0, 1) := by decide +kernel
theorem dX5_cover_9 : decode cX5_cover 9 = .ok (.istore 5, 2) := by decide +kernel
theorem dX5_cover_11 : decode cX5_cover 11 = .ok (.iload 5, 2) := by decide +kernel
theorem dX5_cover_13 : decode cX5_cover 13 = .ok (.iload 4, 2) := by decide +kernel
theorem dX5_cover_15 : decode cX5_cover 15 = .ok (.if_icmp .ge 88, 3) := by decide +kernel
theorem dX5_cover_18 : decode cX5_cover 18 = .ok (.aload_n 0, 1) := by decide +kernel
theorem dX5_cover_19 : decode cX5_cover 19 = .ok (.getfield 21, 3) := by decide +kernel
theorem dX5_cover_22 : decode cX5_cover 22 = .ok (.aload_n 1, 1) := by decide +kernel
theorem dX5_cover_23 : decode cX5_cover 23 = .ok (.getfield 84, 3) := by decide +kernel
theorem dX5_cover_26 : decode cX5_cover 26 = .ok (.getfield 43, 3) := by decide +kernel
theorem dX5_cover_29 : decode cX5_cover 29 = .ok (.aload_n 0, 1) := by decide +kernel
theorem dX5_cover_30 : decode cX5_cover 30 = .ok (.getfield 9, 3) := by decide +kernel
theorem dX5_cover_33 : decode cX5_cover 33 = .ok (.iconst 1, 1) := by decide +kernel
theorem dX5_cover_34 : decode cX5_cover 34 = .ok (.iload 5, 2) := by decide +kernel
theorem dX5_cover_36 : decode cX5_cover 36 = .ok (.bipush 64, 2) := by decide +kernel
theorem dX5_cover_38 : decode cX5_cover 38 = .ok (.idiv, 1) := by decide +kernel
theorem dX5_cover_39 : decode cX5_cover 39 = .ok (.iadd, 1) := by decide +kernel
theorem dX5_cover_40 : decode cX5_cover 40 = .ok (.invokevirtual 74, 3) := by decide +kernel
theorem dX5_cover_43 : decode cX5_cover 43 = .ok (.bipush 64, 2) := by decide +kernel
theorem dX5_cover_45 : decode cX5_cover 45 = .ok (.iload 4, 2) := by decide +kernel
theorem dX5_cover_47 : decode cX5_cover 47 = .ok (.iload 5, 2) := by decide +kernel
theorem dX5_cover_49 : decode cX5_cover 49 = .ok (.isub, 1) := by decide +kernel
theorem dX5_cover_50 : decode cX5_cover 50 = .ok (.invokestatic 87, 3) := by decide +kernel
theorem dX5_cover_53 : decode cX5_cover 53 = .ok (.istore 6, 2) := by decide +kernel
theorem dX5_cover_55 : decode cX5_cover 55 = .ok (.iconst 0, 1) := by decide +kernel
theorem dX5_cover_56 : decode cX5_cover 56 = .ok (.istore 7, 2) := by decide +kernel
theorem dX5_cover_58 : decode cX5_cover 58 = .ok (.iload 7, 2) := by decide +kernel
theorem dX5_cover_60 : decode cX5_cover 60 = .ok (.iload 6, 2) := by decide +kernel
theorem dX5_cover_62 : decode cX5_cover 62 = .ok (.if_icmp .ge 35, 3) := by decide +kernel
theorem dX5_cover_65 : decode cX5_cover 65 = .ok (.aload_n 2, 1) := by decide +kernel
theorem dX5_cover_66 : decode cX5_cover 66 = .ok (.getfield 43, 3) := by decide +kernel
theorem dX5_cover_69 : decode cX5_cover 69 = .ok (.iload_n 3, 1) := by decide +kernel
theorem dX5_cover_70 : decode cX5_cover 70 = .ok (.iload 5, 2) := by decide +kernel
theorem dX5_cover_72 : decode cX5_cover 72 = .ok (.iadd, 1) := by decide +kernel
theorem dX5_cover_73 : decode cX5_cover 73 = .ok (.iload 7, 2) := by decide +kernel
theorem dX5_cover_75 : decode cX5_cover 75 = .ok (.iadd, 1) := by decide +kernel
theorem dX5_cover_76 : decode cX5_cover 76 = .ok (.dup2, 1) := by decide +kernel
theorem dX5_cover_77 : decode cX5_cover 77 = .ok (.baload, 1) := by decide +kernel
theorem dX5_cover_78 : decode cX5_cover 78 = .ok (.aload_n 0, 1) := by decide +kernel
theorem dX5_cover_79 : decode cX5_cover 79 = .ok (.getfield 21, 3) := by decide +kernel
theorem dX5_cover_82 : decode cX5_cover 82 = .ok (.getfield 80, 3) := by decide +kernel
theorem dX5_cover_85 : decode cX5_cover 85 = .ok (.iload 7, 2) := by decide +kernel
theorem dX5_cover_87 : decode cX5_cover 87 = .ok (.baload, 1) := by decide +kernel
theorem dX5_cover_88 : decode cX5_cover 88 = .ok (.ixor, 1) := by decide +kernel
theorem dX5_cover_89 : decode cX5_cover 89 = .ok (.i2b, 1) := by decide +kernel
theorem dX5_cover_90 : decode cX5_cover 90 = .ok (.bastore, 1) := by decide +kernel
theorem dX5_cover_91 : decode cX5_cover 91 = .ok (.iinc 7 1, 3) := by decide +kernel
theorem dX5_cover_94 : decode cX5_cover 94 = .ok (.goto (-36), 3) := by decide +kernel
theorem dX5_cover_97 : decode cX5_cover 97 = .ok (.iinc 5 64, 3) := by decide +kernel
theorem dX5_cover_100 : decode cX5_cover 100 = .ok (.goto (-89), 3) := by decide +kernel
theorem dX5_cover_103 : decode cX5_cover 103 = .ok (.return_, 1) := by decide +kernel
set_option maxHeartbeats 4000000 in
set_option maxRecDepth 100000 in
theorem c_RW_add (l : Launch) (D : va_G) (a0 : Nat) (p1 : Wd) (a0_bytes : Nat) (v_a0_count : Nat) (n0 : Nat) (t_a0_bytes : Nat → By)  (h1 : v_a0_count < n0) (hn : n0 < 2 ^ 31) : vM l D yX4_add cX4_add 2 none { frames := 0, cells := 0, slots := 0, locals := 0 } [.ref a0, .int (wI p1)] [(a0, .inr (4, [.ref a0_bytes, .int (nI v_a0_count)])), (a0_bytes, aB D n0 t_a0_bytes)] (fun r wo => r = none ∧ wo = [(a0, .inr (4, [.ref a0_bytes, .int (nI (v_a0_count + 1))])), (a0_bytes, aB D n0 (va_up t_a0_bytes v_a0_count (p1.setWidth 8)))]) := by
  refine vM.of (by decide) (Nat.le_of_ble_eq_true rfl) (fun C hCl hCD g R => ?_)
  subst hCl; subst hCD
  show VJ C 0 0 0 [(0, .ref a0), (1, .int (wI p1))] [] [(a0, .inr (4, [.ref a0_bytes, .int (nI v_a0_count)])), (a0_bytes, aB C.D n0 t_a0_bytes)]
  refine v_aload_n g dX4_add_0 0 rfl 0 rfl ?_
  refine gf_X4_13 g dX4_add_1 0 rfl rfl ?_
  refine v_aload_n g dX4_add_4 0 rfl 0 rfl ?_
  refine gf_X4_7 g dX4_add_5 0 rfl rfl ?_
  refine v_alen g 1 0 rfl rfl dX4_add_8 ?_
  refine v_icmp_geN g 33 dX4_add_9 (by decide) (by omega) (by omega) (fun h => absurd h (by omega)) (fun _ => ?_)
  refine v_aload_n g dX4_add_12 0 rfl 0 rfl ?_
  refine gf_X4_7 g dX4_add_13 0 rfl rfl ?_
  refine v_aload_n g dX4_add_16 0 rfl 0 rfl ?_
  refine gf_X4_13 g dX4_add_17 0 rfl rfl ?_
  refine v_iload_n g dX4_add_20 1 rfl 1 rfl ?_
  refine v_i2bW g (p1) rfl dX4_add_21 ?_
  obtain ⟨t1, ht1⟩ : ∃ z : Nat → By, z = va_up t_a0_bytes v_a0_count (p1.setWidth 8) := ⟨_, rfl⟩
  refine v_bastB g (p1.setWidth 8) rfl t1 ht1 1 [(a0, .inr (4, [.ref a0_bytes, .int (nI v_a0_count)])), (a0_bytes, aB C.D n0 t1)] rfl (by omega) (by omega) dX4_add_22 rfl ?_
  refine v_aload_n g dX4_add_23 0 rfl 0 rfl ?_
  refine v_dup g dX4_add_24 rfl ?_
  refine gf_X4_13 g dX4_add_25 0 rfl rfl ?_
  refine v_iconst g dX4_add_28 (v := nI 1) (by decide +kernel) ?_
  refine v_iaddN g dX4_add_29 ?_
  refine pf_X4_13 g dX4_add_30 0 [(a0, .inr (4, [.ref a0_bytes, .int (nI (v_a0_count + 1))])), (a0_bytes, aB C.D n0 t1)] rfl (Nat.le_of_ble_eq_true rfl) rfl ?_
  have e2 : t1 = va_up t_a0_bytes v_a0_count (p1.setWidth 8) := by rw [ht1]
  rw [e2]
  exact v_ret g R dX4_add_33 (by decide) (by decide) ⟨rfl, rfl⟩
set_option maxHeartbeats 4000000 in
set_option maxRecDepth 100000 in
theorem c_RW_copy (l : Launch) (D : va_G) (a0 : Nat) (a1 : Nat) (a0_bytes : Nat) (v_a0_count : Nat) (n0 : Nat) (t_a0_bytes : Nat → By) (a1_bytes : Nat) (v_a1_count : Nat) (n1 : Nat) (t_a1_bytes : Nat → By)  (h1 : v_a1_count ≤ n1) (h2 : v_a1_count ≤ n0) (g0 : n0 < 2 ^ 31) (g1 : n1 < 2 ^ 31) : vM l D yX4_copy cX4_copy 2 none { frames := 1, cells := 0, slots := 0, locals := 26 } [.ref a0, .ref a1] [(a0, .inr (4, [.ref a0_bytes, .int (nI v_a0_count)])), (a0_bytes, aB D n0 t_a0_bytes), (a1, .inr (4, [.ref a1_bytes, .int (nI v_a1_count)])), (a1_bytes, aB D n1 t_a1_bytes)] (fun r wo => r = none ∧ wo = [(a0, .inr (4, [.ref a0_bytes, .int (nI v_a1_count)])), (a0_bytes, aB D n0 (va_cpy t_a1_bytes t_a0_bytes 0 0 v_a1_count)), (a1, .inr (4, [.ref a1_bytes, .int (nI v_a1_count)])), (a1_bytes, aB D n1 t_a1_bytes)]) := by
  refine vM.of (by decide) (Nat.le_of_ble_eq_true rfl) (fun C hCl hCD g R => ?_)
  subst hCl; subst hCD
  show VJ C 0 0 0 [(0, .ref a0), (1, .ref a1)] [] [(a0, .inr (4, [.ref a0_bytes, .int (nI v_a0_count)])), (a0_bytes, aB C.D n0 t_a0_bytes), (a1, .inr (4, [.ref a1_bytes, .int (nI v_a1_count)])), (a1_bytes, aB C.D n1 t_a1_bytes)]
  refine v_aload_n g dX4_copy_0 0 rfl 0 rfl ?_
  refine v_aload_n g dX4_copy_1 1 rfl 1 rfl ?_
  refine gf_X4_13 g dX4_copy_2 2 rfl rfl ?_
  refine v_aload_n g dX4_copy_5 0 rfl 0 rfl ?_
  refine gf_X4_7 g dX4_copy_6 0 rfl rfl ?_
  refine v_alen g 1 0 rfl rfl dX4_copy_9 ?_
  refine v_min g mn_X4_17 (by omega) (by omega) (by decide) (Nat.le_of_ble_eq_true rfl) (by decide) (by decide) dX4_copy_10 ?_
  refine v_toi (nI v_a1_count) (by rw [Nat.min_eq_left h2]) ?_
  refine pf_X4_13 g dX4_copy_13 0 [(a0, .inr (4, [.ref a0_bytes, .int (nI v_a1_count)])), (a0_bytes, aB C.D n0 t_a0_bytes), (a1, .inr (4, [.ref a1_bytes, .int (nI v_a1_count)])), (a1_bytes, aB C.D n1 t_a1_bytes)] rfl (Nat.le_of_ble_eq_true rfl) rfl ?_
  refine v_aload_n g dX4_copy_16 1 rfl 1 rfl ?_
  refine gf_X4_7 g dX4_copy_17 2 rfl rfl ?_
  refine v_iconst g dX4_copy_20 (v := nI 0) (by decide +kernel) ?_
  refine v_aload_n g dX4_copy_21 0 rfl 0 rfl ?_
  refine gf_X4_7 g dX4_copy_22 0 rfl rfl ?_
  refine v_iconst g dX4_copy_25 (v := nI 0) (by decide +kernel) ?_
  refine v_aload_n g dX4_copy_26 0 rfl 0 rfl ?_
  refine gf_X4_13 g dX4_copy_27 0 rfl rfl ?_
  obtain ⟨t1, ht1⟩ : ∃ z : Nat → By, z = va_cpy t_a1_bytes t_a0_bytes 0 0 v_a1_count := ⟨_, rfl⟩
  refine v_acpB g ac_X4_23 t1 ht1 3 1 [(a0, .inr (4, [.ref a0_bytes, .int (nI v_a1_count)])), (a0_bytes, aB C.D n0 t1), (a1, .inr (4, [.ref a1_bytes, .int (nI v_a1_count)])), (a1_bytes, aB C.D n1 t_a1_bytes)] rfl rfl (by omega) (by omega) (by omega) (by omega) (by decide) (Nat.le_of_ble_eq_true rfl) dX4_copy_30 rfl ?_
  have e2 : t1 = va_cpy t_a1_bytes t_a0_bytes 0 0 v_a1_count := by rw [ht1]
  rw [e2]
  exact v_ret g R dX4_copy_33 (by decide) (by decide) ⟨rfl, rfl⟩
set_option maxHeartbeats 4000000 in
set_option maxRecDepth 100000 in
theorem c_SL_nonce (l : Launch) (D : va_G) (a0 : Nat) (a1 : Nat) (p2 : BitVec 64) (a0_keyStream : Nat) (a0_tallier : Nat) (a0_nonce : Nat) (a0_sizes : Nat) (a0_madeTally : Nat) (t_a0_nonce : Nat → By) (a1_secret : Nat) (a1_key : Nat) (a1_iv : Nat) (a1_hide : Nat) (v_a1_phase : Int32) (a1_iv_bytes : Nat) (v_a1_iv_count : Nat) (t_a1_iv_bytes : Nat → By)   : vM l D yX5_setNonce cX5_setNonce 5 none { frames := 1, cells := 0, slots := 0, locals := 26 } [.ref a0, .ref a1, .long (xL p2)] [(a0, .inr (5, [.ref a0_keyStream, .ref a0_tallier, .ref a0_nonce, .ref a0_sizes, .ref a0_madeTally])), (a0_nonce, aB D 12 t_a0_nonce), (a1, .inr (1, [.ref a1_secret, .ref a1_key, .ref a1_iv, .ref a1_hide, .int v_a1_phase])), (a1_iv, .inr (4, [.ref a1_iv_bytes, .int (nI v_a1_iv_count)])), (a1_iv_bytes, aB D 12 t_a1_iv_bytes)] (fun r wo => ∃ (n1 : Nat → By), r = none ∧ wo = [(a0, .inr (5, [.ref a0_keyStream, .ref a0_tallier, .ref a0_nonce, .ref a0_sizes, .ref a0_madeTally])), (a0_nonce, aB D 12 n1), (a1, .inr (1, [.ref a1_secret, .ref a1_key, .ref a1_iv, .ref a1_hide, .int v_a1_phase])), (a1_iv, .inr (4, [.ref a1_iv_bytes, .int (nI v_a1_iv_count)])), (a1_iv_bytes, aB D 12 t_a1_iv_bytes)] ∧ (∀ j, j < 12 → n1 j = nonF t_a1_iv_bytes p2 j)) := by
  refine vM.of (by decide) (Nat.le_of_ble_eq_true rfl) (fun C hCl hCD g R => ?_)
  subst hCl; subst hCD
  show VJ C 0 0 0 [(0, .ref a0), (1, .ref a1), (2, .long (xL p2))] [] [(a0, .inr (5, [.ref a0_keyStream, .ref a0_tallier, .ref a0_nonce, .ref a0_sizes, .ref a0_madeTally])), (a0_nonce, aB C.D 12 t_a0_nonce), (a1, .inr (1, [.ref a1_secret, .ref a1_key, .ref a1_iv, .ref a1_hide, .int v_a1_phase])), (a1_iv, .inr (4, [.ref a1_iv_bytes, .int (nI v_a1_iv_count)])), (a1_iv_bytes, aB C.D 12 t_a1_iv_bytes)]
  refine v_aload_n g dX5_setNonce_0 1 rfl 1 rfl ?_
  refine gf_X5_81 g dX5_setNonce_1 2 rfl rfl ?_
  refine gf_X5_43 g dX5_setNonce_4 3 rfl rfl ?_
  refine v_iconst g dX5_setNonce_7 (v := nI 0) (by decide +kernel) ?_
  refine v_aload_n g dX5_setNonce_8 0 rfl 0 rfl ?_
  refine gf_X5_9 g dX5_setNonce_9 0 rfl rfl ?_
  refine v_iconst g dX5_setNonce_12 (v := nI 0) (by decide +kernel) ?_
  refine v_bipush g dX5_setNonce_13 (v := nI 12) (by decide +kernel) ?_
  obtain ⟨t1, ht1⟩ : ∃ z : Nat → By, z = va_cpy t_a1_iv_bytes t_a0_nonce 0 0 12 := ⟨_, rfl⟩
  refine v_acpB g ac_X5_54 t1 ht1 4 1 [(a0, .inr (5, [.ref a0_keyStream, .ref a0_tallier, .ref a0_nonce, .ref a0_sizes, .ref a0_madeTally])), (a0_nonce, aB C.D 12 t1), (a1, .inr (1, [.ref a1_secret, .ref a1_key, .ref a1_iv, .ref a1_hide, .int v_a1_phase])), (a1_iv, .inr (4, [.ref a1_iv_bytes, .int (nI v_a1_iv_count)])), (a1_iv_bytes, aB C.D 12 t_a1_iv_bytes)] rfl rfl (by omega) (by omega) (by omega) (by omega) (by decide) (Nat.le_of_ble_eq_true rfl) dX5_setNonce_15 rfl ?_
  refine v_iconst g dX5_setNonce_18 (v := nI 0) (by decide +kernel) ?_
  refine v_istore g [(4, .int (nI 0)), (0, .ref a0), (1, .ref a1), (2, .long (xL p2))] dX5_setNonce_19 (by decide) rfl ?_
  have L21_1 : ∀ i : Nat, i ≤ 8 → ∀ (tn : Nat → By), (∀ j, j < 12 → tn j = if 12 ≤ j + i then t_a1_iv_bytes j ^^^ (p2 >>> (8 * (11 - j))).setWidth 8 else t_a1_iv_bytes j) → VJ C 0 0 21 [(4, .int (nI i)), (0, .ref a0), (1, .ref a1), (2, .long (xL p2))] [] [(a0, .inr (5, [.ref a0_keyStream, .ref a0_tallier, .ref a0_nonce, .ref a0_sizes, .ref a0_madeTally])), (a0_nonce, aB C.D 12 tn), (a1, .inr (1, [.ref a1_secret, .ref a1_key, .ref a1_iv, .ref a1_hide, .int v_a1_phase])), (a1_iv, .inr (4, [.ref a1_iv_bytes, .int (nI v_a1_iv_count)])), (a1_iv_bytes, aB C.D 12 t_a1_iv_bytes)] := by
    refine v_for (8) ?_ ?_
    · skip
      intro i hii ih tn hv0
      refine v_iload g dX5_setNonce_21 0 rfl ?_
      refine v_bipush g dX5_setNonce_23 (v := nI 8) (by decide +kernel) ?_
      refine v_icmp_geN g 57 dX5_setNonce_25 (by decide) (by omega) (by omega) (fun h2 => ?_) (fun h2 => ?_)
      · skip
        exact absurd h2 (by omega)
      · skip
        refine v_aload_n g dX5_setNonce_28 0 rfl 1 rfl ?_
        refine gf_X5_9 g dX5_setNonce_29 0 rfl rfl ?_
        refine v_bipush g dX5_setNonce_32 (v := nI 11) (by decide +kernel) ?_
        refine v_iload g dX5_setNonce_34 0 rfl ?_
        refine v_isubN g dX5_setNonce_36 (by omega) ?_
        refine v_dup2 g dX5_setNonce_37 rfl rfl ?_
        refine v_baldB g 1 rfl (by omega) (by decide) dX5_setNonce_38 ?_
        refine v_lload_n g dX5_setNonce_39 2 rfl 3 rfl ?_
        refine v_bipush g dX5_setNonce_40 (v := nI 8) (by decide +kernel) ?_
        refine v_iload g dX5_setNonce_42 0 rfl ?_
        refine v_imulN g dX5_setNonce_44 ?_
        refine v_lushrX g (by omega) dX5_setNonce_45 ?_
        refine v_l2iX g dX5_setNonce_46 ?_
        refine v_i2bW g ((p2 >>> (8 * i)).setWidth 32) rfl dX5_setNonce_47 ?_
        refine v_ixorW g ((tn (11 - i)).signExtend 32) ((((p2 >>> (8 * i)).setWidth 32).setWidth 8).signExtend 32) (bI_w (tn (11 - i))) (bI_w (((p2 >>> (8 * i)).setWidth 32).setWidth 8)) dX5_setNonce_48 ?_
        refine v_i2bW g (((tn (11 - i)).signExtend 32) ^^^ ((((p2 >>> (8 * i)).setWidth 32).setWidth 8).signExtend 32)) rfl dX5_setNonce_49 ?_
        refine v_toi (bI (tn (11 - i) ^^^ ((p2 >>> (8 * i)).setWidth 32).setWidth 8)) (congrArg bI (xbb _ _)) ?_
        obtain ⟨t3, ht3⟩ : ∃ z : Nat → By, z = va_up tn (11 - i) (tn (11 - i) ^^^ ((p2 >>> (8 * i)).setWidth 32).setWidth 8) := ⟨_, rfl⟩
        refine v_bastB g (tn (11 - i) ^^^ ((p2 >>> (8 * i)).setWidth 32).setWidth 8) rfl t3 ht3 1 [(a0, .inr (5, [.ref a0_keyStream, .ref a0_tallier, .ref a0_nonce, .ref a0_sizes, .ref a0_madeTally])), (a0_nonce, aB C.D 12 t3), (a1, .inr (1, [.ref a1_secret, .ref a1_key, .ref a1_iv, .ref a1_hide, .int v_a1_phase])), (a1_iv, .inr (4, [.ref a1_iv_bytes, .int (nI v_a1_iv_count)])), (a1_iv_bytes, aB C.D 12 t_a1_iv_bytes)] rfl (by omega) (by decide) dX5_setNonce_50 rfl ?_
        refine v_iincN g 1 [(4, .int (nI (i + 1))), (0, .ref a0), (1, .ref a1), (2, .long (xL p2))] dX5_setNonce_51 0 rfl (by decide +kernel) (by decide) rfl ?_
        refine v_goto g 21 dX5_setNonce_54 (by decide) ?_
        exact ih t3 (non_s hii hv0 ht3)
    · skip
      intro tn hv0
      refine v_iload g dX5_setNonce_21 0 rfl ?_
      refine v_bipush g dX5_setNonce_23 (v := nI 8) (by decide +kernel) ?_
      refine v_icmp_geN g 57 dX5_setNonce_25 (by decide) (by omega) (by omega) (fun h4 => ?_) (fun h4 => ?_)
      · skip
        exact v_ret g R dX5_setNonce_57 (by decide) (by decide) ⟨tn, rfl, rfl, (non_end hv0)⟩
      · skip
        exact absurd h4 (by omega)
  exact L21_1 0 (by omega) t1 (fun j hj => by rw [ht1, pk_cpy_in (by omega) (by omega), if_neg (by omega), Nat.zero_add, Nat.sub_zero])
set_option maxHeartbeats 4000000 in
set_option maxRecDepth 100000 in
theorem c_SL_cover (l : Launch) (D : va_G) (a0 : Nat) (a1 : Nat) (a2 : Nat) (p3 : Nat) (a0_keyStream : Nat) (a0_tallier : Nat) (a0_nonce : Nat) (a0_sizes : Nat) (a0_madeTally : Nat) (a0_keyStream_first : Nat) (a0_keyStream_x : Nat) (a0_keyStream_bytes : Nat) (t_a0_keyStream_first : Nat → Wd) (t_a0_keyStream_x : Nat → Wd) (t_a0_keyStream_bytes : Nat → By) (t_a0_nonce : Nat → By) (a1_secret : Nat) (a1_key : Nat) (a1_iv : Nat) (a1_hide : Nat) (v_a1_phase : Int32) (a1_key_bytes : Nat) (v_a1_key_count : Nat) (t_a1_key_bytes : Nat → By) (a2_bytes : Nat) (v_a2_count : Nat) (n2 : Nat) (t_a2_bytes : Nat → By)  (h1 : p3 ≤ v_a2_count) (h2 : v_a2_count ≤ n2) (hn : n2 < 2 ^ 30) : vM l D yX5_cover cX5_cover 8 none { frames := 4, cells := 0, slots := 0, locals := 89 } [.ref a0, .ref a1, .ref a2, .int (nI p3)] [(a0, .inr (5, [.ref a0_keyStream, .ref a0_tallier, .ref a0_nonce, .ref a0_sizes, .ref a0_madeTally])), (a0_keyStream, .inr (3, [.ref a0_keyStream_first, .ref a0_keyStream_x, .ref a0_keyStream_bytes])), (a0_keyStream_first, aW D 16 t_a0_keyStream_first), (a0_keyStream_x, aW D 16 t_a0_keyStream_x), (a0_keyStream_bytes, aB D 64 t_a0_keyStream_bytes), (a0_nonce, aB D 12 t_a0_nonce), (a1, .inr (1, [.ref a1_secret, .ref a1_key, .ref a1_iv, .ref a1_hide, .int v_a1_phase])), (a1_key, .inr (4, [.ref a1_key_bytes, .int (nI v_a1_key_count)])), (a1_key_bytes, aB D 32 t_a1_key_bytes), (a2, .inr (4, [.ref a2_bytes, .int (nI v_a2_count)])), (a2_bytes, aB D n2 t_a2_bytes)] (fun r wo => ∃ (f1 : Nat → Wd) (x1 : Nat → Wd) (y1 : Nat → By), r = none ∧ wo = [(a0, .inr (5, [.ref a0_keyStream, .ref a0_tallier, .ref a0_nonce, .ref a0_sizes, .ref a0_madeTally])), (a0_keyStream, .inr (3, [.ref a0_keyStream_first, .ref a0_keyStream_x, .ref a0_keyStream_bytes])), (a0_keyStream_first, aW D 16 f1), (a0_keyStream_x, aW D 16 x1), (a0_keyStream_bytes, aB D 64 y1), (a0_nonce, aB D 12 t_a0_nonce), (a1, .inr (1, [.ref a1_secret, .ref a1_key, .ref a1_iv, .ref a1_hide, .int v_a1_phase])), (a1_key, .inr (4, [.ref a1_key_bytes, .int (nI v_a1_key_count)])), (a1_key_bytes, aB D 32 t_a1_key_bytes), (a2, .inr (4, [.ref a2_bytes, .int (nI v_a2_count)])), (a2_bytes, aB D n2 (covF t_a1_key_bytes t_a0_nonce t_a2_bytes p3 v_a2_count))]) := by
  refine vM.of (by decide) (Nat.le_of_ble_eq_true rfl) (fun C hCl hCD g R => ?_)
  subst hCl; subst hCD
  show VJ C 0 0 0 [(0, .ref a0), (1, .ref a1), (2, .ref a2), (3, .int (nI p3))] [] [(a0, .inr (5, [.ref a0_keyStream, .ref a0_tallier, .ref a0_nonce, .ref a0_sizes, .ref a0_madeTally])), (a0_keyStream, .inr (3, [.ref a0_keyStream_first, .ref a0_keyStream_x, .ref a0_keyStream_bytes])), (a0_keyStream_first, aW C.D 16 t_a0_keyStream_first), (a0_keyStream_x, aW C.D 16 t_a0_keyStream_x), (a0_keyStream_bytes, aB C.D 64 t_a0_keyStream_bytes), (a0_nonce, aB C.D 12 t_a0_nonce), (a1, .inr (1, [.ref a1_secret, .ref a1_key, .ref a1_iv, .ref a1_hide, .int v_a1_phase])), (a1_key, .inr (4, [.ref a1_key_bytes, .int (nI v_a1_key_count)])), (a1_key_bytes, aB C.D 32 t_a1_key_bytes), (a2, .inr (4, [.ref a2_bytes, .int (nI v_a2_count)])), (a2_bytes, aB C.D n2 t_a2_bytes)]
  refine v_aload_n g dX5_cover_0 2 rfl 2 rfl ?_
  refine gf_X5_46 g dX5_cover_1 9 rfl rfl ?_
  refine v_iload_n g dX5_cover_4 3 rfl 3 rfl ?_
  refine v_isubN g dX5_cover_5 (by omega) ?_
  refine v_nmN (fun sz1 hsz1 => ?_)
  refine v_istore g [(4, .int (nI sz1)), (0, .ref a0), (1, .ref a1), (2, .ref a2), (3, .int (nI p3))] dX5_cover_6 (by decide) rfl ?_
  refine v_iconst g dX5_cover_8 (v := nI 0) (by decide +kernel) ?_
  refine v_istore g [(5, .int (nI 0)), (4, .int (nI sz1)), (0, .ref a0), (1, .ref a1), (2, .ref a2), (3, .int (nI p3))] dX5_cover_9 (by decide) rfl ?_
  have L11_1 : ∀ i : Nat, i ≤ ((sz1 + 63) / 64) → ∀ (f2 : Nat → Wd) (x2 : Nat → Wd) (y2 : Nat → By) (t2 : Nat → By), (t2 = covF t_a1_key_bytes t_a0_nonce t_a2_bytes p3 (p3 + min (64 * i) sz1)) → VJ C 0 0 11 [(5, .int (nI (64 * i))), (4, .int (nI sz1)), (0, .ref a0), (1, .ref a1), (2, .ref a2), (3, .int (nI p3))] [] [(a0, .inr (5, [.ref a0_keyStream, .ref a0_tallier, .ref a0_nonce, .ref a0_sizes, .ref a0_madeTally])), (a0_keyStream, .inr (3, [.ref a0_keyStream_first, .ref a0_keyStream_x, .ref a0_keyStream_bytes])), (a0_keyStream_first, aW C.D 16 f2), (a0_keyStream_x, aW C.D 16 x2), (a0_keyStream_bytes, aB C.D 64 y2), (a0_nonce, aB C.D 12 t_a0_nonce), (a1, .inr (1, [.ref a1_secret, .ref a1_key, .ref a1_iv, .ref a1_hide, .int v_a1_phase])), (a1_key, .inr (4, [.ref a1_key_bytes, .int (nI v_a1_key_count)])), (a1_key_bytes, aB C.D 32 t_a1_key_bytes), (a2, .inr (4, [.ref a2_bytes, .int (nI v_a2_count)])), (a2_bytes, aB C.D n2 t2)] := by
    refine v_for (((sz1 + 63) / 64)) ?_ ?_
    · skip
      intro i hii ih f2 x2 y2 t2 hv0
      refine v_iload g dX5_cover_11 0 rfl ?_
      refine v_iload g dX5_cover_13 1 rfl ?_
      refine v_icmp_geN g 103 dX5_cover_15 (by decide) (by omega) (by omega) (fun h2 => ?_) (fun h2 => ?_)
      · skip
        exact absurd h2 (by omega)
      · skip
        refine v_aload_n g dX5_cover_18 0 rfl 2 rfl ?_
        refine gf_X5_21 g dX5_cover_19 0 rfl rfl ?_
        refine v_aload_n g dX5_cover_22 1 rfl 3 rfl ?_
        refine gf_X5_84 g dX5_cover_23 6 rfl rfl ?_
        refine gf_X5_43 g dX5_cover_26 7 rfl rfl ?_
        refine v_aload_n g dX5_cover_29 0 rfl 2 rfl ?_
        refine gf_X5_9 g dX5_cover_30 0 rfl rfl ?_
        refine v_iconst g dX5_cover_33 (v := nI 1) (by decide +kernel) ?_
        refine v_iload g dX5_cover_34 0 rfl ?_
        refine v_bipush g dX5_cover_36 (v := nI 64) (by decide +kernel) ?_
        refine v_idivN g dX5_cover_38 (by omega) (by omega) (by omega) ?_
        refine v_iaddN g dX5_cover_39 ?_
        refine v_callV (As := [.ref a1_key_bytes, .ref a0_nonce, .int (nI (1 + ((64 * i) / 64)))]) (rest := []) (wr := [(a0, .inr (5, [.ref a0_keyStream, .ref a0_tallier, .ref a0_nonce, .ref a0_sizes, .ref a0_madeTally])), (a1, .inr (1, [.ref a1_secret, .ref a1_key, .ref a1_iv, .ref a1_hide, .int v_a1_phase])), (a1_key, .inr (4, [.ref a1_key_bytes, .int (nI v_a1_key_count)])), (a2, .inr (4, [.ref a2_bytes, .int (nI v_a2_count)])), (a2_bytes, aB C.D n2 t2)]) cw_X5_74 (hy_X3_make) g (c_KS_make C.l C.D a0_keyStream a1_key_bytes a0_nonce (BitVec.ofNat 32 (1 + ((64 * i) / 64))) a0_keyStream_first a0_keyStream_x a0_keyStream_bytes f2 x2 y2 32 t_a1_key_bytes 12 t_a0_nonce (by omega) (by omega) (by omega) (by omega)) dX5_cover_40 1 rfl rfl rfl (by decide) (by decide) (Nat.le_of_ble_eq_true rfl) [1, 2, 3, 4, 8, 5] [0, 6, 7, 9, 10] rfl rfl (by decide) rfl (by decide) (by decide) _ rfl (fun r wo hp3 => ?_)
        obtain ⟨fa, xa, ya, rfl, rfl, ha⟩ := hp3
        refine v_perm [0, 5, 6, 7, 8, 10, 1, 2, 9, 3, 4] [(a0, .inr (5, [.ref a0_keyStream, .ref a0_tallier, .ref a0_nonce, .ref a0_sizes, .ref a0_madeTally])), (a0_keyStream, .inr (3, [.ref a0_keyStream_first, .ref a0_keyStream_x, .ref a0_keyStream_bytes])), (a0_keyStream_first, aW C.D 16 fa), (a0_keyStream_x, aW C.D 16 xa), (a0_keyStream_bytes, aB C.D 64 ya), (a0_nonce, aB C.D 12 t_a0_nonce), (a1, .inr (1, [.ref a1_secret, .ref a1_key, .ref a1_iv, .ref a1_hide, .int v_a1_phase])), (a1_key, .inr (4, [.ref a1_key_bytes, .int (nI v_a1_key_count)])), (a1_key_bytes, aB C.D 32 t_a1_key_bytes), (a2, .inr (4, [.ref a2_bytes, .int (nI v_a2_count)])), (a2_bytes, aB C.D n2 t2)] (by decide) rfl rfl ?_
        show VJ C 0 0 43 [(5, .int (nI (64 * i))), (4, .int (nI sz1)), (0, .ref a0), (1, .ref a1), (2, .ref a2), (3, .int (nI p3))] [] [(a0, .inr (5, [.ref a0_keyStream, .ref a0_tallier, .ref a0_nonce, .ref a0_sizes, .ref a0_madeTally])), (a0_keyStream, .inr (3, [.ref a0_keyStream_first, .ref a0_keyStream_x, .ref a0_keyStream_bytes])), (a0_keyStream_first, aW C.D 16 fa), (a0_keyStream_x, aW C.D 16 xa), (a0_keyStream_bytes, aB C.D 64 ya), (a0_nonce, aB C.D 12 t_a0_nonce), (a1, .inr (1, [.ref a1_secret, .ref a1_key, .ref a1_iv, .ref a1_hide, .int v_a1_phase])), (a1_key, .inr (4, [.ref a1_key_bytes, .int (nI v_a1_key_count)])), (a1_key_bytes, aB C.D 32 t_a1_key_bytes), (a2, .inr (4, [.ref a2_bytes, .int (nI v_a2_count)])), (a2_bytes, aB C.D n2 t2)]
        refine v_bipush g dX5_cover_43 (v := nI 64) (by decide +kernel) ?_
        refine v_iload g dX5_cover_45 1 rfl ?_
        refine v_iload g dX5_cover_47 0 rfl ?_
        refine v_isubN g dX5_cover_49 (by omega) ?_
        refine v_min g mn_X5_87 (by omega) (by omega) (by decide) (Nat.le_of_ble_eq_true rfl) (by decide) (by decide) dX5_cover_50 ?_
        refine v_nmN (fun mm4 hmm4 => ?_)
        refine v_istore g [(6, .int (nI mm4)), (5, .int (nI (64 * i))), (4, .int (nI sz1)), (0, .ref a0), (1, .ref a1), (2, .ref a2), (3, .int (nI p3))] dX5_cover_53 (by decide) rfl ?_
        refine v_iconst g dX5_cover_55 (v := nI 0) (by decide +kernel) ?_
        refine v_istore g [(7, .int (nI 0)), (6, .int (nI mm4)), (5, .int (nI (64 * i))), (4, .int (nI sz1)), (0, .ref a0), (1, .ref a1), (2, .ref a2), (3, .int (nI p3))] dX5_cover_56 (by decide) rfl ?_
        have L58_4 : ∀ k : Nat, k ≤ mm4 → ∀ (tb : Nat → By), (tb = covF t_a1_key_bytes t_a0_nonce t_a2_bytes p3 (p3 + 64 * i + k)) → VJ C 0 0 58 [(7, .int (nI k)), (6, .int (nI mm4)), (5, .int (nI (64 * i))), (4, .int (nI sz1)), (0, .ref a0), (1, .ref a1), (2, .ref a2), (3, .int (nI p3))] [] [(a0, .inr (5, [.ref a0_keyStream, .ref a0_tallier, .ref a0_nonce, .ref a0_sizes, .ref a0_madeTally])), (a0_keyStream, .inr (3, [.ref a0_keyStream_first, .ref a0_keyStream_x, .ref a0_keyStream_bytes])), (a0_keyStream_first, aW C.D 16 fa), (a0_keyStream_x, aW C.D 16 xa), (a0_keyStream_bytes, aB C.D 64 ya), (a0_nonce, aB C.D 12 t_a0_nonce), (a1, .inr (1, [.ref a1_secret, .ref a1_key, .ref a1_iv, .ref a1_hide, .int v_a1_phase])), (a1_key, .inr (4, [.ref a1_key_bytes, .int (nI v_a1_key_count)])), (a1_key_bytes, aB C.D 32 t_a1_key_bytes), (a2, .inr (4, [.ref a2_bytes, .int (nI v_a2_count)])), (a2_bytes, aB C.D n2 tb)] := by
          refine v_for (mm4) ?_ ?_
          · skip
            intro k hik ik tb hw0
            refine v_iload g dX5_cover_58 0 rfl ?_
            refine v_iload g dX5_cover_60 1 rfl ?_
            refine v_icmp_geN g 97 dX5_cover_62 (by decide) (by omega) (by omega) (fun h5 => ?_) (fun h5 => ?_)
            · skip
              exact absurd h5 (by omega)
            · skip
              refine v_aload_n g dX5_cover_65 2 rfl 6 rfl ?_
              refine gf_X5_43 g dX5_cover_66 9 rfl rfl ?_
              refine v_iload_n g dX5_cover_69 3 rfl 7 rfl ?_
              refine v_iload g dX5_cover_70 2 rfl ?_
              refine v_iaddN g dX5_cover_72 ?_
              refine v_iload g dX5_cover_73 0 rfl ?_
              refine v_iaddN g dX5_cover_75 ?_
              refine v_dup2 g dX5_cover_76 rfl rfl ?_
              refine v_baldB g 10 rfl (by omega) (by omega) dX5_cover_77 ?_
              refine v_aload_n g dX5_cover_78 0 rfl 4 rfl ?_
              refine gf_X5_21 g dX5_cover_79 0 rfl rfl ?_
              refine gf_X5_80 g dX5_cover_82 1 rfl rfl ?_
              refine v_iload g dX5_cover_85 0 rfl ?_
              refine v_baldB g 4 rfl (by omega) (by decide) dX5_cover_87 ?_
              refine v_ixorW g ((tb ((p3 + (64 * i)) + k)).signExtend 32) ((ya k).signExtend 32) (bI_w (tb ((p3 + (64 * i)) + k))) (bI_w (ya k)) dX5_cover_88 ?_
              refine v_i2bW g (((tb ((p3 + (64 * i)) + k)).signExtend 32) ^^^ ((ya k).signExtend 32)) rfl dX5_cover_89 ?_
              refine v_toi (bI (tb (p3 + 64 * i + k) ^^^ ya k)) (congrArg bI (xbb _ _)) ?_
              obtain ⟨t6, ht6⟩ : ∃ z : Nat → By, z = va_up tb ((p3 + (64 * i)) + k) (tb (p3 + 64 * i + k) ^^^ ya k) := ⟨_, rfl⟩
              refine v_bastB g (tb (p3 + 64 * i + k) ^^^ ya k) rfl t6 ht6 10 [(a0, .inr (5, [.ref a0_keyStream, .ref a0_tallier, .ref a0_nonce, .ref a0_sizes, .ref a0_madeTally])), (a0_keyStream, .inr (3, [.ref a0_keyStream_first, .ref a0_keyStream_x, .ref a0_keyStream_bytes])), (a0_keyStream_first, aW C.D 16 fa), (a0_keyStream_x, aW C.D 16 xa), (a0_keyStream_bytes, aB C.D 64 ya), (a0_nonce, aB C.D 12 t_a0_nonce), (a1, .inr (1, [.ref a1_secret, .ref a1_key, .ref a1_iv, .ref a1_hide, .int v_a1_phase])), (a1_key, .inr (4, [.ref a1_key_bytes, .int (nI v_a1_key_count)])), (a1_key_bytes, aB C.D 32 t_a1_key_bytes), (a2, .inr (4, [.ref a2_bytes, .int (nI v_a2_count)])), (a2_bytes, aB C.D n2 t6)] rfl (by omega) (by omega) dX5_cover_90 rfl ?_
              refine v_iincN g 1 [(7, .int (nI (k + 1))), (6, .int (nI mm4)), (5, .int (nI (64 * i))), (4, .int (nI sz1)), (0, .ref a0), (1, .ref a1), (2, .ref a2), (3, .int (nI p3))] dX5_cover_91 0 rfl (by decide +kernel) (by decide) rfl ?_
              refine v_goto g 58 dX5_cover_94 (by decide) ?_
              exact ik t6 (by rw [ht6, hw0]; exact cov_s (by omega) ha)
          · skip
            intro tb hw0
            refine v_iload g dX5_cover_58 0 rfl ?_
            refine v_iload g dX5_cover_60 1 rfl ?_
            refine v_icmp_geN g 97 dX5_cover_62 (by decide) (by omega) (by omega) (fun h7 => ?_) (fun h7 => ?_)
            · skip
              refine v_iincN g 64 [(5, .int (nI (64 * i + 64))), (7, .int (nI mm4)), (6, .int (nI mm4)), (4, .int (nI sz1)), (0, .ref a0), (1, .ref a1), (2, .ref a2), (3, .int (nI p3))] dX5_cover_97 2 rfl (by decide +kernel) (by decide) rfl ?_
              refine v_goto g 11 dX5_cover_100 (by decide) ?_
              refine v_lpick [0, 3, 4, 5, 6, 7] [(5, .int (nI (64 * i + 64))), (4, .int (nI sz1)), (0, .ref a0), (1, .ref a1), (2, .ref a2), (3, .int (nI p3))] rfl ?_
              rw [show 64 * i + 64 = 64 * (i + 1) by omega]
              exact ih fa xa ya tb (by rw [hw0, hmm4]; congr 1; omega)
            · skip
              exact absurd h7 (by omega)
        exact L58_4 0 (by omega) t2 (by rw [hv0]; congr 1; omega)
    · skip
      intro f2 x2 y2 t2 hv0
      refine v_iload g dX5_cover_11 0 rfl ?_
      refine v_iload g dX5_cover_13 1 rfl ?_
      refine v_icmp_geN g 103 dX5_cover_15 (by decide) (by omega) (by omega) (fun h8 => ?_) (fun h8 => ?_)
      · skip
        have e9 : t2 = covF t_a1_key_bytes t_a0_nonce t_a2_bytes p3 v_a2_count := by rw [hv0]; congr 1; omega
        rw [e9]
        exact v_ret g R dX5_cover_103 (by decide) (by decide) ⟨f2, x2, y2, rfl, rfl⟩
      · skip
        exact absurd h8 (by omega)
  exact L11_1 0 (by omega) t_a0_keyStream_first t_a0_keyStream_x t_a0_keyStream_bytes t_a2_bytes (by rw [show min (64 * 0) sz1 = 0 by omega, Nat.add_zero, cov_0])
