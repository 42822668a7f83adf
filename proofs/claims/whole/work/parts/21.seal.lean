/-! the number's hiding -/
def hdM (hide t : Nat → By) (pl : Nat) : Nat → By := ccF hide (fun j => t (pl + 8 + j)) (le4 t (pl + 4))
def hd0 (hide t : Nat → By) (pl : Nat) : By := t 0 ^^^ (hdM hide t pl 0 &&& BitVec.ofNat 8 (if t 0 &&& 128#8 = 0#8 then 31 else 15))
def hdN (hide t : Nat → By) (pl does : Nat) : Nat := 1 + ((if does = 0 then hd0 hide t pl else t 0) &&& 3#8).toNat
def hdF (hide t : Nat → By) (pl n : Nat) : Nat → By := fun j => if j = 0 then hd0 hide t pl else if pl ≤ j ∧ j < pl + n then t j ^^^ hdM hide t pl (1 + (j - pl)) else t j
def hdP (t y : Nat → By) (pl i : Nat) : Nat → By := fun j => if pl ≤ j ∧ j < pl + i then t j ^^^ y (1 + (j - pl)) else t j
theorem hd_b (a b : By) (P : Prop) [Decidable P] : wI (a.signExtend 32 ^^^ (b.signExtend 32 &&& BitVec.ofNat 32 (if P then 31 else 15))) = bI (a ^^^ (b &&& BitVec.ofNat 8 (if P then 31 else 15))) := by
  rw [bI_w, BitVec.signExtend_xor, BitVec.signExtend_and]
  by_cases h : P
  · rw [if_pos h, show (BitVec.ofNat 8 31).signExtend 32 = BitVec.ofNat 32 31 by decide]
  · rw [if_neg h, show (BitVec.ofNat 8 15).signExtend 32 = BitVec.ofNat 32 15 by decide]
theorem hd_n : ∀ s : By, wI (1#32 + (s.signExtend 32 &&& 3#32)) = nI (1 + (s &&& 3#8).toNat) := by decide +kernel
theorem hd_3 : ∀ s : By, (s &&& 3#8).toNat ≤ 3 := by decide +kernel
theorem hd_8 : ∀ s : By, wI (s.signExtend 32 &&& 128#32) = 0 ↔ s &&& 128#8 = 0#8 := by decide +kernel
theorem hdN_le (hide t : Nat → By) (pl does : Nat) : hdN hide t pl does ≤ 4 := by
  unfold hdN
  have h := hd_3 (if does = 0 then hd0 hide t pl else t 0)
  omega
theorem hdP_0 (t y : Nat → By) (pl : Nat) : hdP t y pl 0 = t := by
  funext j
  unfold hdP
  rw [if_neg (by omega)]
theorem hdP_s (t y : Nat → By) (pl i : Nat) : va_up (hdP t y pl i) (pl + i) (hdP t y pl i (pl + i) ^^^ y (1 + i)) = hdP t y pl (i + 1) := by
  funext j
  unfold va_up
  by_cases e : j = pl + i
  · rw [if_pos e]
    unfold hdP
    rw [if_neg (by omega), if_pos (by omega), e, show pl + i - pl = i by omega]
  · rw [if_neg e]
    unfold hdP
    by_cases e2 : pl ≤ j ∧ j < pl + i
    · rw [if_pos e2, if_pos (by omega)]
    · rw [if_neg e2, if_neg (by omega)]
theorem hd_m {hide t tn t0 ya : Nat → By} {pl : Nat} (hn : tn = va_cpy t t0 (pl + 8) 0 12) (ha : ∀ j, j < 64 → ya j = ccF hide tn (le4 t (pl + 4)) j) : ∀ j, j < 64 → ya j = hdM hide t pl j := by
  intro j hj
  rw [ha j hj]
  unfold hdM
  exact ccF_congr (fun _ _ => rfl) (fun q hq => by rw [hn, pk_cpy_in (by omega) (by omega), Nat.sub_zero]) j hj
theorem hd_end {hide t t1 ya : Nat → By} {pl n : Nat} (hM : ∀ j, j < 64 → ya j = hdM hide t pl j) (h1 : t1 = va_up t 0 (hd0 hide t pl)) (hp : 1 ≤ pl) (hn : n ≤ 4) : hdP t1 ya pl n = hdF hide t pl n := by
  funext j
  unfold hdP hdF
  by_cases e0 : j = 0
  · rw [if_neg (by omega), if_pos e0, h1, e0, va_up_at]
  · rw [if_neg e0]
    have e1 : t1 j = t j := by rw [h1]; unfold va_up; rw [if_neg e0]
    by_cases e2 : pl ≤ j ∧ j < pl + n
    · rw [if_pos e2, if_pos e2, e1, hM _ (by omega)]
    · rw [if_neg e2, if_neg e2, e1]
theorem dX5_hideNumber_0 : decode cX5_hideNumber 0 = .ok (.aload_n 2, 1) := by decide +kernel
theorem dX5_hideNumber_1 : decode cX5_hideNumber 1 = .ok (.getfield 43, 3) := by decide +kernel
theorem dX5_hideNumber_4 : decode cX5_hideNumber 4 = .ok (.astore 5, 2) := by decide +kernel
theorem dX5_hideNumber_6 : decode cX5_hideNumber 6 = .ok (.aload 5, 2) := by decide +kernel
theorem dX5_hideNumber_8 : decode cX5_hideNumber 8 = .ok (.iload_n 3, 1) := by decide +kernel
theorem dX5_hideNumber_9 : decode cX5_hideNumber 9 = .ok (.bipush 8, 2) := by decide +kernel
theorem dX5_hideNumber_11 : decode cX5_hideNumber 11 = .ok (.iadd, 1) := by decide +kernel
theorem dX5_hideNumber_12 : decode cX5_hideNumber 12 = .ok (.aload_n 0, 1) := by decide +kernel
theorem dX5_hideNumber_13 : decode cX5_hideNumber 13 = .ok (.getfield 9, 3) := by decide +kernel
theorem dX5_hideNumber_16 : decode cX5_hideNumber 16 = .ok (.iconst 0, 1) := by decide +kernel
theorem dX5_hideNumber_17 : decode cX5_hideNumber 17 = .ok (.bipush 12, 2) := by decide +kernel
theorem dX5_hideNumber_19 : decode cX5_hideNumber 19 = .ok (.invokestatic 54, 3) := by decide +kernel
theorem dX5_hideNumber_22 : decode cX5_hideNumber 22 = .ok (.aload_n 0, 1) := by decide +kernel
theorem dX5_hideNumber_23 : decode cX5_hideNumber 23 = .ok (.getfield 21, 3) := by decide +kernel
theorem dX5_hideNumber_26 : decode cX5_hideNumber 26 = .ok (.aload_n 1, 1) := by decide +kernel
theorem dX5_hideNumber_27 : decode cX5_hideNumber 27 = .ok (.getfield 64, 3) := by decide +kernel
theorem dX5_hideNumber_30 : decode cX5_hideNumber 30 = .ok (.getfield 43, 3) := by decide +kernel
theorem dX5_hideNumber_33 : decode cX5_hideNumber 33 = .ok (.aload_n 0, 1) := by decide +kernel
theorem dX5_hideNumber_34 : decode cX5_hideNumber 34 = .ok (.getfield 9, 3) := by decide +kernel
theorem dX5_hideNumber_37 : decode cX5_hideNumber 37 = .ok (.aload 5, 2) := by decide +kernel
theorem dX5_hideNumber_39 : decode cX5_hideNumber 39 = .ok (.iload_n 3, 1) := by decide +kernel
theorem dX5_hideNumber_40 : decode cX5_hideNumber 40 = .ok (.iconst 4, 1) := by decide +kernel
theorem dX5_hideNumber_41 : decode cX5_hideNumber 41 = .ok (.iadd, 1) := by decide +kernel
theorem dX5_hideNumber_42 : decode cX5_hideNumber 42 = .ok (.invokestatic 70, 3) := by decide +kernel
theorem dX5_hideNumber_45 : decode cX5_hideNumber 45 = .ok (.invokevirtual 74, 3) := by decide +kernel
theorem dX5_hideNumber_48 : decode cX5_hideNumber 48 = .ok (.aload_n 0, 1) := by decide +kernel
theorem dX5_hideNumber_49 : decode cX5_hideNumber 49 = .ok (.getfield 21, 3) := by decide +kernel
theorem dX5_hideNumber_52 : decode cX5_hideNumber 52 = .ok (.getfield 80, 3) := by decide +kernel
theorem dX5_hideNumber_55 : decode cX5_hideNumber 55 = .ok (.astore 6, 2) := by decide +kernel
theorem dX5_hideNumber_57 : decode cX5_hideNumber 57 = .ok (.aload 5, 2) := by decide +kernel
theorem dX5_hideNumber_59 : decode cX5_hideNumber 59 = .ok (.iconst 0, 1) := by decide +kernel
theorem dX5_hideNumber_60 : decode cX5_hideNumber 60 = .ok (.baload, 1) := by decide +kernel
theorem dX5_hideNumber_61 : decode cX5_hideNumber 61 = .ok (.istore 7, 2) := by decide +kernel
theorem dX5_hideNumber_63 : decode cX5_hideNumber 63 = .ok (.iload 7, 2) := by decide +kernel
theorem dX5_hideNumber_65 : decode cX5_hideNumber 65 = .ok (.aload 6, 2) := by decide +kernel
theorem dX5_hideNumber_67 : decode cX5_hideNumber 67 = .ok (.iconst 0, 1) := by decide +kernel
theorem dX5_hideNumber_68 : decode cX5_hideNumber 68 = .ok (.baload, 1) := by decide +kernel
theorem dX5_hideNumber_69 : decode cX5_hideNumber 69 = .ok (.iload 7, 2) := by decide +kernel
theorem dX5_hideNumber_71 : decode cX5_hideNumber 71 = .ok (.sipush 128, 3) := by decide +kernel
theorem dX5_hideNumber_74 : decode cX5_hideNumber 74 = .ok (.iand, 1) := by decide +kernel
theorem dX5_hideNumber_75 : decode cX5_hideNumber 75 = .ok (.ifCond .eq 8, 3) := by decide +kernel
theorem dX5_hideNumber_78 : decode cX5_hideNumber 78 = .ok (.bipush 15, 2) := by decide +kernel
theorem dX5_hideNumber_80 : decode cX5_hideNumber 80 = .ok (.goto 5, 3) := by decide +kernel
theorem dX5_hideNumber_83 : decode cX5_hideNumber 83 = .ok (.bipush 31, 2) := by decide +kernel
theorem dX5_hideNumber_85 : decode cX5_hideNumber 85 = .ok (.iand, 1) := by decide +kernel
theorem dX5_hideNumber_86 : decode cX5_hideNumber 86 = .ok (.ixor, 1) := by decide +kernel
theorem dX5_hideNumber_87 : decode cX5_hideNumber 87 = .ok (.istore 8, 2) := by decide +kernel
theorem dX5_hideNumber_89 : decode cX5_hideNumber 89 = .ok (.aload 5, 2) := by decide +kernel
theorem dX5_hideNumber_91 : decode cX5_hideNumber 91 = .ok (.iconst 0, 1) := by decide +kernel
theorem dX5_hideNumber_92 : decode cX5_hideNumber 92 = .ok (.iload 8, 2) := by decide +kernel
theorem dX5_hideNumber_94 : decode cX5_hideNumber 94 = .ok (.i2b, 1) := by decide +kernel
theorem dX5_hideNumber_95 : decode cX5_hideNumber 95 = .ok (.bastore, 1) := by decide +kernel
theorem dX5_hideNumber_96 : decode cX5_hideNumber 96 = .ok (.iload 4, 2) := by decide +kernel
theorem dX5_hideNumber_98 : decode cX5_hideNumber 98 = .ok (.ifCond .eq 8, 3) := by decide +kernel
theorem dX5_hideNumber_101 : decode cX5_hideNumber 101 = .ok (.iload 7, 2) := by decide +kernel
theorem dX5_hideNumber_103 : decode cX5_hideNumber 103 = .ok (.goto 5, 3) := by decide +kernel
theorem dX5_hideNumber_106 : decode cX5_hideNumber 106 = .ok (.iload 8, 2) := by decide +kernel
theorem dX5_hideNumber_108 : decode cX5_hideNumber 108 = .ok (.istore 9, 2) := by decide +kernel
theorem dX5_hideNumber_110 : decode cX5_hideNumber 110 = .ok (.iconst 1, 1) := by decide +kernel
theorem dX5_hideNumber_111 : decode cX5_hideNumber 111 = .ok (.iload 9, 2) := by decide +kernel
theorem dX5_hideNumber_113 : decode cX5_hideNumber 113 = .ok (.iconst 3, 1) := by decide +kernel
theorem dX5_hideNumber_114 : decode cX5_hideNumber 114 = .ok (.iand, 1) := by decide +kernel
theorem dX5_hideNumber_115 : decode cX5_hideNumber 115 = .ok (.iadd, 1) := by decide +kernel
theorem dX5_hideNumber_116 : decode cX5_hideNumber 116 = .ok (.istore 10, 2) := by decide +kernel
theorem dX5_hideNumber_118 : decode cX5_hideNumber 118 = .ok (.iconst 0, 1) := by decide +kernel
theorem dX5_hideNumber_119 : decode cX5_hideNumber 119 = .ok (.istore 11, 2) := by decide +kernel
theorem dX5_hideNumber_121 : decode cX5_hideNumber 121 = .ok (.iload 11, 2) := by decide +kernel
theorem dX5_hideNumber_123 : decode cX5_hideNumber 123 = .ok (.iload 10, 2) := by decide +kernel
theorem dX5_hideNumber_125 : decode cX5_hideNumber 125 = .ok (.if_icmp .ge 27, 3) := by decide +kernel
theorem dX5_hideNumber_128 : decode cX5_hideNumber 128 = .ok (.aload 5, 2) := by decide +kernel
theorem dX5_hideNumber_130 : decode cX5_hideNumber 130 = .ok (.iload_n 3, 1) := by decide +kernel
theorem dX5_hideNumber_131 : decode cX5_hideNumber 131 = .ok (.iload 11, 2) := by decide +kernel
theorem dX5_hideNumber_133 : decode cX5_hideNumber 133 = .ok (.iadd, 1) := by decide +kernel
theorem dX5_hideNumber_134 : decode cX5_hideNumber 134 = .ok (.dup2, 1) := by decide +kernel
theorem dX5_hideNumber_135 : decode cX5_hideNumber 135 = .ok (.baload, 1) := by decide +kernel
theorem dX5_hideNumber_136 : decode cX5_hideNumber 136 = .ok (.aload 6, 2) := by decide +kernel
theorem dX5_hideNumber_138 : decode cX5_hideNumber 138 = .ok (.iconst 1, 1) := by decide +kernel
theorem dX5_hideNumber_139 : decode cX5_hideNumber 139 = .ok (.iload 11, 2) := by decide +kernel
theorem dX5_hideNumber_141 : decode cX5_hideNumber 141 = .ok (.iadd, 1) := by decide +kernel
theorem dX5_hideNumber_142 : decode cX5_hideNumber 142 = .ok (.baload, 1) := by decide +kernel
theorem dX5_hideNumber_143 : decode cX5_hideNumber 143 = .ok (.ixor, 1) := by decide +kernel
theorem dX5_hideNumber_144 : decode cX5_hideNumber 144 = .ok (.i2b, 1) := by decide +kernel
theorem dX5_hideNumber_145 : decode cX5_hideNumber 145 = .ok (.bastore, 1) := by decide +kernel
theorem dX5_hideNumber_146 : decode cX5_hideNumber 146 = .ok (.iinc 11 1, 3) := by decide +kernel
theorem dX5_hideNumber_149 : decode cX5_hideNumber 149 = .ok (.goto (-28), 3) := by decide +kernel
theorem dX5_hideNumber_152 : decode cX5_hideNumber 152 = .ok (.iload 10, 2) := by decide +kernel
theorem dX5_hideNumber_154 : decode cX5_hideNumber 154 = .ok (.ireturn, 1) := by decide +kernel
set_option maxHeartbeats 4000000 in
set_option maxRecDepth 100000 in
theorem c_SL_hide (l : Launch) (D : va_G) (a0 : Nat) (a1 : Nat) (a2 : Nat) (p3 : Nat) (p4 : Nat) (a0_keyStream : Nat) (a0_tallier : Nat) (a0_nonce : Nat) (a0_sizes : Nat) (a0_madeTally : Nat) (a0_keyStream_first : Nat) (a0_keyStream_x : Nat) (a0_keyStream_bytes : Nat) (t_a0_keyStream_first : Nat → Wd) (t_a0_keyStream_x : Nat → Wd) (t_a0_keyStream_bytes : Nat → By) (t_a0_nonce : Nat → By) (a1_secret : Nat) (a1_key : Nat) (a1_iv : Nat) (a1_hide : Nat) (v_a1_phase : Int32) (a1_hide_bytes : Nat) (v_a1_hide_count : Nat) (t_a1_hide_bytes : Nat → By) (a2_bytes : Nat) (v_a2_count : Nat) (n2 : Nat) (t_a2_bytes : Nat → By)  (h1 : 1 ≤ p3) (h2 : p3 + 20 ≤ n2) (hn : n2 < 2 ^ 30) (hz : p4 < 2 ^ 31) : vM l D yX5_hideNumber cX5_hideNumber 12 (some .int) { frames := 4, cells := 0, slots := 0, locals := 89 } [.ref a0, .ref a1, .ref a2, .int (nI p3), .int (nI p4)] [(a0, .inr (5, [.ref a0_keyStream, .ref a0_tallier, .ref a0_nonce, .ref a0_sizes, .ref a0_madeTally])), (a0_keyStream, .inr (3, [.ref a0_keyStream_first, .ref a0_keyStream_x, .ref a0_keyStream_bytes])), (a0_keyStream_first, aW D 16 t_a0_keyStream_first), (a0_keyStream_x, aW D 16 t_a0_keyStream_x), (a0_keyStream_bytes, aB D 64 t_a0_keyStream_bytes), (a0_nonce, aB D 12 t_a0_nonce), (a1, .inr (1, [.ref a1_secret, .ref a1_key, .ref a1_iv, .ref a1_hide, .int v_a1_phase])), (a1_hide, .inr (4, [.ref a1_hide_bytes, .int (nI v_a1_hide_count)])), (a1_hide_bytes, aB D 32 t_a1_hide_bytes), (a2, .inr (4, [.ref a2_bytes, .int (nI v_a2_count)])), (a2_bytes, aB D n2 t_a2_bytes)] (fun r wo => ∃ (kf : Nat → Wd) (kx : Nat → Wd) (kb : Nat → By) (nn : Nat → By), r = some (.int (nI (hdN t_a1_hide_bytes t_a2_bytes p3 p4))) ∧ wo = [(a0, .inr (5, [.ref a0_keyStream, .ref a0_tallier, .ref a0_nonce, .ref a0_sizes, .ref a0_madeTally])), (a0_keyStream, .inr (3, [.ref a0_keyStream_first, .ref a0_keyStream_x, .ref a0_keyStream_bytes])), (a0_keyStream_first, aW D 16 kf), (a0_keyStream_x, aW D 16 kx), (a0_keyStream_bytes, aB D 64 kb), (a0_nonce, aB D 12 nn), (a1, .inr (1, [.ref a1_secret, .ref a1_key, .ref a1_iv, .ref a1_hide, .int v_a1_phase])), (a1_hide, .inr (4, [.ref a1_hide_bytes, .int (nI v_a1_hide_count)])), (a1_hide_bytes, aB D 32 t_a1_hide_bytes), (a2, .inr (4, [.ref a2_bytes, .int (nI v_a2_count)])), (a2_bytes, aB D n2 (hdF t_a1_hide_bytes t_a2_bytes p3 (hdN t_a1_hide_bytes t_a2_bytes p3 p4)))]) := by
  refine vM.of (by decide) (Nat.le_of_ble_eq_true rfl) (fun C hCl hCD g R => ?_)
  subst hCl; subst hCD
  show VJ C 0 0 0 [(0, .ref a0), (1, .ref a1), (2, .ref a2), (3, .int (nI p3)), (4, .int (nI p4))] [] [(a0, .inr (5, [.ref a0_keyStream, .ref a0_tallier, .ref a0_nonce, .ref a0_sizes, .ref a0_madeTally])), (a0_keyStream, .inr (3, [.ref a0_keyStream_first, .ref a0_keyStream_x, .ref a0_keyStream_bytes])), (a0_keyStream_first, aW C.D 16 t_a0_keyStream_first), (a0_keyStream_x, aW C.D 16 t_a0_keyStream_x), (a0_keyStream_bytes, aB C.D 64 t_a0_keyStream_bytes), (a0_nonce, aB C.D 12 t_a0_nonce), (a1, .inr (1, [.ref a1_secret, .ref a1_key, .ref a1_iv, .ref a1_hide, .int v_a1_phase])), (a1_hide, .inr (4, [.ref a1_hide_bytes, .int (nI v_a1_hide_count)])), (a1_hide_bytes, aB C.D 32 t_a1_hide_bytes), (a2, .inr (4, [.ref a2_bytes, .int (nI v_a2_count)])), (a2_bytes, aB C.D n2 t_a2_bytes)]
  refine v_aload_n g dX5_hideNumber_0 2 rfl 2 rfl ?_
  refine gf_X5_43 g dX5_hideNumber_1 9 rfl rfl ?_
  refine v_astore g [(5, .ref a2_bytes), (0, .ref a0), (1, .ref a1), (2, .ref a2), (3, .int (nI p3)), (4, .int (nI p4))] dX5_hideNumber_4 (by decide) rfl ?_
  refine v_aload g dX5_hideNumber_6 0 rfl ?_
  refine v_iload_n g dX5_hideNumber_8 3 rfl 4 rfl ?_
  refine v_bipush g dX5_hideNumber_9 (v := nI 8) (by decide +kernel) ?_
  refine v_iaddN g dX5_hideNumber_11 ?_
  refine v_aload_n g dX5_hideNumber_12 0 rfl 1 rfl ?_
  refine gf_X5_9 g dX5_hideNumber_13 0 rfl rfl ?_
  refine v_iconst g dX5_hideNumber_16 (v := nI 0) (by decide +kernel) ?_
  refine v_bipush g dX5_hideNumber_17 (v := nI 12) (by decide +kernel) ?_
  obtain ⟨t1, ht1⟩ : ∃ z : Nat → By, z = va_cpy t_a2_bytes t_a0_nonce (p3 + 8) 0 12 := ⟨_, rfl⟩
  refine v_acpB g ac_X5_54 t1 ht1 10 5 [(a0, .inr (5, [.ref a0_keyStream, .ref a0_tallier, .ref a0_nonce, .ref a0_sizes, .ref a0_madeTally])), (a0_keyStream, .inr (3, [.ref a0_keyStream_first, .ref a0_keyStream_x, .ref a0_keyStream_bytes])), (a0_keyStream_first, aW C.D 16 t_a0_keyStream_first), (a0_keyStream_x, aW C.D 16 t_a0_keyStream_x), (a0_keyStream_bytes, aB C.D 64 t_a0_keyStream_bytes), (a0_nonce, aB C.D 12 t1), (a1, .inr (1, [.ref a1_secret, .ref a1_key, .ref a1_iv, .ref a1_hide, .int v_a1_phase])), (a1_hide, .inr (4, [.ref a1_hide_bytes, .int (nI v_a1_hide_count)])), (a1_hide_bytes, aB C.D 32 t_a1_hide_bytes), (a2, .inr (4, [.ref a2_bytes, .int (nI v_a2_count)])), (a2_bytes, aB C.D n2 t_a2_bytes)] rfl rfl (by omega) (by omega) (by omega) (by omega) (by decide) (Nat.le_of_ble_eq_true rfl) dX5_hideNumber_19 rfl ?_
  refine v_aload_n g dX5_hideNumber_22 0 rfl 1 rfl ?_
  refine gf_X5_21 g dX5_hideNumber_23 0 rfl rfl ?_
  refine v_aload_n g dX5_hideNumber_26 1 rfl 2 rfl ?_
  refine gf_X5_64 g dX5_hideNumber_27 6 rfl rfl ?_
  refine gf_X5_43 g dX5_hideNumber_30 7 rfl rfl ?_
  refine v_aload_n g dX5_hideNumber_33 0 rfl 1 rfl ?_
  refine gf_X5_9 g dX5_hideNumber_34 0 rfl rfl ?_
  refine v_aload g dX5_hideNumber_37 0 rfl ?_
  refine v_iload_n g dX5_hideNumber_39 3 rfl 4 rfl ?_
  refine v_iconst g dX5_hideNumber_40 (v := nI 4) (by decide +kernel) ?_
  refine v_iaddN g dX5_hideNumber_41 ?_
  refine v_callSN (As := [.ref a2_bytes, .int (nI (p3 + 4))]) (rest := [.ref a0_nonce, .ref a1_hide_bytes, .ref a0_keyStream]) (wr := [(a0, .inr (5, [.ref a0_keyStream, .ref a0_tallier, .ref a0_nonce, .ref a0_sizes, .ref a0_madeTally])), (a0_keyStream, .inr (3, [.ref a0_keyStream_first, .ref a0_keyStream_x, .ref a0_keyStream_bytes])), (a0_keyStream_first, aW C.D 16 t_a0_keyStream_first), (a0_keyStream_x, aW C.D 16 t_a0_keyStream_x), (a0_keyStream_bytes, aB C.D 64 t_a0_keyStream_bytes), (a0_nonce, aB C.D 12 t1), (a1, .inr (1, [.ref a1_secret, .ref a1_key, .ref a1_iv, .ref a1_hide, .int v_a1_phase])), (a1_hide, .inr (4, [.ref a1_hide_bytes, .int (nI v_a1_hide_count)])), (a1_hide_bytes, aB C.D 32 t_a1_hide_bytes), (a2, .inr (4, [.ref a2_bytes, .int (nI v_a2_count)]))]) cw_X5_70 cl_X5_70 (hy_X7_readWord) g (c_readWord C.l C.D a2_bytes (p3 + 4) n2 t_a2_bytes (by omega) (by omega)) dX5_hideNumber_42 rfl (by decide) (by decide) (Nat.le_of_ble_eq_true rfl) [10] [0, 1, 2, 3, 4, 5, 6, 7, 8, 9] rfl rfl (by decide) rfl (by decide) (by decide) _ rfl (fun r wo hp2 => ?_)
  obtain ⟨rfl, rfl⟩ := hp2
  show VJ C 0 0 45 [(5, .ref a2_bytes), (0, .ref a0), (1, .ref a1), (2, .ref a2), (3, .int (nI p3)), (4, .int (nI p4))] [.int (wI (le4 t_a2_bytes (p3 + 4))), .ref a0_nonce, .ref a1_hide_bytes, .ref a0_keyStream] [(a0, .inr (5, [.ref a0_keyStream, .ref a0_tallier, .ref a0_nonce, .ref a0_sizes, .ref a0_madeTally])), (a0_keyStream, .inr (3, [.ref a0_keyStream_first, .ref a0_keyStream_x, .ref a0_keyStream_bytes])), (a0_keyStream_first, aW C.D 16 t_a0_keyStream_first), (a0_keyStream_x, aW C.D 16 t_a0_keyStream_x), (a0_keyStream_bytes, aB C.D 64 t_a0_keyStream_bytes), (a0_nonce, aB C.D 12 t1), (a1, .inr (1, [.ref a1_secret, .ref a1_key, .ref a1_iv, .ref a1_hide, .int v_a1_phase])), (a1_hide, .inr (4, [.ref a1_hide_bytes, .int (nI v_a1_hide_count)])), (a1_hide_bytes, aB C.D 32 t_a1_hide_bytes), (a2, .inr (4, [.ref a2_bytes, .int (nI v_a2_count)])), (a2_bytes, aB C.D n2 t_a2_bytes)]
  refine v_callV (As := [.ref a1_hide_bytes, .ref a0_nonce, .int (wI (le4 t_a2_bytes (p3 + 4)))]) (rest := []) (wr := [(a0, .inr (5, [.ref a0_keyStream, .ref a0_tallier, .ref a0_nonce, .ref a0_sizes, .ref a0_madeTally])), (a1, .inr (1, [.ref a1_secret, .ref a1_key, .ref a1_iv, .ref a1_hide, .int v_a1_phase])), (a1_hide, .inr (4, [.ref a1_hide_bytes, .int (nI v_a1_hide_count)])), (a2, .inr (4, [.ref a2_bytes, .int (nI v_a2_count)])), (a2_bytes, aB C.D n2 t_a2_bytes)]) cw_X5_74 (hy_X3_make) g (c_KS_make C.l C.D a0_keyStream a1_hide_bytes a0_nonce (le4 t_a2_bytes (p3 + 4)) a0_keyStream_first a0_keyStream_x a0_keyStream_bytes t_a0_keyStream_first t_a0_keyStream_x t_a0_keyStream_bytes 32 t_a1_hide_bytes 12 t1 (by decide) (by decide) (by decide) (by decide)) dX5_hideNumber_45 1 rfl rfl rfl (by decide) (by decide) (Nat.le_of_ble_eq_true rfl) [1, 2, 3, 4, 8, 5] [0, 6, 7, 9, 10] rfl rfl (by decide) rfl (by decide) (by decide) _ rfl (fun r wo hp3 => ?_)
  obtain ⟨fa, xa, ya, rfl, rfl, ha⟩ := hp3
  refine v_perm [0, 5, 6, 7, 8, 10, 1, 2, 9, 3, 4] [(a0, .inr (5, [.ref a0_keyStream, .ref a0_tallier, .ref a0_nonce, .ref a0_sizes, .ref a0_madeTally])), (a0_keyStream, .inr (3, [.ref a0_keyStream_first, .ref a0_keyStream_x, .ref a0_keyStream_bytes])), (a0_keyStream_first, aW C.D 16 fa), (a0_keyStream_x, aW C.D 16 xa), (a0_keyStream_bytes, aB C.D 64 ya), (a0_nonce, aB C.D 12 t1), (a1, .inr (1, [.ref a1_secret, .ref a1_key, .ref a1_iv, .ref a1_hide, .int v_a1_phase])), (a1_hide, .inr (4, [.ref a1_hide_bytes, .int (nI v_a1_hide_count)])), (a1_hide_bytes, aB C.D 32 t_a1_hide_bytes), (a2, .inr (4, [.ref a2_bytes, .int (nI v_a2_count)])), (a2_bytes, aB C.D n2 t_a2_bytes)] (by decide) rfl rfl ?_
  show VJ C 0 0 48 [(5, .ref a2_bytes), (0, .ref a0), (1, .ref a1), (2, .ref a2), (3, .int (nI p3)), (4, .int (nI p4))] [] [(a0, .inr (5, [.ref a0_keyStream, .ref a0_tallier, .ref a0_nonce, .ref a0_sizes, .ref a0_madeTally])), (a0_keyStream, .inr (3, [.ref a0_keyStream_first, .ref a0_keyStream_x, .ref a0_keyStream_bytes])), (a0_keyStream_first, aW C.D 16 fa), (a0_keyStream_x, aW C.D 16 xa), (a0_keyStream_bytes, aB C.D 64 ya), (a0_nonce, aB C.D 12 t1), (a1, .inr (1, [.ref a1_secret, .ref a1_key, .ref a1_iv, .ref a1_hide, .int v_a1_phase])), (a1_hide, .inr (4, [.ref a1_hide_bytes, .int (nI v_a1_hide_count)])), (a1_hide_bytes, aB C.D 32 t_a1_hide_bytes), (a2, .inr (4, [.ref a2_bytes, .int (nI v_a2_count)])), (a2_bytes, aB C.D n2 t_a2_bytes)]
  have hM : ∀ j, j < 64 → ya j = hdM t_a1_hide_bytes t_a2_bytes p3 j := hd_m ht1 ha
  refine v_aload_n g dX5_hideNumber_48 0 rfl 1 rfl ?_
  refine gf_X5_21 g dX5_hideNumber_49 0 rfl rfl ?_
  refine gf_X5_80 g dX5_hideNumber_52 1 rfl rfl ?_
  refine v_astore g [(6, .ref a0_keyStream_bytes), (5, .ref a2_bytes), (0, .ref a0), (1, .ref a1), (2, .ref a2), (3, .int (nI p3)), (4, .int (nI p4))] dX5_hideNumber_55 (by decide) rfl ?_
  refine v_aload g dX5_hideNumber_57 1 rfl ?_
  refine v_iconst g dX5_hideNumber_59 (v := nI 0) (by decide +kernel) ?_
  refine v_baldB g 10 rfl (by omega) (by omega) dX5_hideNumber_60 ?_
  refine v_istore g [(7, .int (bI (t_a2_bytes 0))), (6, .ref a0_keyStream_bytes), (5, .ref a2_bytes), (0, .ref a0), (1, .ref a1), (2, .ref a2), (3, .int (nI p3)), (4, .int (nI p4))] dX5_hideNumber_61 (by decide) rfl ?_
  refine v_iload g dX5_hideNumber_63 0 rfl ?_
  refine v_aload g dX5_hideNumber_65 1 rfl ?_
  refine v_iconst g dX5_hideNumber_67 (v := nI 0) (by decide +kernel) ?_
  refine v_baldB g 4 rfl (by decide) (by decide) dX5_hideNumber_68 ?_
  refine v_iload g dX5_hideNumber_69 0 rfl ?_
  refine v_sipush g dX5_hideNumber_71 (v := nI 128) (by decide +kernel) ?_
  refine v_iandW g ((t_a2_bytes 0).signExtend 32) (128#32) (bI_w (t_a2_bytes 0)) rfl dX5_hideNumber_74 ?_
  have J85 : ∀ (mk : Nat), (mk = if t_a2_bytes 0 &&& 128#8 = 0#8 then 31 else 15) → VJ C 0 0 85 [(7, .int (bI (t_a2_bytes 0))), (6, .ref a0_keyStream_bytes), (5, .ref a2_bytes), (0, .ref a0), (1, .ref a1), (2, .ref a2), (3, .int (nI p3)), (4, .int (nI p4))] [.int (nI mk), .int (bI (ya 0)), .int (bI (t_a2_bytes 0))] [(a0, .inr (5, [.ref a0_keyStream, .ref a0_tallier, .ref a0_nonce, .ref a0_sizes, .ref a0_madeTally])), (a0_keyStream, .inr (3, [.ref a0_keyStream_first, .ref a0_keyStream_x, .ref a0_keyStream_bytes])), (a0_keyStream_first, aW C.D 16 fa), (a0_keyStream_x, aW C.D 16 xa), (a0_keyStream_bytes, aB C.D 64 ya), (a0_nonce, aB C.D 12 t1), (a1, .inr (1, [.ref a1_secret, .ref a1_key, .ref a1_iv, .ref a1_hide, .int v_a1_phase])), (a1_hide, .inr (4, [.ref a1_hide_bytes, .int (nI v_a1_hide_count)])), (a1_hide_bytes, aB C.D 32 t_a1_hide_bytes), (a2, .inr (4, [.ref a2_bytes, .int (nI v_a2_count)])), (a2_bytes, aB C.D n2 t_a2_bytes)] := by
    intro mk hj0
    refine v_iandW g ((ya 0).signExtend 32) (BitVec.ofNat 32 mk) (bI_w (ya 0)) rfl dX5_hideNumber_85 ?_
    refine v_ixorW g ((t_a2_bytes 0).signExtend 32) (((ya 0).signExtend 32) &&& (BitVec.ofNat 32 mk)) (bI_w (t_a2_bytes 0)) rfl dX5_hideNumber_86 ?_
    refine v_toi (bI (hd0 t_a1_hide_bytes t_a2_bytes p3)) (by rw [hM 0 (by decide), hj0]; exact hd_b _ _ _) ?_
    refine v_istore g [(8, .int (bI (hd0 t_a1_hide_bytes t_a2_bytes p3))), (7, .int (bI (t_a2_bytes 0))), (6, .ref a0_keyStream_bytes), (5, .ref a2_bytes), (0, .ref a0), (1, .ref a1), (2, .ref a2), (3, .int (nI p3)), (4, .int (nI p4))] dX5_hideNumber_87 (by decide) rfl ?_
    refine v_aload g dX5_hideNumber_89 3 rfl ?_
    refine v_iconst g dX5_hideNumber_91 (v := nI 0) (by decide +kernel) ?_
    refine v_iload g dX5_hideNumber_92 0 rfl ?_
    refine v_i2bW g ((hd0 t_a1_hide_bytes t_a2_bytes p3).signExtend 32) (bI_w (hd0 t_a1_hide_bytes t_a2_bytes p3)) dX5_hideNumber_94 ?_
    refine v_toi (bI (hd0 t_a1_hide_bytes t_a2_bytes p3)) (congrArg bI (sx8 _)) ?_
    obtain ⟨t4, ht4⟩ : ∃ z : Nat → By, z = va_up t_a2_bytes 0 (hd0 t_a1_hide_bytes t_a2_bytes p3) := ⟨_, rfl⟩
    refine v_bastB g (hd0 t_a1_hide_bytes t_a2_bytes p3) rfl t4 ht4 10 [(a0, .inr (5, [.ref a0_keyStream, .ref a0_tallier, .ref a0_nonce, .ref a0_sizes, .ref a0_madeTally])), (a0_keyStream, .inr (3, [.ref a0_keyStream_first, .ref a0_keyStream_x, .ref a0_keyStream_bytes])), (a0_keyStream_first, aW C.D 16 fa), (a0_keyStream_x, aW C.D 16 xa), (a0_keyStream_bytes, aB C.D 64 ya), (a0_nonce, aB C.D 12 t1), (a1, .inr (1, [.ref a1_secret, .ref a1_key, .ref a1_iv, .ref a1_hide, .int v_a1_phase])), (a1_hide, .inr (4, [.ref a1_hide_bytes, .int (nI v_a1_hide_count)])), (a1_hide_bytes, aB C.D 32 t_a1_hide_bytes), (a2, .inr (4, [.ref a2_bytes, .int (nI v_a2_count)])), (a2_bytes, aB C.D n2 t4)] rfl (by omega) (by omega) dX5_hideNumber_95 rfl ?_
    refine v_iload g dX5_hideNumber_96 8 rfl ?_
    have J108 : ∀ (sv : By), (sv = if p4 = 0 then hd0 t_a1_hide_bytes t_a2_bytes p3 else t_a2_bytes 0) → VJ C 0 0 108 [(8, .int (bI (hd0 t_a1_hide_bytes t_a2_bytes p3))), (7, .int (bI (t_a2_bytes 0))), (6, .ref a0_keyStream_bytes), (5, .ref a2_bytes), (0, .ref a0), (1, .ref a1), (2, .ref a2), (3, .int (nI p3)), (4, .int (nI p4))] [.int (bI sv)] [(a0, .inr (5, [.ref a0_keyStream, .ref a0_tallier, .ref a0_nonce, .ref a0_sizes, .ref a0_madeTally])), (a0_keyStream, .inr (3, [.ref a0_keyStream_first, .ref a0_keyStream_x, .ref a0_keyStream_bytes])), (a0_keyStream_first, aW C.D 16 fa), (a0_keyStream_x, aW C.D 16 xa), (a0_keyStream_bytes, aB C.D 64 ya), (a0_nonce, aB C.D 12 t1), (a1, .inr (1, [.ref a1_secret, .ref a1_key, .ref a1_iv, .ref a1_hide, .int v_a1_phase])), (a1_hide, .inr (4, [.ref a1_hide_bytes, .int (nI v_a1_hide_count)])), (a1_hide_bytes, aB C.D 32 t_a1_hide_bytes), (a2, .inr (4, [.ref a2_bytes, .int (nI v_a2_count)])), (a2_bytes, aB C.D n2 t4)] := by
      intro sv hj0
      refine v_istore g [(9, .int (bI sv)), (8, .int (bI (hd0 t_a1_hide_bytes t_a2_bytes p3))), (7, .int (bI (t_a2_bytes 0))), (6, .ref a0_keyStream_bytes), (5, .ref a2_bytes), (0, .ref a0), (1, .ref a1), (2, .ref a2), (3, .int (nI p3)), (4, .int (nI p4))] dX5_hideNumber_108 (by decide) rfl ?_
      refine v_iconst g dX5_hideNumber_110 (v := nI 1) (by decide +kernel) ?_
      refine v_iload g dX5_hideNumber_111 0 rfl ?_
      refine v_iconst g dX5_hideNumber_113 (v := nI 3) (by decide +kernel) ?_
      refine v_iandW g (sv.signExtend 32) (3#32) (bI_w sv) rfl dX5_hideNumber_114 ?_
      refine v_iaddW g (1#32) ((sv.signExtend 32) &&& 3#32) rfl rfl dX5_hideNumber_115 ?_
      refine v_toi (nI (hdN t_a1_hide_bytes t_a2_bytes p3 p4)) (by rw [hj0]; exact hd_n _) ?_
      have hN := hdN_le t_a1_hide_bytes t_a2_bytes p3 p4
      refine v_istore g [(10, .int (nI (hdN t_a1_hide_bytes t_a2_bytes p3 p4))), (9, .int (bI sv)), (8, .int (bI (hd0 t_a1_hide_bytes t_a2_bytes p3))), (7, .int (bI (t_a2_bytes 0))), (6, .ref a0_keyStream_bytes), (5, .ref a2_bytes), (0, .ref a0), (1, .ref a1), (2, .ref a2), (3, .int (nI p3)), (4, .int (nI p4))] dX5_hideNumber_116 (by decide) rfl ?_
      refine v_iconst g dX5_hideNumber_118 (v := nI 0) (by decide +kernel) ?_
      refine v_istore g [(11, .int (nI 0)), (10, .int (nI (hdN t_a1_hide_bytes t_a2_bytes p3 p4))), (9, .int (bI sv)), (8, .int (bI (hd0 t_a1_hide_bytes t_a2_bytes p3))), (7, .int (bI (t_a2_bytes 0))), (6, .ref a0_keyStream_bytes), (5, .ref a2_bytes), (0, .ref a0), (1, .ref a1), (2, .ref a2), (3, .int (nI p3)), (4, .int (nI p4))] dX5_hideNumber_119 (by decide) rfl ?_
      have L121_4 : ∀ i : Nat, i ≤ (hdN t_a1_hide_bytes t_a2_bytes p3 p4) → ∀ (tb : Nat → By), (tb = hdP t4 ya p3 i) → VJ C 0 0 121 [(11, .int (nI i)), (10, .int (nI (hdN t_a1_hide_bytes t_a2_bytes p3 p4))), (9, .int (bI sv)), (8, .int (bI (hd0 t_a1_hide_bytes t_a2_bytes p3))), (7, .int (bI (t_a2_bytes 0))), (6, .ref a0_keyStream_bytes), (5, .ref a2_bytes), (0, .ref a0), (1, .ref a1), (2, .ref a2), (3, .int (nI p3)), (4, .int (nI p4))] [] [(a0, .inr (5, [.ref a0_keyStream, .ref a0_tallier, .ref a0_nonce, .ref a0_sizes, .ref a0_madeTally])), (a0_keyStream, .inr (3, [.ref a0_keyStream_first, .ref a0_keyStream_x, .ref a0_keyStream_bytes])), (a0_keyStream_first, aW C.D 16 fa), (a0_keyStream_x, aW C.D 16 xa), (a0_keyStream_bytes, aB C.D 64 ya), (a0_nonce, aB C.D 12 t1), (a1, .inr (1, [.ref a1_secret, .ref a1_key, .ref a1_iv, .ref a1_hide, .int v_a1_phase])), (a1_hide, .inr (4, [.ref a1_hide_bytes, .int (nI v_a1_hide_count)])), (a1_hide_bytes, aB C.D 32 t_a1_hide_bytes), (a2, .inr (4, [.ref a2_bytes, .int (nI v_a2_count)])), (a2_bytes, aB C.D n2 tb)] := by
        refine v_for ((hdN t_a1_hide_bytes t_a2_bytes p3 p4)) ?_ ?_
        · skip
          intro i hii ih tb hv0
          refine v_iload g dX5_hideNumber_121 0 rfl ?_
          refine v_iload g dX5_hideNumber_123 1 rfl ?_
          refine v_icmp_geN g 152 dX5_hideNumber_125 (by decide) (by omega) (by omega) (fun h5 => ?_) (fun h5 => ?_)
          · skip
            exact absurd h5 (by omega)
          · skip
            refine v_aload g dX5_hideNumber_128 6 rfl ?_
            refine v_iload_n g dX5_hideNumber_130 3 rfl 10 rfl ?_
            refine v_iload g dX5_hideNumber_131 0 rfl ?_
            refine v_iaddN g dX5_hideNumber_133 ?_
            refine v_dup2 g dX5_hideNumber_134 rfl rfl ?_
            refine v_baldB g 10 rfl (by omega) (by omega) dX5_hideNumber_135 ?_
            refine v_aload g dX5_hideNumber_136 5 rfl ?_
            refine v_iconst g dX5_hideNumber_138 (v := nI 1) (by decide +kernel) ?_
            refine v_iload g dX5_hideNumber_139 0 rfl ?_
            refine v_iaddN g dX5_hideNumber_141 ?_
            refine v_baldB g 4 rfl (by omega) (by decide) dX5_hideNumber_142 ?_
            refine v_ixorW g ((tb (p3 + i)).signExtend 32) ((ya (1 + i)).signExtend 32) (bI_w (tb (p3 + i))) (bI_w (ya (1 + i))) dX5_hideNumber_143 ?_
            refine v_i2bW g (((tb (p3 + i)).signExtend 32) ^^^ ((ya (1 + i)).signExtend 32)) rfl dX5_hideNumber_144 ?_
            refine v_toi (bI (tb (p3 + i) ^^^ ya (1 + i))) (congrArg bI (xbb _ _)) ?_
            obtain ⟨t6, ht6⟩ : ∃ z : Nat → By, z = va_up tb (p3 + i) (tb (p3 + i) ^^^ ya (1 + i)) := ⟨_, rfl⟩
            refine v_bastB g (tb (p3 + i) ^^^ ya (1 + i)) rfl t6 ht6 10 [(a0, .inr (5, [.ref a0_keyStream, .ref a0_tallier, .ref a0_nonce, .ref a0_sizes, .ref a0_madeTally])), (a0_keyStream, .inr (3, [.ref a0_keyStream_first, .ref a0_keyStream_x, .ref a0_keyStream_bytes])), (a0_keyStream_first, aW C.D 16 fa), (a0_keyStream_x, aW C.D 16 xa), (a0_keyStream_bytes, aB C.D 64 ya), (a0_nonce, aB C.D 12 t1), (a1, .inr (1, [.ref a1_secret, .ref a1_key, .ref a1_iv, .ref a1_hide, .int v_a1_phase])), (a1_hide, .inr (4, [.ref a1_hide_bytes, .int (nI v_a1_hide_count)])), (a1_hide_bytes, aB C.D 32 t_a1_hide_bytes), (a2, .inr (4, [.ref a2_bytes, .int (nI v_a2_count)])), (a2_bytes, aB C.D n2 t6)] rfl (by omega) (by omega) dX5_hideNumber_145 rfl ?_
            refine v_iincN g 1 [(11, .int (nI (i + 1))), (10, .int (nI (hdN t_a1_hide_bytes t_a2_bytes p3 p4))), (9, .int (bI sv)), (8, .int (bI (hd0 t_a1_hide_bytes t_a2_bytes p3))), (7, .int (bI (t_a2_bytes 0))), (6, .ref a0_keyStream_bytes), (5, .ref a2_bytes), (0, .ref a0), (1, .ref a1), (2, .ref a2), (3, .int (nI p3)), (4, .int (nI p4))] dX5_hideNumber_146 0 rfl (by decide +kernel) (by decide) rfl ?_
            refine v_goto g 121 dX5_hideNumber_149 (by decide) ?_
            exact ih t6 (by rw [ht6, hv0]; exact hdP_s _ _ _ _)
        · skip
          intro tb hv0
          refine v_iload g dX5_hideNumber_121 0 rfl ?_
          refine v_iload g dX5_hideNumber_123 1 rfl ?_
          refine v_icmp_geN g 152 dX5_hideNumber_125 (by decide) (by omega) (by omega) (fun h7 => ?_) (fun h7 => ?_)
          · skip
            refine v_iload g dX5_hideNumber_152 1 rfl ?_
            have e8 : tb = hdF t_a1_hide_bytes t_a2_bytes p3 (hdN t_a1_hide_bytes t_a2_bytes p3 p4) := by rw [hv0]; exact hd_end hM ht4 h1 hN
            rw [e8]
            exact v_iret g R dX5_hideNumber_154 (by decide) (by decide) ⟨fa, xa, ya, t1, rfl, rfl⟩
          · skip
            exact absurd h7 (by omega)
      exact L121_4 0 (by omega) t4 ((hdP_0 _ _ _).symm)
    refine v_if_eqN g 106 dX5_hideNumber_98 (by decide) (by omega) (fun h9 => ?_) (fun h9 => ?_)
    · skip
      refine v_iload g dX5_hideNumber_106 0 rfl ?_
      exact J108 (hd0 t_a1_hide_bytes t_a2_bytes p3) (by rw [if_pos h9])
    · skip
      refine v_iload g dX5_hideNumber_101 1 rfl ?_
      refine v_goto g 108 dX5_hideNumber_103 (by decide) ?_
      exact J108 (t_a2_bytes 0) (by rw [if_neg h9])
  refine v_if_eq g 83 dX5_hideNumber_75 (by decide) (fun h10 => ?_) (fun h10 => ?_)
  · skip
    refine v_bipush g dX5_hideNumber_83 (v := nI 31) (by decide +kernel) ?_
    exact J85 31 (by rw [if_pos ((hd_8 _).mp h10)])
  · skip
    refine v_bipush g dX5_hideNumber_78 (v := nI 15) (by decide +kernel) ?_
    refine v_goto g 85 dX5_hideNumber_80 (by decide) ?_
    exact J85 15 (by rw [if_neg (fun q => h10 ((hd_8 _).mpr q))])
