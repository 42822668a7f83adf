/-! TALLY: a number of bytes at a time -/
def po_c (j : Nat) (b : By) : By := if j % 4 = 3 then b &&& 15#8 else if j % 4 = 0 ∧ 0 < j then b &&& 252#8 else b
def po_R (key : Nat → By) : Nat := leN (fun j => po_c j (key j)) 16
def po_pc (t : Nat → By) (o n pad i : Nat) : Nat := leN (fun j => t (o + 16 * i + j)) (min 16 (n - 16 * i)) + 256 ^ (if pad = 0 then min 16 (n - 16 * i) else 16)
def po_it (R : Nat) (t : Nat → By) (o n pad acc : Nat) : Nat → Nat
  | 0 => acc
  | i + 1 => (po_it R t o n pad acc i + po_pc t o n pad i) * R % po_p
theorem po_m15 : ∀ b : By, (b.signExtend 32 &&& 15#32).setWidth 8 = b &&& 15#8 := by decide +kernel
theorem po_m252 : ∀ b : By, (b.signExtend 32 &&& 4294967292#32).setWidth 8 = b &&& 252#8 := by decide +kernel
theorem mask_bits : ∀ i : Fin 64, (4294967295#64)[i.val] = decide (i.val < 32) := by decide +kernel
theorem leN_succ (b : Nat → By) (n : Nat) : leN b (n + 1) = leN b n + (b n).toNat * 256 ^ n := rfl
theorem sx_mask (w : Wd) : xL (w.signExtend 64 &&& 4294967295#64) = lN w.toNat := by
  rw [xL_n]
  congr 1
  apply BitVec.eq_of_toNat_eq
  have e : w.signExtend 64 &&& 4294967295#64 = w.setWidth 64 := by
    ext i hi
    simp only [BitVec.getElem_and, BitVec.getElem_setWidth]
    have em : (4294967295#64)[i] = decide (i < 32) := mask_bits ⟨i, hi⟩
    rw [em, BitVec.getElem_signExtend]
    by_cases h : i < 32
    · simp [h]
    · simp [h, BitVec.getLsbD_of_ge w i (by omega)]
  rw [e]
  have h := w.isLt
  simp only [BitVec.toNat_setWidth, BitVec.toNat_ofNat]
theorem leN_drop {P Q : Nat → By} (n : Nat) (h : ∀ j, j < n → P j = Q j) (h0 : P n = 0#8) : leN P (n + 1) = leN Q n := by
  rw [leN_succ, leN_congr n h, h0, show (0#8).toNat = 0 from rfl, Nat.zero_mul, Nat.add_zero]
theorem po_zl {P key : Nat → By} (zp : ∀ j, j < 17 → P j = if j < 16 then po_c j (key j) else 0#8) : leN P 17 = po_R key :=
  leN_drop 16 (fun j hj => (zp j (Nat.lt_succ_of_lt hj)).trans (if_pos hj)) ((zp 16 (by decide)).trans (if_neg (by decide)))
theorem po_R_lt (key : Nat → By) : po_R key < 2 ^ 128 := leN_lt _ 16
theorem po_zp {key t0 t1 t2 t3 t4 t5 t6 t7 t8 t9 : Nat → By} (h1 : t1 = va_cpy key t0 0 0 16) (h2 : t2 = va_up t1 16 0#8) (h3 : t3 = va_up t2 3 (t2 3 &&& 15#8)) (h4 : t4 = va_up t3 7 (t3 7 &&& 15#8)) (h5 : t5 = va_up t4 11 (t4 11 &&& 15#8)) (h6 : t6 = va_up t5 15 (t5 15 &&& 15#8)) (h7 : t7 = va_up t6 4 (t6 4 &&& 252#8)) (h8 : t8 = va_up t7 8 (t7 8 &&& 252#8)) (h9 : t9 = va_up t8 12 (t8 12 &&& 252#8)) : ∀ j, j < 17 → t9 j = if j < 16 then po_c j (key j) else 0#8 := by
  have c : ∀ j, j < 16 → t1 j = key j := fun j hj => by rw [h1, pk_cpy_in (by omega) (by omega), Nat.zero_add, Nat.sub_zero]
  intro j hj
  have z : j = 0 ∨ j = 1 ∨ j = 2 ∨ j = 3 ∨ j = 4 ∨ j = 5 ∨ j = 6 ∨ j = 7 ∨ j = 8 ∨ j = 9 ∨ j = 10 ∨ j = 11 ∨ j = 12 ∨ j = 13 ∨ j = 14 ∨ j = 15 ∨ j = 16 := by omega
  rcases z with rfl | rfl | rfl | rfl | rfl | rfl | rfl | rfl | rfl | rfl | rfl | rfl | rfl | rfl | rfl | rfl | rfl <;> simp [h9, h8, h7, h6, h5, h4, h3, h2, va_up, c, po_c]
theorem leN_step (s : Nat → By) (m x : Nat) (hmx : m ≤ x) : ∀ n, leN (fun j => if j < m then s j else if j = x then 1#8 else 0#8) n = leN s (min m n) + (if x < n then 256 ^ x else 0) := by
  intro n
  induction n with
  | zero => simp [leN]
  | succ n ih =>
    simp only [leN]
    rw [ih]
    by_cases h1 : n < m
    · rw [if_pos h1, if_neg (by omega), if_neg (by omega), show min m (n + 1) = n + 1 by omega, show min m n = n by omega]
      simp only [leN]; omega
    · rw [if_neg h1, show min m (n + 1) = min m n by omega]
      by_cases h2 : n = x
      · rw [if_pos h2, if_neg (by omega), if_pos (by omega), h2]; simp
      · rw [if_neg h2]
        by_cases h3 : x < n
        · rw [if_pos h3, if_pos (by omega)]; simp
        · rw [if_neg h3, if_neg (by omega)]; simp
theorem po_piece {t tt : Nat → By} {o mm x : Nat} (hm : mm ≤ 16) (hx : mm ≤ x) (hx2 : x ≤ 16) (h : ∀ j, j < 17 → tt j = if j < mm then t (o + j) else 0#8) : leN (va_up tt x 1#8) 17 = leN (fun j => t (o + j)) mm + 256 ^ x := by
  have e := leN_step (fun j => t (o + j)) mm x hx 17
  rw [if_pos (by omega), show min mm 17 = mm by omega] at e
  rw [← e]
  refine leN_congr 17 (fun j hj => ?_)
  unfold va_up
  by_cases e1 : j = x
  · rw [if_pos e1, if_neg (by omega), if_pos e1]
  · rw [if_neg e1, h j hj]
    by_cases e2 : j < mm
    · rw [if_pos e2, if_pos e2]
    · rw [if_neg e2, if_neg e2, if_neg e1]
theorem po_piece_lt (s : Nat → By) {m x : Nat} (hm : m ≤ 16) (hx : x ≤ 16) : leN s m + 256 ^ x < 2 ^ 130 := by
  have h1 := leN_lt s m
  have h2 : 256 ^ m ≤ 256 ^ 16 := Nat.pow_le_pow_right (by decide) hm
  have h3 : 256 ^ x ≤ 256 ^ 16 := Nat.pow_le_pow_right (by decide) hx
  omega
theorem po_next {X P R Z k a : Nat} (hX : X % po_p = a) (e : (X + P) * R = Z + k * po_p) : Z % po_p = (a + P) * R % po_p := by
  have h1 : Z % po_p = (Z + k * po_p) % po_p := (Nat.add_mul_mod_self_right Z k po_p).symm
  rw [h1, ← e, ← hX, Nat.mul_mod, Nat.add_mod X P]
  rw [Nat.mul_mod (X % po_p + P) R, Nat.add_mod (X % po_p) P, Nat.mod_mod]
theorem po_byte {T S q k : Nat} (hk : k < 4) (h : S % 2 ^ 32 = T / 2 ^ (32 * q) % 2 ^ 32) (hS : S < 2 ^ 64) : (BitVec.ofNat 64 S >>> (8 * k)).setWidth 8 = BitVec.ofNat 8 (T / 256 ^ (4 * q + k)) := by
  apply BitVec.eq_of_toNat_eq
  simp only [BitVec.toNat_setWidth, BitVec.toNat_ushiftRight, BitVec.toNat_ofNat, Nat.shiftRight_eq_div_pow]
  rw [Nat.mod_eq_of_lt hS]
  have e : 256 ^ (4 * q + k) = 2 ^ (32 * q) * 2 ^ (8 * k) := by
    rw [show (256 : Nat) = 2 ^ 8 from rfl, ← Nat.pow_mul, ← Nat.pow_add]; congr 1; omega
  rw [e, ← Nat.div_div_eq_div_mul]
  generalize T / 2 ^ (32 * q) = U at h ⊢
  have e4 : k = 0 ∨ k = 1 ∨ k = 2 ∨ k = 3 := by omega
  rcases e4 with rfl | rfl | rfl | rfl
  · show S / 2 ^ 0 % 2 ^ 8 = U / 2 ^ 0 % 2 ^ 8; omega
  · show S / 2 ^ 8 % 2 ^ 8 = U / 2 ^ 8 % 2 ^ 8; omega
  · show S / 2 ^ 16 % 2 ^ 8 = U / 2 ^ 16 % 2 ^ 8; omega
  · show S / 2 ^ 24 % 2 ^ 8 = U / 2 ^ 24 % 2 ^ 8; omega
theorem po_sum {z0 z1 z2 z3 z4 s0 s1 s2 s3 S0 S1 S2 S3 : Nat} (b0 : z0 < 2 ^ 26) (b1 : z1 < 2 ^ 26) (b2 : z2 < 2 ^ 26) (b3 : z3 < 2 ^ 26) (b4 : z4 < 2 ^ 26) (g0 : s0 < 2 ^ 32) (g1 : s1 < 2 ^ 32) (g2 : s2 < 2 ^ 32) (g3 : s3 < 2 ^ 32)
    (e0 : S0 = 0 / 2 ^ 32 + (z0 / 2 ^ 0 + z1 * 2 ^ 26) % 2 ^ 32 + s0) (e1 : S1 = S0 / 2 ^ 32 + (z1 / 2 ^ 6 + z2 * 2 ^ 20) % 2 ^ 32 + s1) (e2 : S2 = S1 / 2 ^ 32 + (z2 / 2 ^ 12 + z3 * 2 ^ 14) % 2 ^ 32 + s2) (e3 : S3 = S2 / 2 ^ 32 + (z3 / 2 ^ 18 + z4 * 2 ^ 8) % 2 ^ 32 + s3) :
    let T := val5 z0 z1 z2 z3 z4 + (s0 + s1 * 2 ^ 32 + s2 * 2 ^ 64 + s3 * 2 ^ 96)
    S0 % 2 ^ 32 = T / 2 ^ (32 * 0) % 2 ^ 32 ∧ S1 % 2 ^ 32 = T / 2 ^ (32 * 1) % 2 ^ 32 ∧ S2 % 2 ^ 32 = T / 2 ^ (32 * 2) % 2 ^ 32 ∧ S3 % 2 ^ 32 = T / 2 ^ (32 * 3) % 2 ^ 32 ∧ S0 < 2 ^ 64 ∧ S1 < 2 ^ 64 ∧ S2 < 2 ^ 64 ∧ S3 < 2 ^ 64 := by
  intro T
  obtain ⟨A3, hA3⟩ : ∃ A, A = z3 / 2 ^ 18 + z4 * 2 ^ 8 := ⟨_, rfl⟩
  obtain ⟨A2, hA2⟩ : ∃ A, A = z2 / 2 ^ 12 + z3 * 2 ^ 14 + z4 * 2 ^ 40 := ⟨_, rfl⟩
  obtain ⟨A1, hA1⟩ : ∃ A, A = z1 / 2 ^ 6 + z2 * 2 ^ 20 + z3 * 2 ^ 46 + z4 * 2 ^ 72 := ⟨_, rfl⟩
  have w0 : val5 z0 z1 z2 z3 z4 = (z0 / 2 ^ 0 + z1 * 2 ^ 26) % 2 ^ 32 + A1 * 2 ^ 32 := by unfold val5; omega
  have w1 : A1 = (z1 / 2 ^ 6 + z2 * 2 ^ 20) % 2 ^ 32 + A2 * 2 ^ 32 := by omega
  have w2 : A2 = (z2 / 2 ^ 12 + z3 * 2 ^ 14) % 2 ^ 32 + A3 * 2 ^ 32 := by omega
  rw [← hA3] at e3
  have hT : T = (z0 / 2 ^ 0 + z1 * 2 ^ 26) % 2 ^ 32 + A1 * 2 ^ 32 + (s0 + s1 * 2 ^ 32 + s2 * 2 ^ 64 + s3 * 2 ^ 96) := by show val5 z0 z1 z2 z3 z4 + _ = _; rw [w0]
  have l0 : (z0 / 2 ^ 0 + z1 * 2 ^ 26) % 2 ^ 32 < 2 ^ 32 := Nat.mod_lt _ (by decide)
  have l1 : (z1 / 2 ^ 6 + z2 * 2 ^ 20) % 2 ^ 32 < 2 ^ 32 := Nat.mod_lt _ (by decide)
  have l2 : (z2 / 2 ^ 12 + z3 * 2 ^ 14) % 2 ^ 32 < 2 ^ 32 := Nat.mod_lt _ (by decide)
  generalize (z0 / 2 ^ 0 + z1 * 2 ^ 26) % 2 ^ 32 = W0 at *
  generalize (z1 / 2 ^ 6 + z2 * 2 ^ 20) % 2 ^ 32 = W1 at *
  generalize (z2 / 2 ^ 12 + z3 * 2 ^ 14) % 2 ^ 32 = W2 at *
  clear hA1 hA2 hA3 w0 b0 b1 b2 b3 b4
  generalize T = T' at *
  obtain ⟨T1, hT1⟩ : ∃ U, U = T' / 2 ^ 32 := ⟨_, rfl⟩
  have t1 : T1 = S0 / 2 ^ 32 + A1 + s1 + s2 * 2 ^ 32 + s3 * 2 ^ 64 := by omega
  have q0 : S0 % 2 ^ 32 = T' % 2 ^ 32 := by omega
  obtain ⟨T2, hT2⟩ : ∃ U, U = T1 / 2 ^ 32 := ⟨_, rfl⟩
  have c0 : S0 / 2 ^ 32 < 2 ^ 32 := by omega
  have t2 : T2 = S1 / 2 ^ 32 + A2 + s2 + s3 * 2 ^ 32 := by omega
  have q1 : S1 % 2 ^ 32 = T1 % 2 ^ 32 := by omega
  obtain ⟨T3, hT3⟩ : ∃ U, U = T2 / 2 ^ 32 := ⟨_, rfl⟩
  have c1 : S1 / 2 ^ 32 < 2 ^ 32 := by omega
  have t3 : T3 = S2 / 2 ^ 32 + A3 + s3 := by omega
  have q2 : S2 % 2 ^ 32 = T2 % 2 ^ 32 := by omega
  have q3 : S3 % 2 ^ 32 = T3 % 2 ^ 32 := by omega
  have d2 : T' / 2 ^ (32 * 2) = T2 := by rw [hT2, hT1, Nat.div_div_eq_div_mul]
  have d3 : T' / 2 ^ (32 * 3) = T3 := by rw [hT3, hT2, hT1, Nat.div_div_eq_div_mul, Nat.div_div_eq_div_mul]
  have d1 : T' / 2 ^ (32 * 1) = T1 := hT1.symm
  have d0 : T' / 2 ^ (32 * 0) = T' := Nat.div_one T'
  have c2 : S2 / 2 ^ 32 < 2 ^ 32 := by omega
  rw [d0, d1, d2, d3]
  exact ⟨q0, q1, q2, q3, by omega, by omega, by omega, by omega⟩
theorem wb_in {t : Nat → By} {o n j : Nat} {x : BitVec 64} (h1 : o ≤ j) (h2 : j < o + n) : wb t o n x j = (x >>> (8 * (j - o))).setWidth 8 := by unfold wb; rw [if_pos ⟨h1, h2⟩]
theorem wb_out {t : Nat → By} {o n j : Nat} {x : BitVec 64} (h : j < o ∨ o + n ≤ j) : wb t o n x j = t j := by unfold wb; rw [if_neg (by omega)]
theorem po_out {t : Nat → By} {T S0 S1 S2 S3 : Nat} (h0 : S0 % 2 ^ 32 = T / 2 ^ (32 * 0) % 2 ^ 32) (h1 : S1 % 2 ^ 32 = T / 2 ^ (32 * 1) % 2 ^ 32) (h2 : S2 % 2 ^ 32 = T / 2 ^ (32 * 2) % 2 ^ 32) (h3 : S3 % 2 ^ 32 = T / 2 ^ (32 * 3) % 2 ^ 32) (b0 : S0 < 2 ^ 64) (b1 : S1 < 2 ^ 64) (b2 : S2 < 2 ^ 64) (b3 : S3 < 2 ^ 64) : ∀ j, j < 16 → wb (wb (wb (wb t 0 4 (BitVec.ofNat 64 S0)) 4 4 (BitVec.ofNat 64 S1)) 8 4 (BitVec.ofNat 64 S2)) 12 4 (BitVec.ofNat 64 S3) j = BitVec.ofNat 8 (T / 256 ^ j) := by
  intro j hj
  by_cases e3 : 12 ≤ j
  · rw [wb_in e3 (by omega), po_byte (q := 3) (by omega) h3 b3, show 4 * 3 + (j - 12) = j by omega]
  · rw [wb_out (by omega)]
    by_cases e2 : 8 ≤ j
    · rw [wb_in e2 (by omega), po_byte (q := 2) (by omega) h2 b2, show 4 * 2 + (j - 8) = j by omega]
    · rw [wb_out (by omega)]
      by_cases e1 : 4 ≤ j
      · rw [wb_in e1 (by omega), po_byte (q := 1) (by omega) h1 b1, show 4 * 1 + (j - 4) = j by omega]
      · rw [wb_out (by omega), wb_in (by omega) (by omega), po_byte (q := 0) (by omega) h0 b0, show 4 * 0 + (j - 0) = j by omega]
theorem dX6_start_0 : decode cX6_start 0 = .ok (.aload_n 1, 1) := by decide +kernel
theorem dX6_start_1 : decode cX6_start 1 = .ok (.iconst 0, 1) := by decide +kernel
theorem dX6_start_2 : decode cX6_start 2 = .ok (.aload_n 0, 1) := by decide +kernel
theorem dX6_start_3 : decode cX6_start 3 = .ok (.getfield 24, 3) := by decide +kernel
theorem dX6_start_6 : decode cX6_start 6 = .ok (.iconst 0, 1) := by decide +kernel
theorem dX6_start_7 : decode cX6_start 7 = .ok (.bipush 16, 2) := by decide +kernel
theorem dX6_start_9 : decode cX6_start 9 = .ok (.invokestatic 28, 3) := by decide +kernel
theorem dX6_start_12 : decode cX6_start 12 = .ok (.aload_n 0, 1) := by decide +kernel
theorem dX6_start_13 : decode cX6_start 13 = .ok (.getfield 24, 3) := by decide +kernel
theorem dX6_start_16 : decode cX6_start 16 = .ok (.bipush 16, 2) := by decide +kernel
theorem dX6_start_18 : decode cX6_start 18 = .ok (.iconst 0, 1) := by decide +kernel
theorem dX6_start_19 : decode cX6_start 19 = .ok (.bastore, 1) := by decide +kernel
theorem dX6_start_20 : decode cX6_start 20 = .ok (.iconst 3, 1) := by decide +kernel
theorem dX6_start_21 : decode cX6_start 21 = .ok (.istore_n 2, 1) := by decide +kernel
theorem dX6_start_22 : decode cX6_start 22 = .ok (.iload_n 2, 1) := by decide +kernel
theorem dX6_start_23 : decode cX6_start 23 = .ok (.bipush 16, 2) := by decide +kernel
theorem dX6_start_25 : decode cX6_start 25 = .ok (.if_icmp .ge 21, 3) := by decide +kernel
theorem dX6_start_28 : decode cX6_start 28 = .ok (.aload_n 0, 1) := by decide +kernel
theorem dX6_start_29 : decode cX6_start 29 = .ok (.getfield 24, 3) := by decide +kernel
theorem dX6_start_32 : decode cX6_start 32 = .ok (.iload_n 2, 1) := by decide +kernel
theorem dX6_start_33 : decode cX6_start 33 = .ok (.dup2, 1) := by decide +kernel
theorem dX6_start_34 : decode cX6_start 34 = .ok (.baload, 1) := by decide +kernel
theorem dX6_start_35 : decode cX6_start 35 = .ok (.bipush 15, 2) := by decide +kernel
theorem dX6_start_37 : decode cX6_start 37 = .ok (.iand, 1) := by decide +kernel
theorem dX6_start_38 : decode cX6_start 38 = .ok (.i2b, 1) := by decide +kernel
theorem dX6_start_39 : decode cX6_start 39 = .ok (.bastore, 1) := by decide +kernel
theorem dX6_start_40 : decode cX6_start 40 = .ok (.iinc 2 4, 3) := by decide +kernel
theorem dX6_start_43 : decode cX6_start 43 = .ok (.goto (-21), 3) := by decide +kernel
theorem dX6_start_46 : decode cX6_start 46 = .ok (.iconst 4, 1) := by decide +kernel
theorem dX6_start_47 : decode cX6_start 47 = .ok (.istore_n 2, 1) := by decide +kernel
theorem dX6_start_48 : decode cX6_start 48 = .ok (.iload_n 2, 1) := by decide +kernel
theorem dX6_start_49 : decode cX6_start 49 = .ok (.bipush 16, 2) := by decide +kernel
theorem dX6_start_51 : decode cX6_start 51 = .ok (.if_icmp .ge 21, 3) := by decide +kernel
theorem dX6_start_54 : decode cX6_start 54 = .ok (.aload_n 0, 1) := by decide +kernel
theorem dX6_start_55 : decode cX6_start 55 = .ok (.getfield 24, 3) := by decide +kernel
theorem dX6_start_58 : decode cX6_start 58 = .ok (.iload_n 2, 1) := by decide +kernel
theorem dX6_start_59 : decode cX6_start 59 = .ok (.dup2, 1) := by decide +kernel
theorem dX6_start_60 : decode cX6_start 60 = .ok (.baload, 1) := by decide +kernel
theorem dX6_start_61 : decode cX6_start 61 = .ok (.bipush (-4), 2) := by decide +kernel
theorem dX6_start_63 : decode cX6_start 63 = .ok (.iand, 1) := by decide +kernel
theorem dX6_start_64 : decode cX6_start 64 = .ok (.i2b, 1) := by decide +kernel
theorem dX6_start_65 : decode cX6_start 65 = .ok (.bastore, 1) := by decide +kernel
theorem dX6_start_66 : decode cX6_start 66 = .ok (.iinc 2 4, 3) := by decide +kernel
theorem dX6_start_69 : decode cX6_start 69 = .ok (.goto (-21), 3) := by decide +kernel
theorem dX6_start_72 : decode cX6_start 72 = .ok (.iconst 0, 1) := by decide +kernel
theorem dX6_start_73 : decode cX6_start 73 = .ok (.istore_n 2, 1) := by decide +kernel
theorem dX6_start_74 : decode cX6_start 74 = .ok (.iload_n 2, 1) := by decide +kernel
theorem dX6_start_75 : decode cX6_start 75 = .ok (.iconst 5, 1) := by decide +kernel
theorem dX6_start_76 : decode cX6_start 76 = .ok (.if_icmp .ge 28, 3) := by decide +kernel
theorem dX6_start_79 : decode cX6_start 79 = .ok (.aload_n 0, 1) := by decide +kernel
theorem dX6_start_80 : decode cX6_start 80 = .ok (.getfield 15, 3) := by decide +kernel
theorem dX6_start_83 : decode cX6_start 83 = .ok (.iload_n 2, 1) := by decide +kernel
theorem dX6_start_84 : decode cX6_start 84 = .ok (.aload_n 0, 1) := by decide +kernel
theorem dX6_start_85 : decode cX6_start 85 = .ok (.iload_n 2, 1) := by decide +kernel
theorem dX6_start_86 : decode cX6_start 86 = .ok (.invokevirtual 34, 3) := by decide +kernel
theorem dX6_start_89 : decode cX6_start 89 = .ok (.i2l, 1) := by decide +kernel
theorem dX6_start_90 : decode cX6_start 90 = .ok (.lastore, 1) := by decide +kernel
theorem dX6_start_91 : decode cX6_start 91 = .ok (.aload_n 0, 1) := by decide +kernel
theorem dX6_start_92 : decode cX6_start 92 = .ok (.getfield 11, 3) := by decide +kernel
theorem dX6_start_95 : decode cX6_start 95 = .ok (.iload_n 2, 1) := by decide +kernel
theorem dX6_start_96 : decode cX6_start 96 = .ok (.lconst 0, 1) := by decide +kernel
theorem dX6_start_97 : decode cX6_start 97 = .ok (.lastore, 1) := by decide +kernel
theorem dX6_start_98 : decode cX6_start 98 = .ok (.iinc 2 1, 3) := by decide +kernel
theorem dX6_start_101 : decode cX6_start 101 = .ok (.goto (-27), 3) := by decide +kernel
theorem dX6_start_104 : decode cX6_start 104 = .ok (.iconst 0, 1) := by decide +kernel
theorem dX6_start_105 : decode cX6_start 105 = .ok (.istore_n 2, 1) := by decide +kernel
theorem dX6_start_106 : decode cX6_start 106 = .ok (.iload_n 2, 1) := by decide +kernel
theorem dX6_start_107 : decode cX6_start 107 = .ok (.iconst 4, 1) := by decide +kernel
theorem dX6_start_108 : decode cX6_start 108 = .ok (.if_icmp .ge 30, 3) := by decide +kernel
theorem dX6_start_111 : decode cX6_start 111 = .ok (.aload_n 0, 1) := by decide +kernel
theorem dX6_start_112 : decode cX6_start 112 = .ok (.getfield 21, 3) := by decide +kernel
theorem dX6_start_115 : decode cX6_start 115 = .ok (.iload_n 2, 1) := by decide +kernel
theorem dX6_start_116 : decode cX6_start 116 = .ok (.aload_n 1, 1) := by decide +kernel
theorem dX6_start_117 : decode cX6_start 117 = .ok (.bipush 16, 2) := by decide +kernel
theorem dX6_start_119 : decode cX6_start 119 = .ok (.iconst 4, 1) := by decide +kernel
theorem dX6_start_120 : decode cX6_start 120 = .ok (.iload_n 2, 1) := by decide +kernel
theorem dX6_start_121 : decode cX6_start 121 = .ok (.imul, 1) := by decide +kernel
theorem dX6_start_122 : decode cX6_start 122 = .ok (.iadd, 1) := by decide +kernel
theorem dX6_start_123 : decode cX6_start 123 = .ok (.invokestatic 38, 3) := by decide +kernel
theorem dX6_start_126 : decode cX6_start 126 = .ok (.i2l, 1) := by decide +kernel
theorem dX6_start_127 : decode cX6_start 127 = .ok (.ldc2_w 42, 3) := by decide +kernel
theorem dX6_start_130 : decode cX6_start 130 = .ok (.land, 1) := by decide +kernel
theorem dX6_start_131 : decode cX6_start 131 = .ok (.lastore, 1) := by decide +kernel
theorem dX6_start_132 : decode cX6_start 132 = .ok (.iinc 2 1, 3) := by decide +kernel
theorem dX6_start_135 : decode cX6_start 135 = .ok (.goto (-29), 3) := by decide +kernel
theorem dX6_start_138 : decode cX6_start 138 = .ok (.return_, 1) := by decide +kernel
set_option maxHeartbeats 4000000 in
set_option maxRecDepth 100000 in
theorem c_TL_start (l : Launch) (D : va_G) (a0 : Nat) (a1 : Nat) (a0_a : Nat) (a0_r : Nat) (a0_product : Nat) (a0_s : Nat) (a0_piece : Nat) (t_a0_s : Nat → Nat) (t_a0_piece : Nat → By) (n1 : Nat) (t_a1 : Nat → By) (x0 x1 x2 x3 x4 r0 r1 r2 r3 r4 : Nat) (h1 : 32 ≤ n1) (hn : n1 < 2 ^ 31) : vM l D yX6_start cX6_start 3 none { frames := 2, cells := 0, slots := 0, locals := 43 } [.ref a0, .ref a1] [(a0, .inr (6, [.ref a0_a, .ref a0_r, .ref a0_product, .ref a0_s, .ref a0_piece])), (a0_a, aL D 5 (v5 x0 x1 x2 x3 x4)), (a0_r, aL D 5 (v5 r0 r1 r2 r3 r4)), (a0_s, aL D 4 t_a0_s), (a0_piece, aB D 17 t_a0_piece), (a1, aB D n1 t_a1)] (fun r wo => ∃ (y0 : Nat) (y1 : Nat) (y2 : Nat) (y3 : Nat) (y4 : Nat) (s1 : Nat → Nat) (b1 : Nat → By), r = none ∧ wo = [(a0, .inr (6, [.ref a0_a, .ref a0_r, .ref a0_product, .ref a0_s, .ref a0_piece])), (a0_a, aL D 5 (v5 0 0 0 0 0)), (a0_r, aL D 5 (v5 y0 y1 y2 y3 y4)), (a0_s, aL D 4 s1), (a0_piece, aB D 17 b1), (a1, aB D n1 t_a1)] ∧ (y0 < 2 ^ 26) ∧ (y1 < 2 ^ 26) ∧ (y2 < 2 ^ 26) ∧ (y3 < 2 ^ 26) ∧ (y4 < 2 ^ 26) ∧ (val5 y0 y1 y2 y3 y4 = po_R t_a1) ∧ (∀ i, i < 4 → s1 i = (le4 t_a1 (16 + 4 * i)).toNat)) := by
  refine vM.of (by decide) (Nat.le_of_ble_eq_true rfl) (fun C hCl hCD g R => ?_)
  subst hCl; subst hCD
  show VJ C 0 0 0 [(0, .ref a0), (1, .ref a1)] [] [(a0, .inr (6, [.ref a0_a, .ref a0_r, .ref a0_product, .ref a0_s, .ref a0_piece])), (a0_a, aL C.D 5 (v5 x0 x1 x2 x3 x4)), (a0_r, aL C.D 5 (v5 r0 r1 r2 r3 r4)), (a0_s, aL C.D 4 t_a0_s), (a0_piece, aB C.D 17 t_a0_piece), (a1, aB C.D n1 t_a1)]
  refine v_aload_n g dX6_start_0 1 rfl 1 rfl ?_
  refine v_iconst g dX6_start_1 (v := nI 0) (by decide +kernel) ?_
  refine v_aload_n g dX6_start_2 0 rfl 0 rfl ?_
  refine gf_X6_24 g dX6_start_3 0 rfl rfl ?_
  refine v_iconst g dX6_start_6 (v := nI 0) (by decide +kernel) ?_
  refine v_bipush g dX6_start_7 (v := nI 16) (by decide +kernel) ?_
  obtain ⟨t1, ht1⟩ : ∃ z : Nat → By, z = va_cpy t_a1 t_a0_piece 0 0 16 := ⟨_, rfl⟩
  refine v_acpB g ac_X6_28 t1 ht1 5 4 [(a0, .inr (6, [.ref a0_a, .ref a0_r, .ref a0_product, .ref a0_s, .ref a0_piece])), (a0_a, aL C.D 5 (v5 x0 x1 x2 x3 x4)), (a0_r, aL C.D 5 (v5 r0 r1 r2 r3 r4)), (a0_s, aL C.D 4 t_a0_s), (a0_piece, aB C.D 17 t1), (a1, aB C.D n1 t_a1)] rfl rfl (by omega) (by omega) (by omega) (by omega) (by decide) (Nat.le_of_ble_eq_true rfl) dX6_start_9 rfl ?_
  refine v_aload_n g dX6_start_12 0 rfl 0 rfl ?_
  refine gf_X6_24 g dX6_start_13 0 rfl rfl ?_
  refine v_bipush g dX6_start_16 (v := nI 16) (by decide +kernel) ?_
  refine v_iconst g dX6_start_18 (v := nI 0) (by decide +kernel) ?_
  obtain ⟨t2, ht2⟩ : ∃ z : Nat → By, z = va_up t1 16 0#8 := ⟨_, rfl⟩
  refine v_bastB g (0#8) (by decide +kernel) t2 ht2 4 [(a0, .inr (6, [.ref a0_a, .ref a0_r, .ref a0_product, .ref a0_s, .ref a0_piece])), (a0_a, aL C.D 5 (v5 x0 x1 x2 x3 x4)), (a0_r, aL C.D 5 (v5 r0 r1 r2 r3 r4)), (a0_s, aL C.D 4 t_a0_s), (a0_piece, aB C.D 17 t2), (a1, aB C.D n1 t_a1)] rfl (by decide) (by decide) dX6_start_19 rfl ?_
  refine v_iconst g dX6_start_20 (v := nI 3) (by decide +kernel) ?_
  refine v_istore_n g [(2, .int (nI 3)), (0, .ref a0), (1, .ref a1)] dX6_start_21 2 rfl (by decide) rfl ?_
  refine v_iload_n g dX6_start_22 2 rfl 0 rfl ?_
  refine v_bipush g dX6_start_23 (v := nI 16) (by decide +kernel) ?_
  refine v_icmp_geN g 46 dX6_start_25 (by decide) (by decide) (by decide) (fun h => absurd h (by decide)) (fun _ => ?_)
  refine v_aload_n g dX6_start_28 0 rfl 1 rfl ?_
  refine gf_X6_24 g dX6_start_29 0 rfl rfl ?_
  refine v_iload_n g dX6_start_32 2 rfl 0 rfl ?_
  refine v_dup2 g dX6_start_33 rfl rfl ?_
  refine v_baldB g 4 rfl (by decide) (by decide) dX6_start_34 ?_
  refine v_bipush g dX6_start_35 (v := nI 15) (by decide +kernel) ?_
  refine v_iandW g ((t2 3).signExtend 32) (15#32) (bI_w (t2 3)) rfl dX6_start_37 ?_
  refine v_i2bW g (((t2 3).signExtend 32) &&& 15#32) rfl dX6_start_38 ?_
  refine v_toi (bI (t2 3 &&& 15#8)) (congrArg bI (po_m15 _)) ?_
  obtain ⟨t3, ht3⟩ : ∃ z : Nat → By, z = va_up t2 3 (t2 3 &&& 15#8) := ⟨_, rfl⟩
  refine v_bastB g (t2 3 &&& 15#8) rfl t3 ht3 4 [(a0, .inr (6, [.ref a0_a, .ref a0_r, .ref a0_product, .ref a0_s, .ref a0_piece])), (a0_a, aL C.D 5 (v5 x0 x1 x2 x3 x4)), (a0_r, aL C.D 5 (v5 r0 r1 r2 r3 r4)), (a0_s, aL C.D 4 t_a0_s), (a0_piece, aB C.D 17 t3), (a1, aB C.D n1 t_a1)] rfl (by decide) (by decide) dX6_start_39 rfl ?_
  refine v_iincN g 4 [(2, .int (nI 7)), (0, .ref a0), (1, .ref a1)] dX6_start_40 0 rfl (by decide +kernel) (by decide) rfl ?_
  refine v_goto g 22 dX6_start_43 (by decide) ?_
  refine v_iload_n g dX6_start_22 2 rfl 0 rfl ?_
  refine v_bipush g dX6_start_23 (v := nI 16) (by decide +kernel) ?_
  refine v_icmp_geN g 46 dX6_start_25 (by decide) (by decide) (by decide) (fun h => absurd h (by decide)) (fun _ => ?_)
  refine v_aload_n g dX6_start_28 0 rfl 1 rfl ?_
  refine gf_X6_24 g dX6_start_29 0 rfl rfl ?_
  refine v_iload_n g dX6_start_32 2 rfl 0 rfl ?_
  refine v_dup2 g dX6_start_33 rfl rfl ?_
  refine v_baldB g 4 rfl (by decide) (by decide) dX6_start_34 ?_
  refine v_bipush g dX6_start_35 (v := nI 15) (by decide +kernel) ?_
  refine v_iandW g ((t3 7).signExtend 32) (15#32) (bI_w (t3 7)) rfl dX6_start_37 ?_
  refine v_i2bW g (((t3 7).signExtend 32) &&& 15#32) rfl dX6_start_38 ?_
  refine v_toi (bI (t3 7 &&& 15#8)) (congrArg bI (po_m15 _)) ?_
  obtain ⟨t4, ht4⟩ : ∃ z : Nat → By, z = va_up t3 7 (t3 7 &&& 15#8) := ⟨_, rfl⟩
  refine v_bastB g (t3 7 &&& 15#8) rfl t4 ht4 4 [(a0, .inr (6, [.ref a0_a, .ref a0_r, .ref a0_product, .ref a0_s, .ref a0_piece])), (a0_a, aL C.D 5 (v5 x0 x1 x2 x3 x4)), (a0_r, aL C.D 5 (v5 r0 r1 r2 r3 r4)), (a0_s, aL C.D 4 t_a0_s), (a0_piece, aB C.D 17 t4), (a1, aB C.D n1 t_a1)] rfl (by decide) (by decide) dX6_start_39 rfl ?_
  refine v_iincN g 4 [(2, .int (nI 11)), (0, .ref a0), (1, .ref a1)] dX6_start_40 0 rfl (by decide +kernel) (by decide) rfl ?_
  refine v_goto g 22 dX6_start_43 (by decide) ?_
  refine v_iload_n g dX6_start_22 2 rfl 0 rfl ?_
  refine v_bipush g dX6_start_23 (v := nI 16) (by decide +kernel) ?_
  refine v_icmp_geN g 46 dX6_start_25 (by decide) (by decide) (by decide) (fun h => absurd h (by decide)) (fun _ => ?_)
  refine v_aload_n g dX6_start_28 0 rfl 1 rfl ?_
  refine gf_X6_24 g dX6_start_29 0 rfl rfl ?_
  refine v_iload_n g dX6_start_32 2 rfl 0 rfl ?_
  refine v_dup2 g dX6_start_33 rfl rfl ?_
  refine v_baldB g 4 rfl (by decide) (by decide) dX6_start_34 ?_
  refine v_bipush g dX6_start_35 (v := nI 15) (by decide +kernel) ?_
  refine v_iandW g ((t4 11).signExtend 32) (15#32) (bI_w (t4 11)) rfl dX6_start_37 ?_
  refine v_i2bW g (((t4 11).signExtend 32) &&& 15#32) rfl dX6_start_38 ?_
  refine v_toi (bI (t4 11 &&& 15#8)) (congrArg bI (po_m15 _)) ?_
  obtain ⟨t5, ht5⟩ : ∃ z : Nat → By, z = va_up t4 11 (t4 11 &&& 15#8) := ⟨_, rfl⟩
  refine v_bastB g (t4 11 &&& 15#8) rfl t5 ht5 4 [(a0, .inr (6, [.ref a0_a, .ref a0_r, .ref a0_product, .ref a0_s, .ref a0_piece])), (a0_a, aL C.D 5 (v5 x0 x1 x2 x3 x4)), (a0_r, aL C.D 5 (v5 r0 r1 r2 r3 r4)), (a0_s, aL C.D 4 t_a0_s), (a0_piece, aB C.D 17 t5), (a1, aB C.D n1 t_a1)] rfl (by decide) (by decide) dX6_start_39 rfl ?_
  refine v_iincN g 4 [(2, .int (nI 15)), (0, .ref a0), (1, .ref a1)] dX6_start_40 0 rfl (by decide +kernel) (by decide) rfl ?_
  refine v_goto g 22 dX6_start_43 (by decide) ?_
  refine v_iload_n g dX6_start_22 2 rfl 0 rfl ?_
  refine v_bipush g dX6_start_23 (v := nI 16) (by decide +kernel) ?_
  refine v_icmp_geN g 46 dX6_start_25 (by decide) (by decide) (by decide) (fun h => absurd h (by decide)) (fun _ => ?_)
  refine v_aload_n g dX6_start_28 0 rfl 1 rfl ?_
  refine gf_X6_24 g dX6_start_29 0 rfl rfl ?_
  refine v_iload_n g dX6_start_32 2 rfl 0 rfl ?_
  refine v_dup2 g dX6_start_33 rfl rfl ?_
  refine v_baldB g 4 rfl (by decide) (by decide) dX6_start_34 ?_
  refine v_bipush g dX6_start_35 (v := nI 15) (by decide +kernel) ?_
  refine v_iandW g ((t5 15).signExtend 32) (15#32) (bI_w (t5 15)) rfl dX6_start_37 ?_
  refine v_i2bW g (((t5 15).signExtend 32) &&& 15#32) rfl dX6_start_38 ?_
  refine v_toi (bI (t5 15 &&& 15#8)) (congrArg bI (po_m15 _)) ?_
  obtain ⟨t6, ht6⟩ : ∃ z : Nat → By, z = va_up t5 15 (t5 15 &&& 15#8) := ⟨_, rfl⟩
  refine v_bastB g (t5 15 &&& 15#8) rfl t6 ht6 4 [(a0, .inr (6, [.ref a0_a, .ref a0_r, .ref a0_product, .ref a0_s, .ref a0_piece])), (a0_a, aL C.D 5 (v5 x0 x1 x2 x3 x4)), (a0_r, aL C.D 5 (v5 r0 r1 r2 r3 r4)), (a0_s, aL C.D 4 t_a0_s), (a0_piece, aB C.D 17 t6), (a1, aB C.D n1 t_a1)] rfl (by decide) (by decide) dX6_start_39 rfl ?_
  refine v_iincN g 4 [(2, .int (nI 19)), (0, .ref a0), (1, .ref a1)] dX6_start_40 0 rfl (by decide +kernel) (by decide) rfl ?_
  refine v_goto g 22 dX6_start_43 (by decide) ?_
  refine v_iload_n g dX6_start_22 2 rfl 0 rfl ?_
  refine v_bipush g dX6_start_23 (v := nI 16) (by decide +kernel) ?_
  refine v_icmp_geN g 46 dX6_start_25 (by decide) (by decide) (by decide) (fun _ => ?_) (fun h => absurd h (by decide))
  refine v_iconst g dX6_start_46 (v := nI 4) (by decide +kernel) ?_
  refine v_istore_n g [(2, .int (nI 4)), (0, .ref a0), (1, .ref a1)] dX6_start_47 2 rfl (by decide) rfl ?_
  refine v_iload_n g dX6_start_48 2 rfl 0 rfl ?_
  refine v_bipush g dX6_start_49 (v := nI 16) (by decide +kernel) ?_
  refine v_icmp_geN g 72 dX6_start_51 (by decide) (by decide) (by decide) (fun h => absurd h (by decide)) (fun _ => ?_)
  refine v_aload_n g dX6_start_54 0 rfl 1 rfl ?_
  refine gf_X6_24 g dX6_start_55 0 rfl rfl ?_
  refine v_iload_n g dX6_start_58 2 rfl 0 rfl ?_
  refine v_dup2 g dX6_start_59 rfl rfl ?_
  refine v_baldB g 4 rfl (by decide) (by decide) dX6_start_60 ?_
  refine v_bipush g dX6_start_61 (v := wI 4294967292#32) (by decide +kernel) ?_
  refine v_iandW g ((t6 4).signExtend 32) (4294967292#32) (bI_w (t6 4)) rfl dX6_start_63 ?_
  refine v_i2bW g (((t6 4).signExtend 32) &&& 4294967292#32) rfl dX6_start_64 ?_
  refine v_toi (bI (t6 4 &&& 252#8)) (congrArg bI (po_m252 _)) ?_
  obtain ⟨t7, ht7⟩ : ∃ z : Nat → By, z = va_up t6 4 (t6 4 &&& 252#8) := ⟨_, rfl⟩
  refine v_bastB g (t6 4 &&& 252#8) rfl t7 ht7 4 [(a0, .inr (6, [.ref a0_a, .ref a0_r, .ref a0_product, .ref a0_s, .ref a0_piece])), (a0_a, aL C.D 5 (v5 x0 x1 x2 x3 x4)), (a0_r, aL C.D 5 (v5 r0 r1 r2 r3 r4)), (a0_s, aL C.D 4 t_a0_s), (a0_piece, aB C.D 17 t7), (a1, aB C.D n1 t_a1)] rfl (by decide) (by decide) dX6_start_65 rfl ?_
  refine v_iincN g 4 [(2, .int (nI 8)), (0, .ref a0), (1, .ref a1)] dX6_start_66 0 rfl (by decide +kernel) (by decide) rfl ?_
  refine v_goto g 48 dX6_start_69 (by decide) ?_
  refine v_iload_n g dX6_start_48 2 rfl 0 rfl ?_
  refine v_bipush g dX6_start_49 (v := nI 16) (by decide +kernel) ?_
  refine v_icmp_geN g 72 dX6_start_51 (by decide) (by decide) (by decide) (fun h => absurd h (by decide)) (fun _ => ?_)
  refine v_aload_n g dX6_start_54 0 rfl 1 rfl ?_
  refine gf_X6_24 g dX6_start_55 0 rfl rfl ?_
  refine v_iload_n g dX6_start_58 2 rfl 0 rfl ?_
  refine v_dup2 g dX6_start_59 rfl rfl ?_
  refine v_baldB g 4 rfl (by decide) (by decide) dX6_start_60 ?_
  refine v_bipush g dX6_start_61 (v := wI 4294967292#32) (by decide +kernel) ?_
  refine v_iandW g ((t7 8).signExtend 32) (4294967292#32) (bI_w (t7 8)) rfl dX6_start_63 ?_
  refine v_i2bW g (((t7 8).signExtend 32) &&& 4294967292#32) rfl dX6_start_64 ?_
  refine v_toi (bI (t7 8 &&& 252#8)) (congrArg bI (po_m252 _)) ?_
  obtain ⟨t8, ht8⟩ : ∃ z : Nat → By, z = va_up t7 8 (t7 8 &&& 252#8) := ⟨_, rfl⟩
  refine v_bastB g (t7 8 &&& 252#8) rfl t8 ht8 4 [(a0, .inr (6, [.ref a0_a, .ref a0_r, .ref a0_product, .ref a0_s, .ref a0_piece])), (a0_a, aL C.D 5 (v5 x0 x1 x2 x3 x4)), (a0_r, aL C.D 5 (v5 r0 r1 r2 r3 r4)), (a0_s, aL C.D 4 t_a0_s), (a0_piece, aB C.D 17 t8), (a1, aB C.D n1 t_a1)] rfl (by decide) (by decide) dX6_start_65 rfl ?_
  refine v_iincN g 4 [(2, .int (nI 12)), (0, .ref a0), (1, .ref a1)] dX6_start_66 0 rfl (by decide +kernel) (by decide) rfl ?_
  refine v_goto g 48 dX6_start_69 (by decide) ?_
  refine v_iload_n g dX6_start_48 2 rfl 0 rfl ?_
  refine v_bipush g dX6_start_49 (v := nI 16) (by decide +kernel) ?_
  refine v_icmp_geN g 72 dX6_start_51 (by decide) (by decide) (by decide) (fun h => absurd h (by decide)) (fun _ => ?_)
  refine v_aload_n g dX6_start_54 0 rfl 1 rfl ?_
  refine gf_X6_24 g dX6_start_55 0 rfl rfl ?_
  refine v_iload_n g dX6_start_58 2 rfl 0 rfl ?_
  refine v_dup2 g dX6_start_59 rfl rfl ?_
  refine v_baldB g 4 rfl (by decide) (by decide) dX6_start_60 ?_
  refine v_bipush g dX6_start_61 (v := wI 4294967292#32) (by decide +kernel) ?_
  refine v_iandW g ((t8 12).signExtend 32) (4294967292#32) (bI_w (t8 12)) rfl dX6_start_63 ?_
  refine v_i2bW g (((t8 12).signExtend 32) &&& 4294967292#32) rfl dX6_start_64 ?_
  refine v_toi (bI (t8 12 &&& 252#8)) (congrArg bI (po_m252 _)) ?_
  obtain ⟨t9, ht9⟩ : ∃ z : Nat → By, z = va_up t8 12 (t8 12 &&& 252#8) := ⟨_, rfl⟩
  refine v_bastB g (t8 12 &&& 252#8) rfl t9 ht9 4 [(a0, .inr (6, [.ref a0_a, .ref a0_r, .ref a0_product, .ref a0_s, .ref a0_piece])), (a0_a, aL C.D 5 (v5 x0 x1 x2 x3 x4)), (a0_r, aL C.D 5 (v5 r0 r1 r2 r3 r4)), (a0_s, aL C.D 4 t_a0_s), (a0_piece, aB C.D 17 t9), (a1, aB C.D n1 t_a1)] rfl (by decide) (by decide) dX6_start_65 rfl ?_
  refine v_iincN g 4 [(2, .int (nI 16)), (0, .ref a0), (1, .ref a1)] dX6_start_66 0 rfl (by decide +kernel) (by decide) rfl ?_
  refine v_goto g 48 dX6_start_69 (by decide) ?_
  refine v_iload_n g dX6_start_48 2 rfl 0 rfl ?_
  refine v_bipush g dX6_start_49 (v := nI 16) (by decide +kernel) ?_
  refine v_icmp_geN g 72 dX6_start_51 (by decide) (by decide) (by decide) (fun _ => ?_) (fun h => absurd h (by decide))
  refine v_iconst g dX6_start_72 (v := nI 0) (by decide +kernel) ?_
  refine v_istore_n g [(2, .int (nI 0)), (0, .ref a0), (1, .ref a1)] dX6_start_73 2 rfl (by decide) rfl ?_
  have zp := po_zp ht1 ht2 ht3 ht4 ht5 ht6 ht7 ht8 ht9
  have zl : leN t9 17 = po_R t_a1 := po_zl zp
  have zb : leN t9 17 < 2 ^ 130 := by rw [zl]; exact Nat.lt_trans (po_R_lt t_a1) (by decide)
  have l0 := po_lim_lt t9 0
  have l1 := po_lim_lt t9 1
  have l2 := po_lim_lt t9 2
  have l3 := po_lim_lt t9 3
  have l4 := po_lim_lt t9 4
  clear zp ht9 ht8 ht7 ht6 ht5 ht4 ht3 ht2 ht1
  refine v_iload_n g dX6_start_74 2 rfl 0 rfl ?_
  refine v_iconst g dX6_start_75 (v := nI 5) (by decide +kernel) ?_
  refine v_icmp_geN g 104 dX6_start_76 (by decide) (by decide) (by decide) (fun h => absurd h (by decide)) (fun _ => ?_)
  refine v_aload_n g dX6_start_79 0 rfl 1 rfl ?_
  refine gf_X6_15 g dX6_start_80 0 rfl rfl ?_
  refine v_iload_n g dX6_start_83 2 rfl 0 rfl ?_
  refine v_aload_n g dX6_start_84 0 rfl 1 rfl ?_
  refine v_iload_n g dX6_start_85 2 rfl 0 rfl ?_
  refine v_callV (As := [.int (nI 0)]) (rest := [.int (nI 0), .ref a0_r]) (wr := [(a0_a, aL C.D 5 (v5 x0 x1 x2 x3 x4)), (a0_r, aL C.D 5 (v5 r0 r1 r2 r3 r4)), (a0_s, aL C.D 4 t_a0_s), (a1, aB C.D n1 t_a1)]) cw_X6_34 (hy_X6_readLimb) g (c_TL_lim C.l C.D a0 0 a0_a a0_r a0_product a0_s a0_piece t9 (by decide)) dX6_start_86 0 rfl rfl rfl (by decide) (by decide) (Nat.le_of_ble_eq_true rfl) [0, 4] [1, 2, 3, 5] rfl rfl (by decide) rfl (by decide) (by decide) _ rfl (fun r wo hp10 => ?_)
  obtain ⟨rfl, rfl⟩ := hp10
  refine v_perm [4, 0, 1, 2, 5, 3] [(a0, .inr (6, [.ref a0_a, .ref a0_r, .ref a0_product, .ref a0_s, .ref a0_piece])), (a0_a, aL C.D 5 (v5 x0 x1 x2 x3 x4)), (a0_r, aL C.D 5 (v5 r0 r1 r2 r3 r4)), (a0_s, aL C.D 4 t_a0_s), (a0_piece, aB C.D 17 t9), (a1, aB C.D n1 t_a1)] (by decide) rfl rfl ?_
  show VJ C 0 0 89 [(2, .int (nI 0)), (0, .ref a0), (1, .ref a1)] [.int (nI (po_lim t9 0)), .int (nI 0), .ref a0_r] [(a0, .inr (6, [.ref a0_a, .ref a0_r, .ref a0_product, .ref a0_s, .ref a0_piece])), (a0_a, aL C.D 5 (v5 x0 x1 x2 x3 x4)), (a0_r, aL C.D 5 (v5 r0 r1 r2 r3 r4)), (a0_s, aL C.D 4 t_a0_s), (a0_piece, aB C.D 17 t9), (a1, aB C.D n1 t_a1)]
  refine v_i2lN g (by omega) dX6_start_89 ?_
  obtain ⟨y11, hy11⟩ : ∃ z : Nat, z = po_lim t9 0 := ⟨_, rfl⟩
  refine v_lastL g y11 (by rw [hy11]) (v5 y11 r1 r2 r3 r4) (v5_u0 _ _ _ _ _ _) 2 [(a0, .inr (6, [.ref a0_a, .ref a0_r, .ref a0_product, .ref a0_s, .ref a0_piece])), (a0_a, aL C.D 5 (v5 x0 x1 x2 x3 x4)), (a0_r, aL C.D 5 (v5 y11 r1 r2 r3 r4)), (a0_s, aL C.D 4 t_a0_s), (a0_piece, aB C.D 17 t9), (a1, aB C.D n1 t_a1)] rfl (by decide) (by decide) dX6_start_90 rfl ?_
  refine v_aload_n g dX6_start_91 0 rfl 1 rfl ?_
  refine gf_X6_11 g dX6_start_92 0 rfl rfl ?_
  refine v_iload_n g dX6_start_95 2 rfl 0 rfl ?_
  refine v_lconst g dX6_start_96 (v := lN 0) (by decide +kernel) ?_
  refine v_lastL g 0 rfl (v5 0 x1 x2 x3 x4) (v5_u0 _ _ _ _ _ _) 1 [(a0, .inr (6, [.ref a0_a, .ref a0_r, .ref a0_product, .ref a0_s, .ref a0_piece])), (a0_a, aL C.D 5 (v5 0 x1 x2 x3 x4)), (a0_r, aL C.D 5 (v5 y11 r1 r2 r3 r4)), (a0_s, aL C.D 4 t_a0_s), (a0_piece, aB C.D 17 t9), (a1, aB C.D n1 t_a1)] rfl (by decide) (by decide) dX6_start_97 rfl ?_
  refine v_iincN g 1 [(2, .int (nI 1)), (0, .ref a0), (1, .ref a1)] dX6_start_98 0 rfl (by decide +kernel) (by decide) rfl ?_
  refine v_goto g 74 dX6_start_101 (by decide) ?_
  refine v_iload_n g dX6_start_74 2 rfl 0 rfl ?_
  refine v_iconst g dX6_start_75 (v := nI 5) (by decide +kernel) ?_
  refine v_icmp_geN g 104 dX6_start_76 (by decide) (by decide) (by decide) (fun h => absurd h (by decide)) (fun _ => ?_)
  refine v_aload_n g dX6_start_79 0 rfl 1 rfl ?_
  refine gf_X6_15 g dX6_start_80 0 rfl rfl ?_
  refine v_iload_n g dX6_start_83 2 rfl 0 rfl ?_
  refine v_aload_n g dX6_start_84 0 rfl 1 rfl ?_
  refine v_iload_n g dX6_start_85 2 rfl 0 rfl ?_
  refine v_callV (As := [.int (nI 1)]) (rest := [.int (nI 1), .ref a0_r]) (wr := [(a0_a, aL C.D 5 (v5 0 x1 x2 x3 x4)), (a0_r, aL C.D 5 (v5 y11 r1 r2 r3 r4)), (a0_s, aL C.D 4 t_a0_s), (a1, aB C.D n1 t_a1)]) cw_X6_34 (hy_X6_readLimb) g (c_TL_lim C.l C.D a0 1 a0_a a0_r a0_product a0_s a0_piece t9 (by decide)) dX6_start_86 0 rfl rfl rfl (by decide) (by decide) (Nat.le_of_ble_eq_true rfl) [0, 4] [1, 2, 3, 5] rfl rfl (by decide) rfl (by decide) (by decide) _ rfl (fun r wo hp12 => ?_)
  obtain ⟨rfl, rfl⟩ := hp12
  refine v_perm [4, 0, 1, 2, 5, 3] [(a0, .inr (6, [.ref a0_a, .ref a0_r, .ref a0_product, .ref a0_s, .ref a0_piece])), (a0_a, aL C.D 5 (v5 0 x1 x2 x3 x4)), (a0_r, aL C.D 5 (v5 y11 r1 r2 r3 r4)), (a0_s, aL C.D 4 t_a0_s), (a0_piece, aB C.D 17 t9), (a1, aB C.D n1 t_a1)] (by decide) rfl rfl ?_
  show VJ C 0 0 89 [(2, .int (nI 1)), (0, .ref a0), (1, .ref a1)] [.int (nI (po_lim t9 1)), .int (nI 1), .ref a0_r] [(a0, .inr (6, [.ref a0_a, .ref a0_r, .ref a0_product, .ref a0_s, .ref a0_piece])), (a0_a, aL C.D 5 (v5 0 x1 x2 x3 x4)), (a0_r, aL C.D 5 (v5 y11 r1 r2 r3 r4)), (a0_s, aL C.D 4 t_a0_s), (a0_piece, aB C.D 17 t9), (a1, aB C.D n1 t_a1)]
  refine v_i2lN g (by omega) dX6_start_89 ?_
  obtain ⟨y13, hy13⟩ : ∃ z : Nat, z = po_lim t9 1 := ⟨_, rfl⟩
  refine v_lastL g y13 (by rw [hy13]) (v5 y11 y13 r2 r3 r4) (v5_u1 _ _ _ _ _ _) 2 [(a0, .inr (6, [.ref a0_a, .ref a0_r, .ref a0_product, .ref a0_s, .ref a0_piece])), (a0_a, aL C.D 5 (v5 0 x1 x2 x3 x4)), (a0_r, aL C.D 5 (v5 y11 y13 r2 r3 r4)), (a0_s, aL C.D 4 t_a0_s), (a0_piece, aB C.D 17 t9), (a1, aB C.D n1 t_a1)] rfl (by decide) (by decide) dX6_start_90 rfl ?_
  refine v_aload_n g dX6_start_91 0 rfl 1 rfl ?_
  refine gf_X6_11 g dX6_start_92 0 rfl rfl ?_
  refine v_iload_n g dX6_start_95 2 rfl 0 rfl ?_
  refine v_lconst g dX6_start_96 (v := lN 0) (by decide +kernel) ?_
  refine v_lastL g 0 rfl (v5 0 0 x2 x3 x4) (v5_u1 _ _ _ _ _ _) 1 [(a0, .inr (6, [.ref a0_a, .ref a0_r, .ref a0_product, .ref a0_s, .ref a0_piece])), (a0_a, aL C.D 5 (v5 0 0 x2 x3 x4)), (a0_r, aL C.D 5 (v5 y11 y13 r2 r3 r4)), (a0_s, aL C.D 4 t_a0_s), (a0_piece, aB C.D 17 t9), (a1, aB C.D n1 t_a1)] rfl (by decide) (by decide) dX6_start_97 rfl ?_
  refine v_iincN g 1 [(2, .int (nI 2)), (0, .ref a0), (1, .ref a1)] dX6_start_98 0 rfl (by decide +kernel) (by decide) rfl ?_
  refine v_goto g 74 dX6_start_101 (by decide) ?_
  refine v_iload_n g dX6_start_74 2 rfl 0 rfl ?_
  refine v_iconst g dX6_start_75 (v := nI 5) (by decide +kernel) ?_
  refine v_icmp_geN g 104 dX6_start_76 (by decide) (by decide) (by decide) (fun h => absurd h (by decide)) (fun _ => ?_)
  refine v_aload_n g dX6_start_79 0 rfl 1 rfl ?_
  refine gf_X6_15 g dX6_start_80 0 rfl rfl ?_
  refine v_iload_n g dX6_start_83 2 rfl 0 rfl ?_
  refine v_aload_n g dX6_start_84 0 rfl 1 rfl ?_
  refine v_iload_n g dX6_start_85 2 rfl 0 rfl ?_
  refine v_callV (As := [.int (nI 2)]) (rest := [.int (nI 2), .ref a0_r]) (wr := [(a0_a, aL C.D 5 (v5 0 0 x2 x3 x4)), (a0_r, aL C.D 5 (v5 y11 y13 r2 r3 r4)), (a0_s, aL C.D 4 t_a0_s), (a1, aB C.D n1 t_a1)]) cw_X6_34 (hy_X6_readLimb) g (c_TL_lim C.l C.D a0 2 a0_a a0_r a0_product a0_s a0_piece t9 (by decide)) dX6_start_86 0 rfl rfl rfl (by decide) (by decide) (Nat.le_of_ble_eq_true rfl) [0, 4] [1, 2, 3, 5] rfl rfl (by decide) rfl (by decide) (by decide) _ rfl (fun r wo hp14 => ?_)
  obtain ⟨rfl, rfl⟩ := hp14
  refine v_perm [4, 0, 1, 2, 5, 3] [(a0, .inr (6, [.ref a0_a, .ref a0_r, .ref a0_product, .ref a0_s, .ref a0_piece])), (a0_a, aL C.D 5 (v5 0 0 x2 x3 x4)), (a0_r, aL C.D 5 (v5 y11 y13 r2 r3 r4)), (a0_s, aL C.D 4 t_a0_s), (a0_piece, aB C.D 17 t9), (a1, aB C.D n1 t_a1)] (by decide) rfl rfl ?_
  show VJ C 0 0 89 [(2, .int (nI 2)), (0, .ref a0), (1, .ref a1)] [.int (nI (po_lim t9 2)), .int (nI 2), .ref a0_r] [(a0, .inr (6, [.ref a0_a, .ref a0_r, .ref a0_product, .ref a0_s, .ref a0_piece])), (a0_a, aL C.D 5 (v5 0 0 x2 x3 x4)), (a0_r, aL C.D 5 (v5 y11 y13 r2 r3 r4)), (a0_s, aL C.D 4 t_a0_s), (a0_piece, aB C.D 17 t9), (a1, aB C.D n1 t_a1)]
  refine v_i2lN g (by omega) dX6_start_89 ?_
  obtain ⟨y15, hy15⟩ : ∃ z : Nat, z = po_lim t9 2 := ⟨_, rfl⟩
  refine v_lastL g y15 (by rw [hy15]) (v5 y11 y13 y15 r3 r4) (v5_u2 _ _ _ _ _ _) 2 [(a0, .inr (6, [.ref a0_a, .ref a0_r, .ref a0_product, .ref a0_s, .ref a0_piece])), (a0_a, aL C.D 5 (v5 0 0 x2 x3 x4)), (a0_r, aL C.D 5 (v5 y11 y13 y15 r3 r4)), (a0_s, aL C.D 4 t_a0_s), (a0_piece, aB C.D 17 t9), (a1, aB C.D n1 t_a1)] rfl (by decide) (by decide) dX6_start_90 rfl ?_
  refine v_aload_n g dX6_start_91 0 rfl 1 rfl ?_
  refine gf_X6_11 g dX6_start_92 0 rfl rfl ?_
  refine v_iload_n g dX6_start_95 2 rfl 0 rfl ?_
  refine v_lconst g dX6_start_96 (v := lN 0) (by decide +kernel) ?_
  refine v_lastL g 0 rfl (v5 0 0 0 x3 x4) (v5_u2 _ _ _ _ _ _) 1 [(a0, .inr (6, [.ref a0_a, .ref a0_r, .ref a0_product, .ref a0_s, .ref a0_piece])), (a0_a, aL C.D 5 (v5 0 0 0 x3 x4)), (a0_r, aL C.D 5 (v5 y11 y13 y15 r3 r4)), (a0_s, aL C.D 4 t_a0_s), (a0_piece, aB C.D 17 t9), (a1, aB C.D n1 t_a1)] rfl (by decide) (by decide) dX6_start_97 rfl ?_
  refine v_iincN g 1 [(2, .int (nI 3)), (0, .ref a0), (1, .ref a1)] dX6_start_98 0 rfl (by decide +kernel) (by decide) rfl ?_
  refine v_goto g 74 dX6_start_101 (by decide) ?_
  refine v_iload_n g dX6_start_74 2 rfl 0 rfl ?_
  refine v_iconst g dX6_start_75 (v := nI 5) (by decide +kernel) ?_
  refine v_icmp_geN g 104 dX6_start_76 (by decide) (by decide) (by decide) (fun h => absurd h (by decide)) (fun _ => ?_)
  refine v_aload_n g dX6_start_79 0 rfl 1 rfl ?_
  refine gf_X6_15 g dX6_start_80 0 rfl rfl ?_
  refine v_iload_n g dX6_start_83 2 rfl 0 rfl ?_
  refine v_aload_n g dX6_start_84 0 rfl 1 rfl ?_
  refine v_iload_n g dX6_start_85 2 rfl 0 rfl ?_
  refine v_callV (As := [.int (nI 3)]) (rest := [.int (nI 3), .ref a0_r]) (wr := [(a0_a, aL C.D 5 (v5 0 0 0 x3 x4)), (a0_r, aL C.D 5 (v5 y11 y13 y15 r3 r4)), (a0_s, aL C.D 4 t_a0_s), (a1, aB C.D n1 t_a1)]) cw_X6_34 (hy_X6_readLimb) g (c_TL_lim C.l C.D a0 3 a0_a a0_r a0_product a0_s a0_piece t9 (by decide)) dX6_start_86 0 rfl rfl rfl (by decide) (by decide) (Nat.le_of_ble_eq_true rfl) [0, 4] [1, 2, 3, 5] rfl rfl (by decide) rfl (by decide) (by decide) _ rfl (fun r wo hp16 => ?_)
  obtain ⟨rfl, rfl⟩ := hp16
  refine v_perm [4, 0, 1, 2, 5, 3] [(a0, .inr (6, [.ref a0_a, .ref a0_r, .ref a0_product, .ref a0_s, .ref a0_piece])), (a0_a, aL C.D 5 (v5 0 0 0 x3 x4)), (a0_r, aL C.D 5 (v5 y11 y13 y15 r3 r4)), (a0_s, aL C.D 4 t_a0_s), (a0_piece, aB C.D 17 t9), (a1, aB C.D n1 t_a1)] (by decide) rfl rfl ?_
  show VJ C 0 0 89 [(2, .int (nI 3)), (0, .ref a0), (1, .ref a1)] [.int (nI (po_lim t9 3)), .int (nI 3), .ref a0_r] [(a0, .inr (6, [.ref a0_a, .ref a0_r, .ref a0_product, .ref a0_s, .ref a0_piece])), (a0_a, aL C.D 5 (v5 0 0 0 x3 x4)), (a0_r, aL C.D 5 (v5 y11 y13 y15 r3 r4)), (a0_s, aL C.D 4 t_a0_s), (a0_piece, aB C.D 17 t9), (a1, aB C.D n1 t_a1)]
  refine v_i2lN g (by omega) dX6_start_89 ?_
  obtain ⟨y17, hy17⟩ : ∃ z : Nat, z = po_lim t9 3 := ⟨_, rfl⟩
  refine v_lastL g y17 (by rw [hy17]) (v5 y11 y13 y15 y17 r4) (v5_u3 _ _ _ _ _ _) 2 [(a0, .inr (6, [.ref a0_a, .ref a0_r, .ref a0_product, .ref a0_s, .ref a0_piece])), (a0_a, aL C.D 5 (v5 0 0 0 x3 x4)), (a0_r, aL C.D 5 (v5 y11 y13 y15 y17 r4)), (a0_s, aL C.D 4 t_a0_s), (a0_piece, aB C.D 17 t9), (a1, aB C.D n1 t_a1)] rfl (by decide) (by decide) dX6_start_90 rfl ?_
  refine v_aload_n g dX6_start_91 0 rfl 1 rfl ?_
  refine gf_X6_11 g dX6_start_92 0 rfl rfl ?_
  refine v_iload_n g dX6_start_95 2 rfl 0 rfl ?_
  refine v_lconst g dX6_start_96 (v := lN 0) (by decide +kernel) ?_
  refine v_lastL g 0 rfl (v5 0 0 0 0 x4) (v5_u3 _ _ _ _ _ _) 1 [(a0, .inr (6, [.ref a0_a, .ref a0_r, .ref a0_product, .ref a0_s, .ref a0_piece])), (a0_a, aL C.D 5 (v5 0 0 0 0 x4)), (a0_r, aL C.D 5 (v5 y11 y13 y15 y17 r4)), (a0_s, aL C.D 4 t_a0_s), (a0_piece, aB C.D 17 t9), (a1, aB C.D n1 t_a1)] rfl (by decide) (by decide) dX6_start_97 rfl ?_
  refine v_iincN g 1 [(2, .int (nI 4)), (0, .ref a0), (1, .ref a1)] dX6_start_98 0 rfl (by decide +kernel) (by decide) rfl ?_
  refine v_goto g 74 dX6_start_101 (by decide) ?_
  refine v_iload_n g dX6_start_74 2 rfl 0 rfl ?_
  refine v_iconst g dX6_start_75 (v := nI 5) (by decide +kernel) ?_
  refine v_icmp_geN g 104 dX6_start_76 (by decide) (by decide) (by decide) (fun h => absurd h (by decide)) (fun _ => ?_)
  refine v_aload_n g dX6_start_79 0 rfl 1 rfl ?_
  refine gf_X6_15 g dX6_start_80 0 rfl rfl ?_
  refine v_iload_n g dX6_start_83 2 rfl 0 rfl ?_
  refine v_aload_n g dX6_start_84 0 rfl 1 rfl ?_
  refine v_iload_n g dX6_start_85 2 rfl 0 rfl ?_
  refine v_callV (As := [.int (nI 4)]) (rest := [.int (nI 4), .ref a0_r]) (wr := [(a0_a, aL C.D 5 (v5 0 0 0 0 x4)), (a0_r, aL C.D 5 (v5 y11 y13 y15 y17 r4)), (a0_s, aL C.D 4 t_a0_s), (a1, aB C.D n1 t_a1)]) cw_X6_34 (hy_X6_readLimb) g (c_TL_lim C.l C.D a0 4 a0_a a0_r a0_product a0_s a0_piece t9 (by decide)) dX6_start_86 0 rfl rfl rfl (by decide) (by decide) (Nat.le_of_ble_eq_true rfl) [0, 4] [1, 2, 3, 5] rfl rfl (by decide) rfl (by decide) (by decide) _ rfl (fun r wo hp18 => ?_)
  obtain ⟨rfl, rfl⟩ := hp18
  refine v_perm [4, 0, 1, 2, 5, 3] [(a0, .inr (6, [.ref a0_a, .ref a0_r, .ref a0_product, .ref a0_s, .ref a0_piece])), (a0_a, aL C.D 5 (v5 0 0 0 0 x4)), (a0_r, aL C.D 5 (v5 y11 y13 y15 y17 r4)), (a0_s, aL C.D 4 t_a0_s), (a0_piece, aB C.D 17 t9), (a1, aB C.D n1 t_a1)] (by decide) rfl rfl ?_
  show VJ C 0 0 89 [(2, .int (nI 4)), (0, .ref a0), (1, .ref a1)] [.int (nI (po_lim t9 4)), .int (nI 4), .ref a0_r] [(a0, .inr (6, [.ref a0_a, .ref a0_r, .ref a0_product, .ref a0_s, .ref a0_piece])), (a0_a, aL C.D 5 (v5 0 0 0 0 x4)), (a0_r, aL C.D 5 (v5 y11 y13 y15 y17 r4)), (a0_s, aL C.D 4 t_a0_s), (a0_piece, aB C.D 17 t9), (a1, aB C.D n1 t_a1)]
  refine v_i2lN g (by omega) dX6_start_89 ?_
  obtain ⟨y19, hy19⟩ : ∃ z : Nat, z = po_lim t9 4 := ⟨_, rfl⟩
  refine v_lastL g y19 (by rw [hy19]) (v5 y11 y13 y15 y17 y19) (v5_u4 _ _ _ _ _ _) 2 [(a0, .inr (6, [.ref a0_a, .ref a0_r, .ref a0_product, .ref a0_s, .ref a0_piece])), (a0_a, aL C.D 5 (v5 0 0 0 0 x4)), (a0_r, aL C.D 5 (v5 y11 y13 y15 y17 y19)), (a0_s, aL C.D 4 t_a0_s), (a0_piece, aB C.D 17 t9), (a1, aB C.D n1 t_a1)] rfl (by decide) (by decide) dX6_start_90 rfl ?_
  refine v_aload_n g dX6_start_91 0 rfl 1 rfl ?_
  refine gf_X6_11 g dX6_start_92 0 rfl rfl ?_
  refine v_iload_n g dX6_start_95 2 rfl 0 rfl ?_
  refine v_lconst g dX6_start_96 (v := lN 0) (by decide +kernel) ?_
  refine v_lastL g 0 rfl (v5 0 0 0 0 0) (v5_u4 _ _ _ _ _ _) 1 [(a0, .inr (6, [.ref a0_a, .ref a0_r, .ref a0_product, .ref a0_s, .ref a0_piece])), (a0_a, aL C.D 5 (v5 0 0 0 0 0)), (a0_r, aL C.D 5 (v5 y11 y13 y15 y17 y19)), (a0_s, aL C.D 4 t_a0_s), (a0_piece, aB C.D 17 t9), (a1, aB C.D n1 t_a1)] rfl (by decide) (by decide) dX6_start_97 rfl ?_
  refine v_iincN g 1 [(2, .int (nI 5)), (0, .ref a0), (1, .ref a1)] dX6_start_98 0 rfl (by decide +kernel) (by decide) rfl ?_
  refine v_goto g 74 dX6_start_101 (by decide) ?_
  refine v_iload_n g dX6_start_74 2 rfl 0 rfl ?_
  refine v_iconst g dX6_start_75 (v := nI 5) (by decide +kernel) ?_
  refine v_icmp_geN g 104 dX6_start_76 (by decide) (by decide) (by decide) (fun _ => ?_) (fun h => absurd h (by decide))
  refine v_iconst g dX6_start_104 (v := nI 0) (by decide +kernel) ?_
  refine v_istore_n g [(2, .int (nI 0)), (0, .ref a0), (1, .ref a1)] dX6_start_105 2 rfl (by decide) rfl ?_
  have zr : val5 y11 y13 y15 y17 y19 = po_R t_a1 := by rw [← zl, ← po_lim_val t9 zb]; unfold val5; omega
  have L106_19 : ∀ i : Nat, i ≤ 4 → ∀ (s2 : Nat → Nat), (∀ j, j < i → s2 j = (le4 t_a1 (16 + 4 * j)).toNat) → VJ C 0 0 106 [(2, .int (nI i)), (0, .ref a0), (1, .ref a1)] [] [(a0, .inr (6, [.ref a0_a, .ref a0_r, .ref a0_product, .ref a0_s, .ref a0_piece])), (a0_a, aL C.D 5 (v5 0 0 0 0 0)), (a0_r, aL C.D 5 (v5 y11 y13 y15 y17 y19)), (a0_s, aL C.D 4 s2), (a0_piece, aB C.D 17 t9), (a1, aB C.D n1 t_a1)] := by
    refine v_for (4) ?_ ?_
    · skip
      intro i hii ih s2 hv0
      refine v_iload_n g dX6_start_106 2 rfl 0 rfl ?_
      refine v_iconst g dX6_start_107 (v := nI 4) (by decide +kernel) ?_
      refine v_icmp_geN g 138 dX6_start_108 (by decide) (by omega) (by omega) (fun h20 => ?_) (fun h20 => ?_)
      · skip
        exact absurd h20 (by omega)
      · skip
        refine v_aload_n g dX6_start_111 0 rfl 1 rfl ?_
        refine gf_X6_21 g dX6_start_112 0 rfl rfl ?_
        refine v_iload_n g dX6_start_115 2 rfl 0 rfl ?_
        refine v_aload_n g dX6_start_116 1 rfl 2 rfl ?_
        refine v_bipush g dX6_start_117 (v := nI 16) (by decide +kernel) ?_
        refine v_iconst g dX6_start_119 (v := nI 4) (by decide +kernel) ?_
        refine v_iload_n g dX6_start_120 2 rfl 0 rfl ?_
        refine v_imulN g dX6_start_121 ?_
        refine v_iaddN g dX6_start_122 ?_
        refine v_callSN (As := [.ref a1, .int (nI (16 + (4 * i)))]) (rest := [.int (nI i), .ref a0_s]) (wr := [(a0, .inr (6, [.ref a0_a, .ref a0_r, .ref a0_product, .ref a0_s, .ref a0_piece])), (a0_a, aL C.D 5 (v5 0 0 0 0 0)), (a0_r, aL C.D 5 (v5 y11 y13 y15 y17 y19)), (a0_s, aL C.D 4 s2), (a0_piece, aB C.D 17 t9)]) cw_X6_38 cl_X6_38 (hy_X7_readWord) g (c_readWord C.l C.D a1 (16 + (4 * i)) n1 t_a1 (by omega) (by omega)) dX6_start_123 rfl (by decide) (by decide) (Nat.le_of_ble_eq_true rfl) [5] [0, 1, 2, 3, 4] rfl rfl (by decide) rfl (by decide) (by decide) _ rfl (fun r wo hp21 => ?_)
        obtain ⟨rfl, rfl⟩ := hp21
        show VJ C 0 0 126 [(2, .int (nI i)), (0, .ref a0), (1, .ref a1)] [.int (wI (le4 t_a1 (16 + (4 * i)))), .int (nI i), .ref a0_s] [(a0, .inr (6, [.ref a0_a, .ref a0_r, .ref a0_product, .ref a0_s, .ref a0_piece])), (a0_a, aL C.D 5 (v5 0 0 0 0 0)), (a0_r, aL C.D 5 (v5 y11 y13 y15 y17 y19)), (a0_s, aL C.D 4 s2), (a0_piece, aB C.D 17 t9), (a1, aB C.D n1 t_a1)]
        refine v_i2lW g (le4 t_a1 (16 + (4 * i))) rfl dX6_start_126 ?_
        refine v_ldc2 g dX6_start_127 kl_X6_42 ?_
        refine v_landX g ((le4 t_a1 (16 + (4 * i))).signExtend 64) (4294967295#64) rfl (xL_n _) dX6_start_130 ?_
        refine v_tol (lN ((le4 t_a1 (16 + 4 * i)).toNat)) (sx_mask _) ?_
        obtain ⟨t22, ht22⟩ : ∃ z : Nat → Nat, z = va_up s2 i ((le4 t_a1 (16 + 4 * i)).toNat) := ⟨_, rfl⟩
        refine v_lastL g ((le4 t_a1 (16 + 4 * i)).toNat) rfl t22 ht22 3 [(a0, .inr (6, [.ref a0_a, .ref a0_r, .ref a0_product, .ref a0_s, .ref a0_piece])), (a0_a, aL C.D 5 (v5 0 0 0 0 0)), (a0_r, aL C.D 5 (v5 y11 y13 y15 y17 y19)), (a0_s, aL C.D 4 t22), (a0_piece, aB C.D 17 t9), (a1, aB C.D n1 t_a1)] rfl (by omega) (by decide) dX6_start_131 rfl ?_
        refine v_iincN g 1 [(2, .int (nI (i + 1))), (0, .ref a0), (1, .ref a1)] dX6_start_132 0 rfl (by decide +kernel) (by decide) rfl ?_
        refine v_goto g 106 dX6_start_135 (by decide) ?_
        exact ih t22 (up_lt (F := fun j => (le4 t_a1 (16 + 4 * j)).toNat) hv0 rfl ht22)
    · skip
      intro s2 hv0
      refine v_iload_n g dX6_start_106 2 rfl 0 rfl ?_
      refine v_iconst g dX6_start_107 (v := nI 4) (by decide +kernel) ?_
      refine v_icmp_geN g 138 dX6_start_108 (by decide) (by omega) (by omega) (fun h23 => ?_) (fun h23 => ?_)
      · skip
        exact v_ret g R dX6_start_138 (by decide) (by decide) ⟨y11, y13, y15, y17, y19, s2, t9, rfl, rfl, (by omega), (by omega), (by omega), (by omega), (by omega), zr, hv0⟩
      · skip
        exact absurd h23 (by omega)
  exact L106_19 0 (by omega) t_a0_s (fun j hj => absurd hj (by omega))
