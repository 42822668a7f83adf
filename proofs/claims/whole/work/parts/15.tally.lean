/-! TALLY -/
def leN (b : Nat → By) : Nat → Nat
  | 0 => 0
  | n + 1 => leN b n + (b n).toNat * 256 ^ n
def po_p : Nat := 2 ^ 130 - 5
def v5 (a b c d e : Nat) : Nat → Nat := fun j => match j with
  | 0 => a
  | 1 => b
  | 2 => c
  | 3 => d
  | 4 => e
  | _ => 0
theorem v5_u0 (a b c d e x : Nat) : v5 x b c d e = va_up (v5 a b c d e) 0 x := by
  funext j
  match j with
  | 0 => rfl
  | 1 => rfl
  | 2 => rfl
  | 3 => rfl
  | 4 => rfl
  | j + 5 => simp [v5, va_up]
theorem v5_u1 (a b c d e x : Nat) : v5 a x c d e = va_up (v5 a b c d e) 1 x := by
  funext j
  match j with
  | 0 => rfl
  | 1 => rfl
  | 2 => rfl
  | 3 => rfl
  | 4 => rfl
  | j + 5 => simp [v5, va_up]
theorem v5_u2 (a b c d e x : Nat) : v5 a b x d e = va_up (v5 a b c d e) 2 x := by
  funext j
  match j with
  | 0 => rfl
  | 1 => rfl
  | 2 => rfl
  | 3 => rfl
  | 4 => rfl
  | j + 5 => simp [v5, va_up]
theorem v5_u3 (a b c d e x : Nat) : v5 a b c x e = va_up (v5 a b c d e) 3 x := by
  funext j
  match j with
  | 0 => rfl
  | 1 => rfl
  | 2 => rfl
  | 3 => rfl
  | 4 => rfl
  | j + 5 => simp [v5, va_up]
theorem v5_u4 (a b c d e x : Nat) : v5 a b c d x = va_up (v5 a b c d e) 4 x := by
  funext j
  match j with
  | 0 => rfl
  | 1 => rfl
  | 2 => rfl
  | 3 => rfl
  | 4 => rfl
  | j + 5 => simp [v5, va_up]
theorem v5_cp (a b c d e a' b' c' d' e' : Nat) : v5 a b c d e = va_cpy (v5 a b c d e) (v5 a' b' c' d' e') 0 0 5 := by
  funext j
  match j with
  | 0 => rfl
  | 1 => rfl
  | 2 => rfl
  | 3 => rfl
  | 4 => rfl
  | j + 5 => simp [v5, va_cpy]
def val5 (a b c d e : Nat) : Nat := a + b * 2 ^ 26 + c * 2 ^ 52 + d * 2 ^ 78 + e * 2 ^ 104
theorem or_add {a b k : Nat} (h : a < 2 ^ k) : a ||| b * 2 ^ k = a + b * 2 ^ k := by
  rw [Nat.or_comm, Nat.mul_comm b, ← Nat.two_pow_add_eq_or_of_lt h, Nat.add_comm]
theorem le4_nat (b : Nat → By) (a : Nat) : (le4 b a).toNat = (b a).toNat + (b (a + 1)).toNat * 2 ^ 8 + (b (a + 2)).toNat * 2 ^ 16 + (b (a + 3)).toNat * 2 ^ 24 := by
  have h0 := (b a).isLt; have h1 := (b (a + 1)).isLt; have h2 := (b (a + 2)).isLt; have h3 := (b (a + 3)).isLt
  unfold le4
  simp only [BitVec.toNat_or, BitVec.toNat_shiftLeft, BitVec.toNat_setWidth, Nat.shiftLeft_eq]
  rw [Nat.mod_eq_of_lt (show (b a).toNat < 2 ^ 32 by omega), Nat.mod_eq_of_lt (show (b (a + 1)).toNat < 2 ^ 32 by omega), Nat.mod_eq_of_lt (show (b (a + 2)).toNat < 2 ^ 32 by omega), Nat.mod_eq_of_lt (show (b (a + 3)).toNat < 2 ^ 32 by omega),
    Nat.mod_eq_of_lt (show (b (a + 1)).toNat * 2 ^ 8 < 2 ^ 32 by omega), Nat.mod_eq_of_lt (show (b (a + 2)).toNat * 2 ^ 16 < 2 ^ 32 by omega), Nat.mod_eq_of_lt (show (b (a + 3)).toNat * 2 ^ 24 < 2 ^ 32 by omega)]
  rw [or_add (k := 8) (by omega), or_add (k := 16) (by omega), or_add (k := 24) (by omega)]
theorem leN_lt (b : Nat → By) : ∀ n, leN b n < 256 ^ n := by
  intro n
  induction n with
  | zero => simp [leN]
  | succ n ih =>
    have h := (b n).isLt
    simp only [leN, Nat.pow_succ]
    have h2 : (b n).toNat * 256 ^ n ≤ 255 * 256 ^ n := Nat.mul_le_mul_right _ (by omega)
    omega
theorem leN_congr {b b' : Nat → By} : ∀ n, (∀ j, j < n → b j = b' j) → leN b n = leN b' n := by
  intro n
  induction n with
  | zero => intro _; rfl
  | succ n ih => intro h; simp only [leN]; rw [ih (fun j hj => h j (by omega)), h n (by omega)]
def po_lim (b : Nat → By) (i : Nat) : Nat := leN b 17 / 2 ^ (26 * i) % 2 ^ 26
theorem po_lim_lt (b : Nat → By) (i : Nat) : po_lim b i < 2 ^ 26 := Nat.mod_lt _ (by decide)
theorem po_lim_w (b : Nat → By) {i : Nat} (hi : i < 5) : wI (le4 b (26 * i / 2 ^ 3) >>> (26 * i % 2 ^ 3) &&& 67108863#32) = nI (po_lim b i) := by
  rw [wI_n]
  congr 1
  apply BitVec.eq_of_toNat_eq
  have h17 := leN_lt b 17
  have hb : ∀ j, (b j).toNat < 256 := fun j => (b j).isLt
  have hm : (67108863#32).toNat = 2 ^ 26 - 1 := by decide
  have hl := po_lim_lt b i
  rw [BitVec.toNat_and, hm, Nat.and_two_pow_sub_one_eq_mod, BitVec.toNat_ushiftRight, Nat.shiftRight_eq_div_pow, le4_nat, BitVec.toNat_ofNat, Nat.mod_eq_of_lt (Nat.lt_trans hl (by decide))]
  unfold po_lim
  simp only [leN]
  have e : i = 0 ∨ i = 1 ∨ i = 2 ∨ i = 3 ∨ i = 4 := by omega
  have b0 := hb 0; have b1 := hb 1; have b2 := hb 2; have b3 := hb 3; have b4 := hb 4; have b5 := hb 5; have b6 := hb 6; have b7 := hb 7; have b8 := hb 8
  have b9 := hb 9; have b10 := hb 10; have b11 := hb 11; have b12 := hb 12; have b13 := hb 13; have b14 := hb 14; have b15 := hb 15; have b16 := hb 16
  rcases e with rfl | rfl | rfl | rfl | rfl
  · show ((b 0).toNat + (b 1).toNat * 2 ^ 8 + (b 2).toNat * 2 ^ 16 + (b 3).toNat * 2 ^ 24) / 2 ^ 0 % 2 ^ 26 = _
    omega
  · show ((b 3).toNat + (b 4).toNat * 2 ^ 8 + (b 5).toNat * 2 ^ 16 + (b 6).toNat * 2 ^ 24) / 2 ^ 2 % 2 ^ 26 = _
    omega
  · show ((b 6).toNat + (b 7).toNat * 2 ^ 8 + (b 8).toNat * 2 ^ 16 + (b 9).toNat * 2 ^ 24) / 2 ^ 4 % 2 ^ 26 = _
    omega
  · show ((b 9).toNat + (b 10).toNat * 2 ^ 8 + (b 11).toNat * 2 ^ 16 + (b 12).toNat * 2 ^ 24) / 2 ^ 6 % 2 ^ 26 = _
    omega
  · show ((b 13).toNat + (b 14).toNat * 2 ^ 8 + (b 15).toNat * 2 ^ 16 + (b 16).toNat * 2 ^ 24) / 2 ^ 0 % 2 ^ 26 = _
    omega
theorem po_lim_val (b : Nat → By) (h : leN b 17 < 2 ^ 130) : val5 (po_lim b 0) (po_lim b 1) (po_lim b 2) (po_lim b 3) (po_lim b 4) = leN b 17 := by
  unfold val5 po_lim
  generalize leN b 17 = z at h ⊢
  omega
theorem po_mul (a0 a1 a2 a3 a4 r0 r1 r2 r3 r4 : Nat) : val5 a0 a1 a2 a3 a4 * val5 r0 r1 r2 r3 r4 = a0 * r0 + (a0 * r1 + a1 * r0) * 2 ^ 26 + (a0 * r2 + a1 * r1 + a2 * r0) * 2 ^ 52 + (a0 * r3 + a1 * r2 + a2 * r1 + a3 * r0) * 2 ^ 78 + (a0 * r4 + a1 * r3 + a2 * r2 + a3 * r1 + a4 * r0) * 2 ^ 104 + (a1 * r4 + a2 * r3 + a3 * r2 + a4 * r1) * 2 ^ 130 + (a2 * r4 + a3 * r3 + a4 * r2) * 2 ^ 156 + (a3 * r4 + a4 * r3) * 2 ^ 182 + a4 * r4 * 2 ^ 208 := by
  have t : ∀ a r x y : Nat, (a * 2 ^ x) * (r * 2 ^ y) = (a * r) * 2 ^ (x + y) := fun a r x y => by rw [Nat.mul_mul_mul_comm, ← Nat.pow_add]
  have t1 : ∀ a r y : Nat, a * (r * 2 ^ y) = (a * r) * 2 ^ y := fun a r y => by rw [Nat.mul_assoc]
  have t2 : ∀ a r x : Nat, (a * 2 ^ x) * r = (a * r) * 2 ^ x := fun a r x => by rw [Nat.mul_assoc, Nat.mul_comm (2 ^ x), ← Nat.mul_assoc]
  unfold val5
  simp only [Nat.add_mul, Nat.mul_add]
  rw [t1 a0 r1, t1 a0 r2, t1 a0 r3, t1 a0 r4, t2 a1 r0, t2 a2 r0, t2 a3 r0, t2 a4 r0]
  rw [t a1 r1, t a1 r2, t a1 r3, t a1 r4, t a2 r1, t a2 r2, t a2 r3, t a2 r4, t a3 r1, t a3 r2, t a3 r3, t a3 r4, t a4 r1, t a4 r2, t a4 r3, t a4 r4]
  omega
theorem dX6_readLimb_0 : decode cX6_readLimb 0 = .ok (.bipush 26, 2) := by decide +kernel
theorem dX6_readLimb_2 : decode cX6_readLimb 2 = .ok (.iload_n 1, 1) := by decide +kernel
theorem dX6_readLimb_3 : decode cX6_readLimb 3 = .ok (.imul, 1) := by decide +kernel
theorem dX6_readLimb_4 : decode cX6_readLimb 4 = .ok (.istore_n 2, 1) := by decide +kernel
theorem dX6_readLimb_5 : decode cX6_readLimb 5 = .ok (.aload_n 0, 1) := by decide +kernel
theorem dX6_readLimb_6 : decode cX6_readLimb 6 = .ok (.getfield 24, 3) := by decide +kernel
theorem dX6_readLimb_9 : decode cX6_readLimb 9 = .ok (.iload_n 2, 1) := by decide +kernel
theorem dX6_readLimb_10 : decode cX6_readLimb 10 = .ok (.iconst 3, 1) := by decide +kernel
theorem dX6_readLimb_11 : decode cX6_readLimb 11 = .ok (.ishr, 1) := by decide +kernel
theorem dX6_readLimb_12 : decode cX6_readLimb 12 = .ok (.invokestatic 38, 3) := by decide +kernel
theorem dX6_readLimb_15 : decode cX6_readLimb 15 = .ok (.iload_n 2, 1) := by decide +kernel
theorem dX6_readLimb_16 : decode cX6_readLimb 16 = .ok (.bipush 7, 2) := by decide +kernel
theorem dX6_readLimb_18 : decode cX6_readLimb 18 = .ok (.iand, 1) := by decide +kernel
theorem dX6_readLimb_19 : decode cX6_readLimb 19 = .ok (.iushr, 1) := by decide +kernel
theorem dX6_readLimb_20 : decode cX6_readLimb 20 = .ok (.ldc 63, 2) := by decide +kernel
theorem dX6_readLimb_22 : decode cX6_readLimb 22 = .ok (.iand, 1) := by decide +kernel
theorem dX6_readLimb_23 : decode cX6_readLimb 23 = .ok (.ireturn, 1) := by decide +kernel
theorem dX6_carry_0 : decode cX6_carry 0 = .ok (.iconst 0, 1) := by decide +kernel
theorem dX6_carry_1 : decode cX6_carry 1 = .ok (.istore_n 1, 1) := by decide +kernel
theorem dX6_carry_2 : decode cX6_carry 2 = .ok (.iload_n 1, 1) := by decide +kernel
theorem dX6_carry_3 : decode cX6_carry 3 = .ok (.iconst 5, 1) := by decide +kernel
theorem dX6_carry_4 : decode cX6_carry 4 = .ok (.if_icmp .ge 67, 3) := by decide +kernel
theorem dX6_carry_7 : decode cX6_carry 7 = .ok (.aload_n 0, 1) := by decide +kernel
theorem dX6_carry_8 : decode cX6_carry 8 = .ok (.getfield 11, 3) := by decide +kernel
theorem dX6_carry_11 : decode cX6_carry 11 = .ok (.iload_n 1, 1) := by decide +kernel
theorem dX6_carry_12 : decode cX6_carry 12 = .ok (.laload, 1) := by decide +kernel
theorem dX6_carry_13 : decode cX6_carry 13 = .ok (.bipush 26, 2) := by decide +kernel
theorem dX6_carry_15 : decode cX6_carry 15 = .ok (.lushr, 1) := by decide +kernel
theorem dX6_carry_16 : decode cX6_carry 16 = .ok (.lstore_n 2, 1) := by decide +kernel
theorem dX6_carry_17 : decode cX6_carry 17 = .ok (.aload_n 0, 1) := by decide +kernel
theorem dX6_carry_18 : decode cX6_carry 18 = .ok (.getfield 11, 3) := by decide +kernel
theorem dX6_carry_21 : decode cX6_carry 21 = .ok (.iload_n 1, 1) := by decide +kernel
theorem dX6_carry_22 : decode cX6_carry 22 = .ok (.dup2, 1) := by decide +kernel
theorem dX6_carry_23 : decode cX6_carry 23 = .ok (.laload, 1) := by decide +kernel
theorem dX6_carry_24 : decode cX6_carry 24 = .ok (.ldc2_w 66, 3) := by decide +kernel
theorem dX6_carry_27 : decode cX6_carry 27 = .ok (.land, 1) := by decide +kernel
theorem dX6_carry_28 : decode cX6_carry 28 = .ok (.lastore, 1) := by decide +kernel
theorem dX6_carry_29 : decode cX6_carry 29 = .ok (.iload_n 1, 1) := by decide +kernel
theorem dX6_carry_30 : decode cX6_carry 30 = .ok (.iconst 1, 1) := by decide +kernel
theorem dX6_carry_31 : decode cX6_carry 31 = .ok (.iadd, 1) := by decide +kernel
theorem dX6_carry_32 : decode cX6_carry 32 = .ok (.iconst 5, 1) := by decide +kernel
theorem dX6_carry_33 : decode cX6_carry 33 = .ok (.if_icmp .ge 18, 3) := by decide +kernel
theorem dX6_carry_36 : decode cX6_carry 36 = .ok (.aload_n 0, 1) := by decide +kernel
theorem dX6_carry_37 : decode cX6_carry 37 = .ok (.getfield 11, 3) := by decide +kernel
theorem dX6_carry_40 : decode cX6_carry 40 = .ok (.iload_n 1, 1) := by decide +kernel
theorem dX6_carry_41 : decode cX6_carry 41 = .ok (.iconst 1, 1) := by decide +kernel
theorem dX6_carry_42 : decode cX6_carry 42 = .ok (.iadd, 1) := by decide +kernel
theorem dX6_carry_43 : decode cX6_carry 43 = .ok (.dup2, 1) := by decide +kernel
theorem dX6_carry_44 : decode cX6_carry 44 = .ok (.laload, 1) := by decide +kernel
theorem dX6_carry_45 : decode cX6_carry 45 = .ok (.lload_n 2, 1) := by decide +kernel
theorem dX6_carry_46 : decode cX6_carry 46 = .ok (.ladd, 1) := by decide +kernel
theorem dX6_carry_47 : decode cX6_carry 47 = .ok (.lastore, 1) := by decide +kernel
theorem dX6_carry_48 : decode cX6_carry 48 = .ok (.goto 17, 3) := by decide +kernel
theorem dX6_carry_51 : decode cX6_carry 51 = .ok (.aload_n 0, 1) := by decide +kernel
theorem dX6_carry_52 : decode cX6_carry 52 = .ok (.getfield 11, 3) := by decide +kernel
theorem dX6_carry_55 : decode cX6_carry 55 = .ok (.iconst 0, 1) := by decide +kernel
theorem dX6_carry_56 : decode cX6_carry 56 = .ok (.dup2, 1) := by decide +kernel
theorem dX6_carry_57 : decode cX6_carry 57 = .ok (.laload, 1) := by decide +kernel
theorem dX6_carry_58 : decode cX6_carry 58 = .ok (.ldc2_w 64, 3) := by decide +kernel
theorem dX6_carry_61 : decode cX6_carry 61 = .ok (.lload_n 2, 1) := by decide +kernel
theorem dX6_carry_62 : decode cX6_carry 62 = .ok (.lmul, 1) := by decide +kernel
theorem dX6_carry_63 : decode cX6_carry 63 = .ok (.ladd, 1) := by decide +kernel
theorem dX6_carry_64 : decode cX6_carry 64 = .ok (.lastore, 1) := by decide +kernel
theorem dX6_carry_65 : decode cX6_carry 65 = .ok (.iinc 1 1, 3) := by decide +kernel
theorem dX6_carry_68 : decode cX6_carry 68 = .ok (.goto (-66), 3) := by decide +kernel
theorem dX6_carry_71 : decode cX6_carry 71 = .ok (.return_, 1) := by decide +kernel
theorem dX6_addPiece_0 : decode cX6_addPiece 0 = .ok (.iconst 0, 1) := by decide +kernel
theorem dX6_addPiece_1 : decode cX6_addPiece 1 = .ok (.istore_n 1, 1) := by decide +kernel
theorem dX6_addPiece_2 : decode cX6_addPiece 2 = .ok (.iload_n 1, 1) := by decide +kernel
theorem dX6_addPiece_3 : decode cX6_addPiece 3 = .ok (.iconst 5, 1) := by decide +kernel
theorem dX6_addPiece_4 : decode cX6_addPiece 4 = .ok (.if_icmp .ge 31, 3) := by decide +kernel
theorem dX6_addPiece_7 : decode cX6_addPiece 7 = .ok (.aload_n 0, 1) := by decide +kernel
theorem dX6_addPiece_8 : decode cX6_addPiece 8 = .ok (.getfield 11, 3) := by decide +kernel
theorem dX6_addPiece_11 : decode cX6_addPiece 11 = .ok (.iload_n 1, 1) := by decide +kernel
theorem dX6_addPiece_12 : decode cX6_addPiece 12 = .ok (.dup2, 1) := by decide +kernel
theorem dX6_addPiece_13 : decode cX6_addPiece 13 = .ok (.laload, 1) := by decide +kernel
theorem dX6_addPiece_14 : decode cX6_addPiece 14 = .ok (.aload_n 0, 1) := by decide +kernel
theorem dX6_addPiece_15 : decode cX6_addPiece 15 = .ok (.iload_n 1, 1) := by decide +kernel
theorem dX6_addPiece_16 : decode cX6_addPiece 16 = .ok (.invokevirtual 34, 3) := by decide +kernel
theorem dX6_addPiece_19 : decode cX6_addPiece 19 = .ok (.i2l, 1) := by decide +kernel
theorem dX6_addPiece_20 : decode cX6_addPiece 20 = .ok (.ladd, 1) := by decide +kernel
theorem dX6_addPiece_21 : decode cX6_addPiece 21 = .ok (.lastore, 1) := by decide +kernel
theorem dX6_addPiece_22 : decode cX6_addPiece 22 = .ok (.aload_n 0, 1) := by decide +kernel
theorem dX6_addPiece_23 : decode cX6_addPiece 23 = .ok (.getfield 18, 3) := by decide +kernel
theorem dX6_addPiece_26 : decode cX6_addPiece 26 = .ok (.iload_n 1, 1) := by decide +kernel
theorem dX6_addPiece_27 : decode cX6_addPiece 27 = .ok (.lconst 0, 1) := by decide +kernel
theorem dX6_addPiece_28 : decode cX6_addPiece 28 = .ok (.lastore, 1) := by decide +kernel
theorem dX6_addPiece_29 : decode cX6_addPiece 29 = .ok (.iinc 1 1, 3) := by decide +kernel
theorem dX6_addPiece_32 : decode cX6_addPiece 32 = .ok (.goto (-30), 3) := by decide +kernel
theorem dX6_addPiece_35 : decode cX6_addPiece 35 = .ok (.iconst 0, 1) := by decide +kernel
theorem dX6_addPiece_36 : decode cX6_addPiece 36 = .ok (.istore_n 1, 1) := by decide +kernel
theorem dX6_addPiece_37 : decode cX6_addPiece 37 = .ok (.iload_n 1, 1) := by decide +kernel
theorem dX6_addPiece_38 : decode cX6_addPiece 38 = .ok (.iconst 5, 1) := by decide +kernel
theorem dX6_addPiece_39 : decode cX6_addPiece 39 = .ok (.if_icmp .ge 84, 3) := by decide +kernel
theorem dX6_addPiece_42 : decode cX6_addPiece 42 = .ok (.iconst 0, 1) := by decide +kernel
theorem dX6_addPiece_43 : decode cX6_addPiece 43 = .ok (.istore_n 2, 1) := by decide +kernel
theorem dX6_addPiece_44 : decode cX6_addPiece 44 = .ok (.iload_n 2, 1) := by decide +kernel
theorem dX6_addPiece_45 : decode cX6_addPiece 45 = .ok (.iconst 5, 1) := by decide +kernel
theorem dX6_addPiece_46 : decode cX6_addPiece 46 = .ok (.if_icmp .ge 71, 3) := by decide +kernel
theorem dX6_addPiece_49 : decode cX6_addPiece 49 = .ok (.iload_n 1, 1) := by decide +kernel
theorem dX6_addPiece_50 : decode cX6_addPiece 50 = .ok (.iload_n 2, 1) := by decide +kernel
theorem dX6_addPiece_51 : decode cX6_addPiece 51 = .ok (.iadd, 1) := by decide +kernel
theorem dX6_addPiece_52 : decode cX6_addPiece 52 = .ok (.istore_n 3, 1) := by decide +kernel
theorem dX6_addPiece_53 : decode cX6_addPiece 53 = .ok (.iload_n 3, 1) := by decide +kernel
theorem dX6_addPiece_54 : decode cX6_addPiece 54 = .ok (.iconst 5, 1) := by decide +kernel
theorem dX6_addPiece_55 : decode cX6_addPiece 55 = .ok (.if_icmp .ge 28, 3) := by decide +kernel
theorem dX6_addPiece_58 : decode cX6_addPiece 58 = .ok (.aload_n 0, 1) := by decide +kernel
theorem dX6_addPiece_59 : decode cX6_addPiece 59 = .ok (.getfield 18, 3) := by decide +kernel
theorem dX6_addPiece_62 : decode cX6_addPiece 62 = .ok (.iload_n 3, 1) := by decide +kernel
theorem dX6_addPiece_63 : decode cX6_addPiece 63 = .ok (.dup2, 1) := by decide +kernel
theorem dX6_addPiece_64 : decode cX6_addPiece 64 = .ok (.laload, 1) := by decide +kernel
theorem dX6_addPiece_65 : decode cX6_addPiece 65 = .ok (.aload_n 0, 1) := by decide +kernel
theorem dX6_addPiece_66 : decode cX6_addPiece 66 = .ok (.getfield 11, 3) := by decide +kernel
theorem dX6_addPiece_69 : decode cX6_addPiece 69 = .ok (.iload_n 1, 1) := by decide +kernel
theorem dX6_addPiece_70 : decode cX6_addPiece 70 = .ok (.laload, 1) := by decide +kernel
theorem dX6_addPiece_71 : decode cX6_addPiece 71 = .ok (.aload_n 0, 1) := by decide +kernel
theorem dX6_addPiece_72 : decode cX6_addPiece 72 = .ok (.getfield 15, 3) := by decide +kernel
theorem dX6_addPiece_75 : decode cX6_addPiece 75 = .ok (.iload_n 2, 1) := by decide +kernel
theorem dX6_addPiece_76 : decode cX6_addPiece 76 = .ok (.laload, 1) := by decide +kernel
theorem dX6_addPiece_77 : decode cX6_addPiece 77 = .ok (.lmul, 1) := by decide +kernel
theorem dX6_addPiece_78 : decode cX6_addPiece 78 = .ok (.ladd, 1) := by decide +kernel
theorem dX6_addPiece_79 : decode cX6_addPiece 79 = .ok (.lastore, 1) := by decide +kernel
theorem dX6_addPiece_80 : decode cX6_addPiece 80 = .ok (.goto 31, 3) := by decide +kernel
theorem dX6_addPiece_83 : decode cX6_addPiece 83 = .ok (.aload_n 0, 1) := by decide +kernel
theorem dX6_addPiece_84 : decode cX6_addPiece 84 = .ok (.getfield 18, 3) := by decide +kernel
theorem dX6_addPiece_87 : decode cX6_addPiece 87 = .ok (.iload_n 3, 1) := by decide +kernel
theorem dX6_addPiece_88 : decode cX6_addPiece 88 = .ok (.iconst 5, 1) := by decide +kernel
theorem dX6_addPiece_89 : decode cX6_addPiece 89 = .ok (.isub, 1) := by decide +kernel
theorem dX6_addPiece_90 : decode cX6_addPiece 90 = .ok (.dup2, 1) := by decide +kernel
theorem dX6_addPiece_91 : decode cX6_addPiece 91 = .ok (.laload, 1) := by decide +kernel
theorem dX6_addPiece_92 : decode cX6_addPiece 92 = .ok (.ldc2_w 64, 3) := by decide +kernel
theorem dX6_addPiece_95 : decode cX6_addPiece 95 = .ok (.aload_n 0, 1) := by decide +kernel
theorem dX6_addPiece_96 : decode cX6_addPiece 96 = .ok (.getfield 11, 3) := by decide +kernel
theorem dX6_addPiece_99 : decode cX6_addPiece 99 = .ok (.iload_n 1, 1) := by decide +kernel
theorem dX6_addPiece_100 : decode cX6_addPiece 100 = .ok (.laload, 1) := by decide +kernel
theorem dX6_addPiece_101 : decode cX6_addPiece 101 = .ok (.lmul, 1) := by decide +kernel
theorem dX6_addPiece_102 : decode cX6_addPiece 102 = .ok (.aload_n 0, 1) := by decide +kernel
theorem dX6_addPiece_103 : decode cX6_addPiece 103 = .ok (.getfield 15, 3) := by decide +kernel
theorem dX6_addPiece_106 : decode cX6_addPiece 106 = .ok (.iload_n 2, 1) := by decide +kernel
theorem dX6_addPiece_107 : decode cX6_addPiece 107 = .ok (.laload, 1) := by decide +kernel
theorem dX6_addPiece_108 : decode cX6_addPiece 108 = .ok (.lmul, 1) := by decide +kernel
theorem dX6_addPiece_109 : decode cX6_addPiece 109 = .ok (.ladd, 1) := by decide +kernel
theorem dX6_addPiece_110 : decode cX6_addPiece 110 = .ok (.lastore, 1) := by decide +kernel
theorem dX6_addPiece_111 : decode cX6_addPiece 111 = .ok (.iinc 2 1, 3) := by decide +kernel
theorem dX6_addPiece_114 : decode cX6_addPiece 114 = .ok (.goto (-70), 3) := by decide +kernel
theorem dX6_addPiece_117 : decode cX6_addPiece 117 = .ok (.iinc 1 1, 3) := by decide +kernel
theorem dX6_addPiece_120 : decode cX6_addPiece 120 = .ok (.goto (-83), 3) := by decide +kernel
theorem dX6_addPiece_123 : decode cX6_addPiece 123 = .ok (.aload_n 0, 1) := by decide +kernel
theorem dX6_addPiece_124 : decode cX6_addPiece 124 = .ok (.getfield 18, 3) := by decide +kernel
theorem dX6_addPiece_127 : decode cX6_addPiece 127 = .ok (.iconst 0, 1) := by decide +kernel
theorem dX6_addPiece_128 : decode cX6_addPiece 128 = .ok (.aload_n 0, 1) := by decide +kernel
theorem dX6_addPiece_129 : decode cX6_addPiece 129 = .ok (.getfield 11, 3) := by decide +kernel
theorem dX6_addPiece_132 : decode cX6_addPiece 132 = .ok (.iconst 0, 1) := by decide +kernel
theorem dX6_addPiece_133 : decode cX6_addPiece 133 = .ok (.iconst 5, 1) := by decide +kernel
theorem dX6_addPiece_134 : decode cX6_addPiece 134 = .ok (.invokestatic 28, 3) := by decide +kernel
theorem dX6_addPiece_137 : decode cX6_addPiece 137 = .ok (.aload_n 0, 1) := by decide +kernel
theorem dX6_addPiece_138 : decode cX6_addPiece 138 = .ok (.invokevirtual 53, 3) := by decide +kernel
theorem dX6_addPiece_141 : decode cX6_addPiece 141 = .ok (.aload_n 0, 1) := by decide +kernel
theorem dX6_addPiece_142 : decode cX6_addPiece 142 = .ok (.invokevirtual 53, 3) := by decide +kernel
theorem dX6_addPiece_145 : decode cX6_addPiece 145 = .ok (.return_, 1) := by decide +kernel
theorem dX6_reduce_0 : decode cX6_reduce 0 = .ok (.aload_n 0, 1) := by decide +kernel
theorem dX6_reduce_1 : decode cX6_reduce 1 = .ok (.getfield 11, 3) := by decide +kernel
theorem dX6_reduce_4 : decode cX6_reduce 4 = .ok (.iconst 0, 1) := by decide +kernel
theorem dX6_reduce_5 : decode cX6_reduce 5 = .ok (.laload, 1) := by decide +kernel
theorem dX6_reduce_6 : decode cX6_reduce 6 = .ok (.ldc2_w 68, 3) := by decide +kernel
theorem dX6_reduce_9 : decode cX6_reduce 9 = .ok (.lcmp, 1) := by decide +kernel
theorem dX6_reduce_10 : decode cX6_reduce 10 = .ok (.ifCond .lt 7, 3) := by decide +kernel
theorem dX6_reduce_13 : decode cX6_reduce 13 = .ok (.iconst 1, 1) := by decide +kernel
theorem dX6_reduce_14 : decode cX6_reduce 14 = .ok (.goto 4, 3) := by decide +kernel
theorem dX6_reduce_17 : decode cX6_reduce 17 = .ok (.iconst 0, 1) := by decide +kernel
theorem dX6_reduce_18 : decode cX6_reduce 18 = .ok (.istore_n 1, 1) := by decide +kernel
theorem dX6_reduce_19 : decode cX6_reduce 19 = .ok (.iconst 1, 1) := by decide +kernel
theorem dX6_reduce_20 : decode cX6_reduce 20 = .ok (.istore_n 2, 1) := by decide +kernel
theorem dX6_reduce_21 : decode cX6_reduce 21 = .ok (.iload_n 2, 1) := by decide +kernel
theorem dX6_reduce_22 : decode cX6_reduce 22 = .ok (.iconst 5, 1) := by decide +kernel
theorem dX6_reduce_23 : decode cX6_reduce 23 = .ok (.if_icmp .ge 32, 3) := by decide +kernel
theorem dX6_reduce_26 : decode cX6_reduce 26 = .ok (.iload_n 1, 1) := by decide +kernel
theorem dX6_reduce_27 : decode cX6_reduce 27 = .ok (.ifCond .eq 20, 3) := by decide +kernel
theorem dX6_reduce_30 : decode cX6_reduce 30 = .ok (.aload_n 0, 1) := by decide +kernel
theorem dX6_reduce_31 : decode cX6_reduce 31 = .ok (.getfield 11, 3) := by decide +kernel
theorem dX6_reduce_34 : decode cX6_reduce 34 = .ok (.iload_n 2, 1) := by decide +kernel
theorem dX6_reduce_35 : decode cX6_reduce 35 = .ok (.laload, 1) := by decide +kernel
theorem dX6_reduce_36 : decode cX6_reduce 36 = .ok (.ldc2_w 66, 3) := by decide +kernel
theorem dX6_reduce_39 : decode cX6_reduce 39 = .ok (.lcmp, 1) := by decide +kernel
theorem dX6_reduce_40 : decode cX6_reduce 40 = .ok (.ifCond .ne 7, 3) := by decide +kernel
theorem dX6_reduce_43 : decode cX6_reduce 43 = .ok (.iconst 1, 1) := by decide +kernel
theorem dX6_reduce_44 : decode cX6_reduce 44 = .ok (.goto 4, 3) := by decide +kernel
theorem dX6_reduce_47 : decode cX6_reduce 47 = .ok (.iconst 0, 1) := by decide +kernel
theorem dX6_reduce_48 : decode cX6_reduce 48 = .ok (.istore_n 1, 1) := by decide +kernel
theorem dX6_reduce_49 : decode cX6_reduce 49 = .ok (.iinc 2 1, 3) := by decide +kernel
theorem dX6_reduce_52 : decode cX6_reduce 52 = .ok (.goto (-31), 3) := by decide +kernel
theorem dX6_reduce_55 : decode cX6_reduce 55 = .ok (.iload_n 1, 1) := by decide +kernel
theorem dX6_reduce_56 : decode cX6_reduce 56 = .ok (.ifCond .eq 35, 3) := by decide +kernel
theorem dX6_reduce_59 : decode cX6_reduce 59 = .ok (.aload_n 0, 1) := by decide +kernel
theorem dX6_reduce_60 : decode cX6_reduce 60 = .ok (.getfield 11, 3) := by decide +kernel
theorem dX6_reduce_63 : decode cX6_reduce 63 = .ok (.iconst 0, 1) := by decide +kernel
theorem dX6_reduce_64 : decode cX6_reduce 64 = .ok (.dup2, 1) := by decide +kernel
theorem dX6_reduce_65 : decode cX6_reduce 65 = .ok (.laload, 1) := by decide +kernel
theorem dX6_reduce_66 : decode cX6_reduce 66 = .ok (.ldc2_w 68, 3) := by decide +kernel
theorem dX6_reduce_69 : decode cX6_reduce 69 = .ok (.lsub, 1) := by decide +kernel
theorem dX6_reduce_70 : decode cX6_reduce 70 = .ok (.lastore, 1) := by decide +kernel
theorem dX6_reduce_71 : decode cX6_reduce 71 = .ok (.iconst 1, 1) := by decide +kernel
theorem dX6_reduce_72 : decode cX6_reduce 72 = .ok (.istore_n 2, 1) := by decide +kernel
theorem dX6_reduce_73 : decode cX6_reduce 73 = .ok (.iload_n 2, 1) := by decide +kernel
theorem dX6_reduce_74 : decode cX6_reduce 74 = .ok (.iconst 5, 1) := by decide +kernel
theorem dX6_reduce_75 : decode cX6_reduce 75 = .ok (.if_icmp .ge 16, 3) := by decide +kernel
theorem dX6_reduce_78 : decode cX6_reduce 78 = .ok (.aload_n 0, 1) := by decide +kernel
theorem dX6_reduce_79 : decode cX6_reduce 79 = .ok (.getfield 11, 3) := by decide +kernel
theorem dX6_reduce_82 : decode cX6_reduce 82 = .ok (.iload_n 2, 1) := by decide +kernel
theorem dX6_reduce_83 : decode cX6_reduce 83 = .ok (.lconst 0, 1) := by decide +kernel
theorem dX6_reduce_84 : decode cX6_reduce 84 = .ok (.lastore, 1) := by decide +kernel
theorem dX6_reduce_85 : decode cX6_reduce 85 = .ok (.iinc 2 1, 3) := by decide +kernel
theorem dX6_reduce_88 : decode cX6_reduce 88 = .ok (.goto (-15), 3) := by decide +kernel
theorem dX6_reduce_91 : decode cX6_reduce 91 = .ok (.return_, 1) := by decide +kernel
set_option maxHeartbeats 4000000 in
set_option maxRecDepth 100000 in
theorem c_TL_lim (l : Launch) (D : va_G) (a0 : Nat) (p1 : Nat) (a0_a : Nat) (a0_r : Nat) (a0_product : Nat) (a0_s : Nat) (a0_piece : Nat) (t_a0_piece : Nat → By)  (h1 : p1 < 5) : vM l D yX6_readLimb cX6_readLimb 3 (some .int) { frames := 1, cells := 0, slots := 0, locals := 21 } [.ref a0, .int (nI p1)] [(a0, .inr (6, [.ref a0_a, .ref a0_r, .ref a0_product, .ref a0_s, .ref a0_piece])), (a0_piece, aB D 17 t_a0_piece)] (fun r wo => r = some (.int (nI (po_lim t_a0_piece p1))) ∧ wo = [(a0, .inr (6, [.ref a0_a, .ref a0_r, .ref a0_product, .ref a0_s, .ref a0_piece])), (a0_piece, aB D 17 t_a0_piece)]) := by
  refine vM.of (by decide) (Nat.le_of_ble_eq_true rfl) (fun C hCl hCD g R => ?_)
  subst hCl; subst hCD
  show VJ C 0 0 0 [(0, .ref a0), (1, .int (nI p1))] [] [(a0, .inr (6, [.ref a0_a, .ref a0_r, .ref a0_product, .ref a0_s, .ref a0_piece])), (a0_piece, aB C.D 17 t_a0_piece)]
  refine v_bipush g dX6_readLimb_0 (v := nI 26) (by decide +kernel) ?_
  refine v_iload_n g dX6_readLimb_2 1 rfl 1 rfl ?_
  refine v_imulN g dX6_readLimb_3 ?_
  refine v_istore_n g [(2, .int (nI (26 * p1))), (0, .ref a0), (1, .int (nI p1))] dX6_readLimb_4 2 rfl (by decide) rfl ?_
  refine v_aload_n g dX6_readLimb_5 0 rfl 1 rfl ?_
  refine gf_X6_24 g dX6_readLimb_6 0 rfl rfl ?_
  refine v_iload_n g dX6_readLimb_9 2 rfl 0 rfl ?_
  refine v_iconst g dX6_readLimb_10 (v := nI 3) (by decide +kernel) ?_
  refine v_ishrN g (by omega) (by omega) dX6_readLimb_11 ?_
  refine v_callSN (As := [.ref a0_piece, .int (nI ((26 * p1) / 2 ^ 3))]) (rest := []) (wr := [(a0, .inr (6, [.ref a0_a, .ref a0_r, .ref a0_product, .ref a0_s, .ref a0_piece]))]) cw_X6_38 cl_X6_38 (hy_X7_readWord) g (c_readWord C.l C.D a0_piece ((26 * p1) / 2 ^ 3) 17 t_a0_piece (by omega) (by omega)) dX6_readLimb_12 rfl (by decide) (by decide) (Nat.le_of_ble_eq_true rfl) [1] [0] rfl rfl (by decide) rfl (by decide) (by decide) _ rfl (fun r wo hp1 => ?_)
  obtain ⟨rfl, rfl⟩ := hp1
  show VJ C 0 0 15 [(2, .int (nI (26 * p1))), (0, .ref a0), (1, .int (nI p1))] [.int (wI (le4 t_a0_piece ((26 * p1) / 2 ^ 3)))] [(a0, .inr (6, [.ref a0_a, .ref a0_r, .ref a0_product, .ref a0_s, .ref a0_piece])), (a0_piece, aB C.D 17 t_a0_piece)]
  refine v_iload_n g dX6_readLimb_15 2 rfl 0 rfl ?_
  refine v_bipush g dX6_readLimb_16 (v := nI 7) (by decide +kernel) ?_
  refine v_iandM g 3 (by decide) dX6_readLimb_18 ?_
  refine v_iushrW g (le4 t_a0_piece ((26 * p1) / 2 ^ 3)) rfl (by omega) dX6_readLimb_19 ?_
  refine v_ldc g dX6_readLimb_20 ki_X6_63 ?_
  refine v_iandW g ((le4 t_a0_piece ((26 * p1) / 2 ^ 3)) >>> ((26 * p1) % 2 ^ 3)) (67108863#32) rfl rfl dX6_readLimb_22 ?_
  refine v_toi (nI (po_lim t_a0_piece p1)) (po_lim_w t_a0_piece h1) ?_
  exact v_iret g R dX6_readLimb_23 (by decide) (by decide) ⟨rfl, rfl⟩
set_option maxHeartbeats 4000000 in
set_option maxRecDepth 100000 in
theorem c_TL_carry (l : Launch) (D : va_G) (a0 : Nat) (a0_a : Nat) (a0_r : Nat) (a0_product : Nat) (a0_s : Nat) (a0_piece : Nat) (x0 x1 x2 x3 x4 : Nat) (h0 : x0 < 2 ^ 62) (h1 : x1 < 2 ^ 62) (h2 : x2 < 2 ^ 62) (h3 : x3 < 2 ^ 62) (h4 : x4 < 2 ^ 62) : vM l D yX6_carry cX6_carry 4 none { frames := 0, cells := 0, slots := 0, locals := 0 } [.ref a0] [(a0, .inr (6, [.ref a0_a, .ref a0_r, .ref a0_product, .ref a0_s, .ref a0_piece])), (a0_a, aL D 5 (v5 x0 x1 x2 x3 x4))] (fun r wo => ∃ (y0 : Nat) (y1 : Nat) (y2 : Nat) (y3 : Nat) (y4 : Nat) (c0 : Nat) (c1 : Nat) (c2 : Nat) (c3 : Nat) (c4 : Nat), r = none ∧ wo = [(a0, .inr (6, [.ref a0_a, .ref a0_r, .ref a0_product, .ref a0_s, .ref a0_piece])), (a0_a, aL D 5 (v5 y0 y1 y2 y3 y4))] ∧ (c0 = x0 / 2 ^ 26) ∧ (c1 = (x1 + c0) / 2 ^ 26) ∧ (c2 = (x2 + c1) / 2 ^ 26) ∧ (c3 = (x3 + c2) / 2 ^ 26) ∧ (c4 = (x4 + c3) / 2 ^ 26) ∧ (y0 = x0 % 2 ^ 26 + 5 * c4) ∧ (y1 = (x1 + c0) % 2 ^ 26) ∧ (y2 = (x2 + c1) % 2 ^ 26) ∧ (y3 = (x3 + c2) % 2 ^ 26) ∧ (y4 = (x4 + c3) % 2 ^ 26)) := by
  refine vM.of (by decide) (Nat.le_of_ble_eq_true rfl) (fun C hCl hCD g R => ?_)
  subst hCl; subst hCD
  show VJ C 0 0 0 [(0, .ref a0)] [] [(a0, .inr (6, [.ref a0_a, .ref a0_r, .ref a0_product, .ref a0_s, .ref a0_piece])), (a0_a, aL C.D 5 (v5 x0 x1 x2 x3 x4))]
  refine v_iconst g dX6_carry_0 (v := nI 0) (by decide +kernel) ?_
  refine v_istore_n g [(1, .int (nI 0)), (0, .ref a0)] dX6_carry_1 1 rfl (by decide) rfl ?_
  refine v_iload_n g dX6_carry_2 1 rfl 0 rfl ?_
  refine v_iconst g dX6_carry_3 (v := nI 5) (by decide +kernel) ?_
  refine v_icmp_geN g 71 dX6_carry_4 (by decide) (by decide) (by decide) (fun h => absurd h (by decide)) (fun _ => ?_)
  refine v_aload_n g dX6_carry_7 0 rfl 1 rfl ?_
  refine gf_X6_11 g dX6_carry_8 0 rfl rfl ?_
  refine v_iload_n g dX6_carry_11 1 rfl 0 rfl ?_
  refine v_laldL g 1 rfl (by decide) (by decide) dX6_carry_12 ?_
  refine v_tol (lN x0) rfl ?_
  refine v_bipush g dX6_carry_13 (v := nI 26) (by decide +kernel) ?_
  refine v_lushrN g (by omega) (by decide) dX6_carry_15 ?_
  refine v_nmL (fun c1 hc1 => ?_)
  refine v_lstore_n g [(2, .long (lN c1)), (1, .int (nI 0)), (0, .ref a0)] dX6_carry_16 2 rfl (by decide) rfl ?_
  refine v_aload_n g dX6_carry_17 0 rfl 2 rfl ?_
  refine gf_X6_11 g dX6_carry_18 0 rfl rfl ?_
  refine v_iload_n g dX6_carry_21 1 rfl 1 rfl ?_
  refine v_dup2 g dX6_carry_22 rfl rfl ?_
  refine v_laldL g 1 rfl (by decide) (by decide) dX6_carry_23 ?_
  refine v_tol (lN x0) rfl ?_
  refine v_ldc2 g dX6_carry_24 kl_X6_66 ?_
  refine v_landM g 26 (by decide) dX6_carry_27 ?_
  obtain ⟨y2, hy2⟩ : ∃ z : Nat, z = x0 % 2 ^ 26 := ⟨_, rfl⟩
  refine v_lastL g y2 (by rw [hy2]) (v5 y2 x1 x2 x3 x4) (v5_u0 _ _ _ _ _ _) 1 [(a0, .inr (6, [.ref a0_a, .ref a0_r, .ref a0_product, .ref a0_s, .ref a0_piece])), (a0_a, aL C.D 5 (v5 y2 x1 x2 x3 x4))] rfl (by decide) (by decide) dX6_carry_28 rfl ?_
  refine v_iload_n g dX6_carry_29 1 rfl 1 rfl ?_
  refine v_iconst g dX6_carry_30 (v := nI 1) (by decide +kernel) ?_
  refine v_iaddN g dX6_carry_31 ?_
  refine v_toi (nI 1) rfl ?_
  refine v_iconst g dX6_carry_32 (v := nI 5) (by decide +kernel) ?_
  refine v_icmp_geN g 51 dX6_carry_33 (by decide) (by decide) (by decide) (fun h => absurd h (by decide)) (fun _ => ?_)
  refine v_aload_n g dX6_carry_36 0 rfl 2 rfl ?_
  refine gf_X6_11 g dX6_carry_37 0 rfl rfl ?_
  refine v_iload_n g dX6_carry_40 1 rfl 1 rfl ?_
  refine v_iconst g dX6_carry_41 (v := nI 1) (by decide +kernel) ?_
  refine v_iaddN g dX6_carry_42 ?_
  refine v_toi (nI 1) rfl ?_
  refine v_dup2 g dX6_carry_43 rfl rfl ?_
  refine v_laldL g 1 rfl (by decide) (by decide) dX6_carry_44 ?_
  refine v_tol (lN x1) rfl ?_
  refine v_lload_n g dX6_carry_45 2 rfl 0 rfl ?_
  refine v_laddN g dX6_carry_46 ?_
  obtain ⟨y3, hy3⟩ : ∃ z : Nat, z = x1 + c1 := ⟨_, rfl⟩
  refine v_lastL g y3 (by rw [hy3]) (v5 y2 y3 x2 x3 x4) (v5_u1 _ _ _ _ _ _) 1 [(a0, .inr (6, [.ref a0_a, .ref a0_r, .ref a0_product, .ref a0_s, .ref a0_piece])), (a0_a, aL C.D 5 (v5 y2 y3 x2 x3 x4))] rfl (by decide) (by decide) dX6_carry_47 rfl ?_
  refine v_goto g 65 dX6_carry_48 (by decide) ?_
  refine v_iincN g 1 [(1, .int (nI 1)), (2, .long (lN c1)), (0, .ref a0)] dX6_carry_65 1 rfl (by decide +kernel) (by decide) rfl ?_
  refine v_goto g 2 dX6_carry_68 (by decide) ?_
  refine v_iload_n g dX6_carry_2 1 rfl 0 rfl ?_
  refine v_iconst g dX6_carry_3 (v := nI 5) (by decide +kernel) ?_
  refine v_icmp_geN g 71 dX6_carry_4 (by decide) (by decide) (by decide) (fun h => absurd h (by decide)) (fun _ => ?_)
  refine v_aload_n g dX6_carry_7 0 rfl 2 rfl ?_
  refine gf_X6_11 g dX6_carry_8 0 rfl rfl ?_
  refine v_iload_n g dX6_carry_11 1 rfl 0 rfl ?_
  refine v_laldL g 1 rfl (by decide) (by decide) dX6_carry_12 ?_
  refine v_tol (lN y3) rfl ?_
  refine v_bipush g dX6_carry_13 (v := nI 26) (by decide +kernel) ?_
  refine v_lushrN g (by omega) (by decide) dX6_carry_15 ?_
  refine v_nmL (fun c4 hc4 => ?_)
  refine v_lstore_n g [(2, .long (lN c4)), (1, .int (nI 1)), (0, .ref a0)] dX6_carry_16 2 rfl (by decide) rfl ?_
  refine v_aload_n g dX6_carry_17 0 rfl 2 rfl ?_
  refine gf_X6_11 g dX6_carry_18 0 rfl rfl ?_
  refine v_iload_n g dX6_carry_21 1 rfl 1 rfl ?_
  refine v_dup2 g dX6_carry_22 rfl rfl ?_
  refine v_laldL g 1 rfl (by decide) (by decide) dX6_carry_23 ?_
  refine v_tol (lN y3) rfl ?_
  refine v_ldc2 g dX6_carry_24 kl_X6_66 ?_
  refine v_landM g 26 (by decide) dX6_carry_27 ?_
  obtain ⟨y5, hy5⟩ : ∃ z : Nat, z = y3 % 2 ^ 26 := ⟨_, rfl⟩
  refine v_lastL g y5 (by rw [hy5]) (v5 y2 y5 x2 x3 x4) (v5_u1 _ _ _ _ _ _) 1 [(a0, .inr (6, [.ref a0_a, .ref a0_r, .ref a0_product, .ref a0_s, .ref a0_piece])), (a0_a, aL C.D 5 (v5 y2 y5 x2 x3 x4))] rfl (by decide) (by decide) dX6_carry_28 rfl ?_
  refine v_iload_n g dX6_carry_29 1 rfl 1 rfl ?_
  refine v_iconst g dX6_carry_30 (v := nI 1) (by decide +kernel) ?_
  refine v_iaddN g dX6_carry_31 ?_
  refine v_toi (nI 2) rfl ?_
  refine v_iconst g dX6_carry_32 (v := nI 5) (by decide +kernel) ?_
  refine v_icmp_geN g 51 dX6_carry_33 (by decide) (by decide) (by decide) (fun h => absurd h (by decide)) (fun _ => ?_)
  refine v_aload_n g dX6_carry_36 0 rfl 2 rfl ?_
  refine gf_X6_11 g dX6_carry_37 0 rfl rfl ?_
  refine v_iload_n g dX6_carry_40 1 rfl 1 rfl ?_
  refine v_iconst g dX6_carry_41 (v := nI 1) (by decide +kernel) ?_
  refine v_iaddN g dX6_carry_42 ?_
  refine v_toi (nI 2) rfl ?_
  refine v_dup2 g dX6_carry_43 rfl rfl ?_
  refine v_laldL g 1 rfl (by decide) (by decide) dX6_carry_44 ?_
  refine v_tol (lN x2) rfl ?_
  refine v_lload_n g dX6_carry_45 2 rfl 0 rfl ?_
  refine v_laddN g dX6_carry_46 ?_
  obtain ⟨y6, hy6⟩ : ∃ z : Nat, z = x2 + c4 := ⟨_, rfl⟩
  refine v_lastL g y6 (by rw [hy6]) (v5 y2 y5 y6 x3 x4) (v5_u2 _ _ _ _ _ _) 1 [(a0, .inr (6, [.ref a0_a, .ref a0_r, .ref a0_product, .ref a0_s, .ref a0_piece])), (a0_a, aL C.D 5 (v5 y2 y5 y6 x3 x4))] rfl (by decide) (by decide) dX6_carry_47 rfl ?_
  refine v_goto g 65 dX6_carry_48 (by decide) ?_
  refine v_iincN g 1 [(1, .int (nI 2)), (2, .long (lN c4)), (0, .ref a0)] dX6_carry_65 1 rfl (by decide +kernel) (by decide) rfl ?_
  refine v_goto g 2 dX6_carry_68 (by decide) ?_
  refine v_iload_n g dX6_carry_2 1 rfl 0 rfl ?_
  refine v_iconst g dX6_carry_3 (v := nI 5) (by decide +kernel) ?_
  refine v_icmp_geN g 71 dX6_carry_4 (by decide) (by decide) (by decide) (fun h => absurd h (by decide)) (fun _ => ?_)
  refine v_aload_n g dX6_carry_7 0 rfl 2 rfl ?_
  refine gf_X6_11 g dX6_carry_8 0 rfl rfl ?_
  refine v_iload_n g dX6_carry_11 1 rfl 0 rfl ?_
  refine v_laldL g 1 rfl (by decide) (by decide) dX6_carry_12 ?_
  refine v_tol (lN y6) rfl ?_
  refine v_bipush g dX6_carry_13 (v := nI 26) (by decide +kernel) ?_
  refine v_lushrN g (by omega) (by decide) dX6_carry_15 ?_
  refine v_nmL (fun c7 hc7 => ?_)
  refine v_lstore_n g [(2, .long (lN c7)), (1, .int (nI 2)), (0, .ref a0)] dX6_carry_16 2 rfl (by decide) rfl ?_
  refine v_aload_n g dX6_carry_17 0 rfl 2 rfl ?_
  refine gf_X6_11 g dX6_carry_18 0 rfl rfl ?_
  refine v_iload_n g dX6_carry_21 1 rfl 1 rfl ?_
  refine v_dup2 g dX6_carry_22 rfl rfl ?_
  refine v_laldL g 1 rfl (by decide) (by decide) dX6_carry_23 ?_
  refine v_tol (lN y6) rfl ?_
  refine v_ldc2 g dX6_carry_24 kl_X6_66 ?_
  refine v_landM g 26 (by decide) dX6_carry_27 ?_
  obtain ⟨y8, hy8⟩ : ∃ z : Nat, z = y6 % 2 ^ 26 := ⟨_, rfl⟩
  refine v_lastL g y8 (by rw [hy8]) (v5 y2 y5 y8 x3 x4) (v5_u2 _ _ _ _ _ _) 1 [(a0, .inr (6, [.ref a0_a, .ref a0_r, .ref a0_product, .ref a0_s, .ref a0_piece])), (a0_a, aL C.D 5 (v5 y2 y5 y8 x3 x4))] rfl (by decide) (by decide) dX6_carry_28 rfl ?_
  refine v_iload_n g dX6_carry_29 1 rfl 1 rfl ?_
  refine v_iconst g dX6_carry_30 (v := nI 1) (by decide +kernel) ?_
  refine v_iaddN g dX6_carry_31 ?_
  refine v_toi (nI 3) rfl ?_
  refine v_iconst g dX6_carry_32 (v := nI 5) (by decide +kernel) ?_
  refine v_icmp_geN g 51 dX6_carry_33 (by decide) (by decide) (by decide) (fun h => absurd h (by decide)) (fun _ => ?_)
  refine v_aload_n g dX6_carry_36 0 rfl 2 rfl ?_
  refine gf_X6_11 g dX6_carry_37 0 rfl rfl ?_
  refine v_iload_n g dX6_carry_40 1 rfl 1 rfl ?_
  refine v_iconst g dX6_carry_41 (v := nI 1) (by decide +kernel) ?_
  refine v_iaddN g dX6_carry_42 ?_
  refine v_toi (nI 3) rfl ?_
  refine v_dup2 g dX6_carry_43 rfl rfl ?_
  refine v_laldL g 1 rfl (by decide) (by decide) dX6_carry_44 ?_
  refine v_tol (lN x3) rfl ?_
  refine v_lload_n g dX6_carry_45 2 rfl 0 rfl ?_
  refine v_laddN g dX6_carry_46 ?_
  obtain ⟨y9, hy9⟩ : ∃ z : Nat, z = x3 + c7 := ⟨_, rfl⟩
  refine v_lastL g y9 (by rw [hy9]) (v5 y2 y5 y8 y9 x4) (v5_u3 _ _ _ _ _ _) 1 [(a0, .inr (6, [.ref a0_a, .ref a0_r, .ref a0_product, .ref a0_s, .ref a0_piece])), (a0_a, aL C.D 5 (v5 y2 y5 y8 y9 x4))] rfl (by decide) (by decide) dX6_carry_47 rfl ?_
  refine v_goto g 65 dX6_carry_48 (by decide) ?_
  refine v_iincN g 1 [(1, .int (nI 3)), (2, .long (lN c7)), (0, .ref a0)] dX6_carry_65 1 rfl (by decide +kernel) (by decide) rfl ?_
  refine v_goto g 2 dX6_carry_68 (by decide) ?_
  refine v_iload_n g dX6_carry_2 1 rfl 0 rfl ?_
  refine v_iconst g dX6_carry_3 (v := nI 5) (by decide +kernel) ?_
  refine v_icmp_geN g 71 dX6_carry_4 (by decide) (by decide) (by decide) (fun h => absurd h (by decide)) (fun _ => ?_)
  refine v_aload_n g dX6_carry_7 0 rfl 2 rfl ?_
  refine gf_X6_11 g dX6_carry_8 0 rfl rfl ?_
  refine v_iload_n g dX6_carry_11 1 rfl 0 rfl ?_
  refine v_laldL g 1 rfl (by decide) (by decide) dX6_carry_12 ?_
  refine v_tol (lN y9) rfl ?_
  refine v_bipush g dX6_carry_13 (v := nI 26) (by decide +kernel) ?_
  refine v_lushrN g (by omega) (by decide) dX6_carry_15 ?_
  refine v_nmL (fun c10 hc10 => ?_)
  refine v_lstore_n g [(2, .long (lN c10)), (1, .int (nI 3)), (0, .ref a0)] dX6_carry_16 2 rfl (by decide) rfl ?_
  refine v_aload_n g dX6_carry_17 0 rfl 2 rfl ?_
  refine gf_X6_11 g dX6_carry_18 0 rfl rfl ?_
  refine v_iload_n g dX6_carry_21 1 rfl 1 rfl ?_
  refine v_dup2 g dX6_carry_22 rfl rfl ?_
  refine v_laldL g 1 rfl (by decide) (by decide) dX6_carry_23 ?_
  refine v_tol (lN y9) rfl ?_
  refine v_ldc2 g dX6_carry_24 kl_X6_66 ?_
  refine v_landM g 26 (by decide) dX6_carry_27 ?_
  obtain ⟨y11, hy11⟩ : ∃ z : Nat, z = y9 % 2 ^ 26 := ⟨_, rfl⟩
  refine v_lastL g y11 (by rw [hy11]) (v5 y2 y5 y8 y11 x4) (v5_u3 _ _ _ _ _ _) 1 [(a0, .inr (6, [.ref a0_a, .ref a0_r, .ref a0_product, .ref a0_s, .ref a0_piece])), (a0_a, aL C.D 5 (v5 y2 y5 y8 y11 x4))] rfl (by decide) (by decide) dX6_carry_28 rfl ?_
  refine v_iload_n g dX6_carry_29 1 rfl 1 rfl ?_
  refine v_iconst g dX6_carry_30 (v := nI 1) (by decide +kernel) ?_
  refine v_iaddN g dX6_carry_31 ?_
  refine v_toi (nI 4) rfl ?_
  refine v_iconst g dX6_carry_32 (v := nI 5) (by decide +kernel) ?_
  refine v_icmp_geN g 51 dX6_carry_33 (by decide) (by decide) (by decide) (fun h => absurd h (by decide)) (fun _ => ?_)
  refine v_aload_n g dX6_carry_36 0 rfl 2 rfl ?_
  refine gf_X6_11 g dX6_carry_37 0 rfl rfl ?_
  refine v_iload_n g dX6_carry_40 1 rfl 1 rfl ?_
  refine v_iconst g dX6_carry_41 (v := nI 1) (by decide +kernel) ?_
  refine v_iaddN g dX6_carry_42 ?_
  refine v_toi (nI 4) rfl ?_
  refine v_dup2 g dX6_carry_43 rfl rfl ?_
  refine v_laldL g 1 rfl (by decide) (by decide) dX6_carry_44 ?_
  refine v_tol (lN x4) rfl ?_
  refine v_lload_n g dX6_carry_45 2 rfl 0 rfl ?_
  refine v_laddN g dX6_carry_46 ?_
  obtain ⟨y12, hy12⟩ : ∃ z : Nat, z = x4 + c10 := ⟨_, rfl⟩
  refine v_lastL g y12 (by rw [hy12]) (v5 y2 y5 y8 y11 y12) (v5_u4 _ _ _ _ _ _) 1 [(a0, .inr (6, [.ref a0_a, .ref a0_r, .ref a0_product, .ref a0_s, .ref a0_piece])), (a0_a, aL C.D 5 (v5 y2 y5 y8 y11 y12))] rfl (by decide) (by decide) dX6_carry_47 rfl ?_
  refine v_goto g 65 dX6_carry_48 (by decide) ?_
  refine v_iincN g 1 [(1, .int (nI 4)), (2, .long (lN c10)), (0, .ref a0)] dX6_carry_65 1 rfl (by decide +kernel) (by decide) rfl ?_
  refine v_goto g 2 dX6_carry_68 (by decide) ?_
  refine v_iload_n g dX6_carry_2 1 rfl 0 rfl ?_
  refine v_iconst g dX6_carry_3 (v := nI 5) (by decide +kernel) ?_
  refine v_icmp_geN g 71 dX6_carry_4 (by decide) (by decide) (by decide) (fun h => absurd h (by decide)) (fun _ => ?_)
  refine v_aload_n g dX6_carry_7 0 rfl 2 rfl ?_
  refine gf_X6_11 g dX6_carry_8 0 rfl rfl ?_
  refine v_iload_n g dX6_carry_11 1 rfl 0 rfl ?_
  refine v_laldL g 1 rfl (by decide) (by decide) dX6_carry_12 ?_
  refine v_tol (lN y12) rfl ?_
  refine v_bipush g dX6_carry_13 (v := nI 26) (by decide +kernel) ?_
  refine v_lushrN g (by omega) (by decide) dX6_carry_15 ?_
  refine v_nmL (fun c13 hc13 => ?_)
  refine v_lstore_n g [(2, .long (lN c13)), (1, .int (nI 4)), (0, .ref a0)] dX6_carry_16 2 rfl (by decide) rfl ?_
  refine v_aload_n g dX6_carry_17 0 rfl 2 rfl ?_
  refine gf_X6_11 g dX6_carry_18 0 rfl rfl ?_
  refine v_iload_n g dX6_carry_21 1 rfl 1 rfl ?_
  refine v_dup2 g dX6_carry_22 rfl rfl ?_
  refine v_laldL g 1 rfl (by decide) (by decide) dX6_carry_23 ?_
  refine v_tol (lN y12) rfl ?_
  refine v_ldc2 g dX6_carry_24 kl_X6_66 ?_
  refine v_landM g 26 (by decide) dX6_carry_27 ?_
  obtain ⟨y14, hy14⟩ : ∃ z : Nat, z = y12 % 2 ^ 26 := ⟨_, rfl⟩
  refine v_lastL g y14 (by rw [hy14]) (v5 y2 y5 y8 y11 y14) (v5_u4 _ _ _ _ _ _) 1 [(a0, .inr (6, [.ref a0_a, .ref a0_r, .ref a0_product, .ref a0_s, .ref a0_piece])), (a0_a, aL C.D 5 (v5 y2 y5 y8 y11 y14))] rfl (by decide) (by decide) dX6_carry_28 rfl ?_
  refine v_iload_n g dX6_carry_29 1 rfl 1 rfl ?_
  refine v_iconst g dX6_carry_30 (v := nI 1) (by decide +kernel) ?_
  refine v_iaddN g dX6_carry_31 ?_
  refine v_toi (nI 5) rfl ?_
  refine v_iconst g dX6_carry_32 (v := nI 5) (by decide +kernel) ?_
  refine v_icmp_geN g 51 dX6_carry_33 (by decide) (by decide) (by decide) (fun _ => ?_) (fun h => absurd h (by decide))
  refine v_aload_n g dX6_carry_51 0 rfl 2 rfl ?_
  refine gf_X6_11 g dX6_carry_52 0 rfl rfl ?_
  refine v_iconst g dX6_carry_55 (v := nI 0) (by decide +kernel) ?_
  refine v_dup2 g dX6_carry_56 rfl rfl ?_
  refine v_laldL g 1 rfl (by decide) (by decide) dX6_carry_57 ?_
  refine v_tol (lN y2) rfl ?_
  refine v_ldc2 g dX6_carry_58 kl_X6_64 ?_
  refine v_lload_n g dX6_carry_61 2 rfl 0 rfl ?_
  refine v_lmulN g dX6_carry_62 ?_
  refine v_laddN g dX6_carry_63 ?_
  obtain ⟨y15, hy15⟩ : ∃ z : Nat, z = y2 + (5 * c13) := ⟨_, rfl⟩
  refine v_lastL g y15 (by rw [hy15]) (v5 y15 y5 y8 y11 y14) (v5_u0 _ _ _ _ _ _) 1 [(a0, .inr (6, [.ref a0_a, .ref a0_r, .ref a0_product, .ref a0_s, .ref a0_piece])), (a0_a, aL C.D 5 (v5 y15 y5 y8 y11 y14))] rfl (by decide) (by decide) dX6_carry_64 rfl ?_
  refine v_iincN g 1 [(1, .int (nI 5)), (2, .long (lN c13)), (0, .ref a0)] dX6_carry_65 1 rfl (by decide +kernel) (by decide) rfl ?_
  refine v_goto g 2 dX6_carry_68 (by decide) ?_
  refine v_iload_n g dX6_carry_2 1 rfl 0 rfl ?_
  refine v_iconst g dX6_carry_3 (v := nI 5) (by decide +kernel) ?_
  refine v_icmp_geN g 71 dX6_carry_4 (by decide) (by decide) (by decide) (fun _ => ?_) (fun h => absurd h (by decide))
  exact v_ret g R dX6_carry_71 (by decide) (by decide) ⟨y15, y5, y8, y11, y14, c1, c4, c7, c10, c13, rfl, rfl, (by omega), (by omega), (by omega), (by omega), (by omega), (by omega), (by omega), (by omega), (by omega), (by omega)⟩
set_option maxHeartbeats 4000000 in
set_option maxRecDepth 100000 in
theorem c_TL_add (l : Launch) (D : va_G) (a0 : Nat) (a0_a : Nat) (a0_r : Nat) (a0_product : Nat) (a0_s : Nat) (a0_piece : Nat) (t_a0_piece : Nat → By) (x0 x1 x2 x3 x4 r0 r1 r2 r3 r4 q0 q1 q2 q3 q4 : Nat) (h0 : x0 < 2 ^ 26 + 5) (h1 : x1 < 2 ^ 26) (h2 : x2 < 2 ^ 26) (h3 : x3 < 2 ^ 26) (h4 : x4 < 2 ^ 26) (g0 : r0 < 2 ^ 26) (g1 : r1 < 2 ^ 26) (g2 : r2 < 2 ^ 26) (g3 : r3 < 2 ^ 26) (g4 : r4 < 2 ^ 26) (hP : leN t_a0_piece 17 < 2 ^ 130) : vM l D yX6_addPiece cX6_addPiece 4 none { frames := 2, cells := 0, slots := 0, locals := 43 } [.ref a0] [(a0, .inr (6, [.ref a0_a, .ref a0_r, .ref a0_product, .ref a0_s, .ref a0_piece])), (a0_a, aL D 5 (v5 x0 x1 x2 x3 x4)), (a0_r, aL D 5 (v5 r0 r1 r2 r3 r4)), (a0_product, aL D 5 (v5 q0 q1 q2 q3 q4)), (a0_piece, aB D 17 t_a0_piece)] (fun r wo => ∃ (z0 : Nat) (z1 : Nat) (z2 : Nat) (z3 : Nat) (z4 : Nat) (u0 : Nat) (u1 : Nat) (u2 : Nat) (u3 : Nat) (u4 : Nat) (kk : Nat), r = none ∧ wo = [(a0, .inr (6, [.ref a0_a, .ref a0_r, .ref a0_product, .ref a0_s, .ref a0_piece])), (a0_a, aL D 5 (v5 z0 z1 z2 z3 z4)), (a0_r, aL D 5 (v5 r0 r1 r2 r3 r4)), (a0_product, aL D 5 (v5 u0 u1 u2 u3 u4)), (a0_piece, aB D 17 t_a0_piece)] ∧ (z0 < 2 ^ 26 + 5) ∧ (z1 < 2 ^ 26) ∧ (z2 < 2 ^ 26) ∧ (z3 < 2 ^ 26) ∧ (z4 < 2 ^ 26) ∧ ((val5 x0 x1 x2 x3 x4 + leN t_a0_piece 17) * val5 r0 r1 r2 r3 r4 = val5 z0 z1 z2 z3 z4 + kk * po_p)) := by
  refine vM.of (by decide) (Nat.le_of_ble_eq_true rfl) (fun C hCl hCD g R => ?_)
  subst hCl; subst hCD
  show VJ C 0 0 0 [(0, .ref a0)] [] [(a0, .inr (6, [.ref a0_a, .ref a0_r, .ref a0_product, .ref a0_s, .ref a0_piece])), (a0_a, aL C.D 5 (v5 x0 x1 x2 x3 x4)), (a0_r, aL C.D 5 (v5 r0 r1 r2 r3 r4)), (a0_product, aL C.D 5 (v5 q0 q1 q2 q3 q4)), (a0_piece, aB C.D 17 t_a0_piece)]
  have l0 := po_lim_lt t_a0_piece 0
  have l1 := po_lim_lt t_a0_piece 1
  have l2 := po_lim_lt t_a0_piece 2
  have l3 := po_lim_lt t_a0_piece 3
  have l4 := po_lim_lt t_a0_piece 4
  refine v_iconst g dX6_addPiece_0 (v := nI 0) (by decide +kernel) ?_
  refine v_istore_n g [(1, .int (nI 0)), (0, .ref a0)] dX6_addPiece_1 1 rfl (by decide) rfl ?_
  refine v_iload_n g dX6_addPiece_2 1 rfl 0 rfl ?_
  refine v_iconst g dX6_addPiece_3 (v := nI 5) (by decide +kernel) ?_
  refine v_icmp_geN g 35 dX6_addPiece_4 (by decide) (by decide) (by decide) (fun h => absurd h (by decide)) (fun _ => ?_)
  refine v_aload_n g dX6_addPiece_7 0 rfl 1 rfl ?_
  refine gf_X6_11 g dX6_addPiece_8 0 rfl rfl ?_
  refine v_iload_n g dX6_addPiece_11 1 rfl 0 rfl ?_
  refine v_dup2 g dX6_addPiece_12 rfl rfl ?_
  refine v_laldL g 1 rfl (by decide) (by decide) dX6_addPiece_13 ?_
  refine v_tol (lN x0) rfl ?_
  refine v_aload_n g dX6_addPiece_14 0 rfl 1 rfl ?_
  refine v_iload_n g dX6_addPiece_15 1 rfl 0 rfl ?_
  refine v_callV (As := [.int (nI 0)]) (rest := [.long (lN x0), .int (nI 0), .ref a0_a]) (wr := [(a0_a, aL C.D 5 (v5 x0 x1 x2 x3 x4)), (a0_r, aL C.D 5 (v5 r0 r1 r2 r3 r4)), (a0_product, aL C.D 5 (v5 q0 q1 q2 q3 q4))]) cw_X6_34 (hy_X6_readLimb) g (c_TL_lim C.l C.D a0 0 a0_a a0_r a0_product a0_s a0_piece t_a0_piece (by decide)) dX6_addPiece_16 0 rfl rfl rfl (by decide) (by decide) (Nat.le_of_ble_eq_true rfl) [0, 4] [1, 2, 3] rfl rfl (by decide) rfl (by decide) (by decide) _ rfl (fun r wo hp1 => ?_)
  obtain ⟨rfl, rfl⟩ := hp1
  refine v_perm [3, 0, 1, 2, 4] [(a0, .inr (6, [.ref a0_a, .ref a0_r, .ref a0_product, .ref a0_s, .ref a0_piece])), (a0_a, aL C.D 5 (v5 x0 x1 x2 x3 x4)), (a0_r, aL C.D 5 (v5 r0 r1 r2 r3 r4)), (a0_product, aL C.D 5 (v5 q0 q1 q2 q3 q4)), (a0_piece, aB C.D 17 t_a0_piece)] (by decide) rfl rfl ?_
  show VJ C 0 0 19 [(1, .int (nI 0)), (0, .ref a0)] [.int (nI (po_lim t_a0_piece 0)), .long (lN x0), .int (nI 0), .ref a0_a] [(a0, .inr (6, [.ref a0_a, .ref a0_r, .ref a0_product, .ref a0_s, .ref a0_piece])), (a0_a, aL C.D 5 (v5 x0 x1 x2 x3 x4)), (a0_r, aL C.D 5 (v5 r0 r1 r2 r3 r4)), (a0_product, aL C.D 5 (v5 q0 q1 q2 q3 q4)), (a0_piece, aB C.D 17 t_a0_piece)]
  refine v_i2lN g (by omega) dX6_addPiece_19 ?_
  refine v_laddN g dX6_addPiece_20 ?_
  obtain ⟨y2, hy2⟩ : ∃ z : Nat, z = x0 + (po_lim t_a0_piece 0) := ⟨_, rfl⟩
  refine v_lastL g y2 (by rw [hy2]) (v5 y2 x1 x2 x3 x4) (v5_u0 _ _ _ _ _ _) 1 [(a0, .inr (6, [.ref a0_a, .ref a0_r, .ref a0_product, .ref a0_s, .ref a0_piece])), (a0_a, aL C.D 5 (v5 y2 x1 x2 x3 x4)), (a0_r, aL C.D 5 (v5 r0 r1 r2 r3 r4)), (a0_product, aL C.D 5 (v5 q0 q1 q2 q3 q4)), (a0_piece, aB C.D 17 t_a0_piece)] rfl (by decide) (by decide) dX6_addPiece_21 rfl ?_
  refine v_aload_n g dX6_addPiece_22 0 rfl 1 rfl ?_
  refine gf_X6_18 g dX6_addPiece_23 0 rfl rfl ?_
  refine v_iload_n g dX6_addPiece_26 1 rfl 0 rfl ?_
  refine v_lconst g dX6_addPiece_27 (v := lN 0) (by decide +kernel) ?_
  refine v_lastL g 0 rfl (v5 0 q1 q2 q3 q4) (v5_u0 _ _ _ _ _ _) 3 [(a0, .inr (6, [.ref a0_a, .ref a0_r, .ref a0_product, .ref a0_s, .ref a0_piece])), (a0_a, aL C.D 5 (v5 y2 x1 x2 x3 x4)), (a0_r, aL C.D 5 (v5 r0 r1 r2 r3 r4)), (a0_product, aL C.D 5 (v5 0 q1 q2 q3 q4)), (a0_piece, aB C.D 17 t_a0_piece)] rfl (by decide) (by decide) dX6_addPiece_28 rfl ?_
  refine v_iincN g 1 [(1, .int (nI 1)), (0, .ref a0)] dX6_addPiece_29 0 rfl (by decide +kernel) (by decide) rfl ?_
  refine v_goto g 2 dX6_addPiece_32 (by decide) ?_
  refine v_iload_n g dX6_addPiece_2 1 rfl 0 rfl ?_
  refine v_iconst g dX6_addPiece_3 (v := nI 5) (by decide +kernel) ?_
  refine v_icmp_geN g 35 dX6_addPiece_4 (by decide) (by decide) (by decide) (fun h => absurd h (by decide)) (fun _ => ?_)
  refine v_aload_n g dX6_addPiece_7 0 rfl 1 rfl ?_
  refine gf_X6_11 g dX6_addPiece_8 0 rfl rfl ?_
  refine v_iload_n g dX6_addPiece_11 1 rfl 0 rfl ?_
  refine v_dup2 g dX6_addPiece_12 rfl rfl ?_
  refine v_laldL g 1 rfl (by decide) (by decide) dX6_addPiece_13 ?_
  refine v_tol (lN x1) rfl ?_
  refine v_aload_n g dX6_addPiece_14 0 rfl 1 rfl ?_
  refine v_iload_n g dX6_addPiece_15 1 rfl 0 rfl ?_
  refine v_callV (As := [.int (nI 1)]) (rest := [.long (lN x1), .int (nI 1), .ref a0_a]) (wr := [(a0_a, aL C.D 5 (v5 y2 x1 x2 x3 x4)), (a0_r, aL C.D 5 (v5 r0 r1 r2 r3 r4)), (a0_product, aL C.D 5 (v5 0 q1 q2 q3 q4))]) cw_X6_34 (hy_X6_readLimb) g (c_TL_lim C.l C.D a0 1 a0_a a0_r a0_product a0_s a0_piece t_a0_piece (by decide)) dX6_addPiece_16 0 rfl rfl rfl (by decide) (by decide) (Nat.le_of_ble_eq_true rfl) [0, 4] [1, 2, 3] rfl rfl (by decide) rfl (by decide) (by decide) _ rfl (fun r wo hp3 => ?_)
  obtain ⟨rfl, rfl⟩ := hp3
  refine v_perm [3, 0, 1, 2, 4] [(a0, .inr (6, [.ref a0_a, .ref a0_r, .ref a0_product, .ref a0_s, .ref a0_piece])), (a0_a, aL C.D 5 (v5 y2 x1 x2 x3 x4)), (a0_r, aL C.D 5 (v5 r0 r1 r2 r3 r4)), (a0_product, aL C.D 5 (v5 0 q1 q2 q3 q4)), (a0_piece, aB C.D 17 t_a0_piece)] (by decide) rfl rfl ?_
  show VJ C 0 0 19 [(1, .int (nI 1)), (0, .ref a0)] [.int (nI (po_lim t_a0_piece 1)), .long (lN x1), .int (nI 1), .ref a0_a] [(a0, .inr (6, [.ref a0_a, .ref a0_r, .ref a0_product, .ref a0_s, .ref a0_piece])), (a0_a, aL C.D 5 (v5 y2 x1 x2 x3 x4)), (a0_r, aL C.D 5 (v5 r0 r1 r2 r3 r4)), (a0_product, aL C.D 5 (v5 0 q1 q2 q3 q4)), (a0_piece, aB C.D 17 t_a0_piece)]
  refine v_i2lN g (by omega) dX6_addPiece_19 ?_
  refine v_laddN g dX6_addPiece_20 ?_
  obtain ⟨y4, hy4⟩ : ∃ z : Nat, z = x1 + (po_lim t_a0_piece 1) := ⟨_, rfl⟩
  refine v_lastL g y4 (by rw [hy4]) (v5 y2 y4 x2 x3 x4) (v5_u1 _ _ _ _ _ _) 1 [(a0, .inr (6, [.ref a0_a, .ref a0_r, .ref a0_product, .ref a0_s, .ref a0_piece])), (a0_a, aL C.D 5 (v5 y2 y4 x2 x3 x4)), (a0_r, aL C.D 5 (v5 r0 r1 r2 r3 r4)), (a0_product, aL C.D 5 (v5 0 q1 q2 q3 q4)), (a0_piece, aB C.D 17 t_a0_piece)] rfl (by decide) (by decide) dX6_addPiece_21 rfl ?_
  refine v_aload_n g dX6_addPiece_22 0 rfl 1 rfl ?_
  refine gf_X6_18 g dX6_addPiece_23 0 rfl rfl ?_
  refine v_iload_n g dX6_addPiece_26 1 rfl 0 rfl ?_
  refine v_lconst g dX6_addPiece_27 (v := lN 0) (by decide +kernel) ?_
  refine v_lastL g 0 rfl (v5 0 0 q2 q3 q4) (v5_u1 _ _ _ _ _ _) 3 [(a0, .inr (6, [.ref a0_a, .ref a0_r, .ref a0_product, .ref a0_s, .ref a0_piece])), (a0_a, aL C.D 5 (v5 y2 y4 x2 x3 x4)), (a0_r, aL C.D 5 (v5 r0 r1 r2 r3 r4)), (a0_product, aL C.D 5 (v5 0 0 q2 q3 q4)), (a0_piece, aB C.D 17 t_a0_piece)] rfl (by decide) (by decide) dX6_addPiece_28 rfl ?_
  refine v_iincN g 1 [(1, .int (nI 2)), (0, .ref a0)] dX6_addPiece_29 0 rfl (by decide +kernel) (by decide) rfl ?_
  refine v_goto g 2 dX6_addPiece_32 (by decide) ?_
  refine v_iload_n g dX6_addPiece_2 1 rfl 0 rfl ?_
  refine v_iconst g dX6_addPiece_3 (v := nI 5) (by decide +kernel) ?_
  refine v_icmp_geN g 35 dX6_addPiece_4 (by decide) (by decide) (by decide) (fun h => absurd h (by decide)) (fun _ => ?_)
  refine v_aload_n g dX6_addPiece_7 0 rfl 1 rfl ?_
  refine gf_X6_11 g dX6_addPiece_8 0 rfl rfl ?_
  refine v_iload_n g dX6_addPiece_11 1 rfl 0 rfl ?_
  refine v_dup2 g dX6_addPiece_12 rfl rfl ?_
  refine v_laldL g 1 rfl (by decide) (by decide) dX6_addPiece_13 ?_
  refine v_tol (lN x2) rfl ?_
  refine v_aload_n g dX6_addPiece_14 0 rfl 1 rfl ?_
  refine v_iload_n g dX6_addPiece_15 1 rfl 0 rfl ?_
  refine v_callV (As := [.int (nI 2)]) (rest := [.long (lN x2), .int (nI 2), .ref a0_a]) (wr := [(a0_a, aL C.D 5 (v5 y2 y4 x2 x3 x4)), (a0_r, aL C.D 5 (v5 r0 r1 r2 r3 r4)), (a0_product, aL C.D 5 (v5 0 0 q2 q3 q4))]) cw_X6_34 (hy_X6_readLimb) g (c_TL_lim C.l C.D a0 2 a0_a a0_r a0_product a0_s a0_piece t_a0_piece (by decide)) dX6_addPiece_16 0 rfl rfl rfl (by decide) (by decide) (Nat.le_of_ble_eq_true rfl) [0, 4] [1, 2, 3] rfl rfl (by decide) rfl (by decide) (by decide) _ rfl (fun r wo hp5 => ?_)
  obtain ⟨rfl, rfl⟩ := hp5
  refine v_perm [3, 0, 1, 2, 4] [(a0, .inr (6, [.ref a0_a, .ref a0_r, .ref a0_product, .ref a0_s, .ref a0_piece])), (a0_a, aL C.D 5 (v5 y2 y4 x2 x3 x4)), (a0_r, aL C.D 5 (v5 r0 r1 r2 r3 r4)), (a0_product, aL C.D 5 (v5 0 0 q2 q3 q4)), (a0_piece, aB C.D 17 t_a0_piece)] (by decide) rfl rfl ?_
  show VJ C 0 0 19 [(1, .int (nI 2)), (0, .ref a0)] [.int (nI (po_lim t_a0_piece 2)), .long (lN x2), .int (nI 2), .ref a0_a] [(a0, .inr (6, [.ref a0_a, .ref a0_r, .ref a0_product, .ref a0_s, .ref a0_piece])), (a0_a, aL C.D 5 (v5 y2 y4 x2 x3 x4)), (a0_r, aL C.D 5 (v5 r0 r1 r2 r3 r4)), (a0_product, aL C.D 5 (v5 0 0 q2 q3 q4)), (a0_piece, aB C.D 17 t_a0_piece)]
  refine v_i2lN g (by omega) dX6_addPiece_19 ?_
  refine v_laddN g dX6_addPiece_20 ?_
  obtain ⟨y6, hy6⟩ : ∃ z : Nat, z = x2 + (po_lim t_a0_piece 2) := ⟨_, rfl⟩
  refine v_lastL g y6 (by rw [hy6]) (v5 y2 y4 y6 x3 x4) (v5_u2 _ _ _ _ _ _) 1 [(a0, .inr (6, [.ref a0_a, .ref a0_r, .ref a0_product, .ref a0_s, .ref a0_piece])), (a0_a, aL C.D 5 (v5 y2 y4 y6 x3 x4)), (a0_r, aL C.D 5 (v5 r0 r1 r2 r3 r4)), (a0_product, aL C.D 5 (v5 0 0 q2 q3 q4)), (a0_piece, aB C.D 17 t_a0_piece)] rfl (by decide) (by decide) dX6_addPiece_21 rfl ?_
  refine v_aload_n g dX6_addPiece_22 0 rfl 1 rfl ?_
  refine gf_X6_18 g dX6_addPiece_23 0 rfl rfl ?_
  refine v_iload_n g dX6_addPiece_26 1 rfl 0 rfl ?_
  refine v_lconst g dX6_addPiece_27 (v := lN 0) (by decide +kernel) ?_
  refine v_lastL g 0 rfl (v5 0 0 0 q3 q4) (v5_u2 _ _ _ _ _ _) 3 [(a0, .inr (6, [.ref a0_a, .ref a0_r, .ref a0_product, .ref a0_s, .ref a0_piece])), (a0_a, aL C.D 5 (v5 y2 y4 y6 x3 x4)), (a0_r, aL C.D 5 (v5 r0 r1 r2 r3 r4)), (a0_product, aL C.D 5 (v5 0 0 0 q3 q4)), (a0_piece, aB C.D 17 t_a0_piece)] rfl (by decide) (by decide) dX6_addPiece_28 rfl ?_
  refine v_iincN g 1 [(1, .int (nI 3)), (0, .ref a0)] dX6_addPiece_29 0 rfl (by decide +kernel) (by decide) rfl ?_
  refine v_goto g 2 dX6_addPiece_32 (by decide) ?_
  refine v_iload_n g dX6_addPiece_2 1 rfl 0 rfl ?_
  refine v_iconst g dX6_addPiece_3 (v := nI 5) (by decide +kernel) ?_
  refine v_icmp_geN g 35 dX6_addPiece_4 (by decide) (by decide) (by decide) (fun h => absurd h (by decide)) (fun _ => ?_)
  refine v_aload_n g dX6_addPiece_7 0 rfl 1 rfl ?_
  refine gf_X6_11 g dX6_addPiece_8 0 rfl rfl ?_
  refine v_iload_n g dX6_addPiece_11 1 rfl 0 rfl ?_
  refine v_dup2 g dX6_addPiece_12 rfl rfl ?_
  refine v_laldL g 1 rfl (by decide) (by decide) dX6_addPiece_13 ?_
  refine v_tol (lN x3) rfl ?_
  refine v_aload_n g dX6_addPiece_14 0 rfl 1 rfl ?_
  refine v_iload_n g dX6_addPiece_15 1 rfl 0 rfl ?_
  refine v_callV (As := [.int (nI 3)]) (rest := [.long (lN x3), .int (nI 3), .ref a0_a]) (wr := [(a0_a, aL C.D 5 (v5 y2 y4 y6 x3 x4)), (a0_r, aL C.D 5 (v5 r0 r1 r2 r3 r4)), (a0_product, aL C.D 5 (v5 0 0 0 q3 q4))]) cw_X6_34 (hy_X6_readLimb) g (c_TL_lim C.l C.D a0 3 a0_a a0_r a0_product a0_s a0_piece t_a0_piece (by decide)) dX6_addPiece_16 0 rfl rfl rfl (by decide) (by decide) (Nat.le_of_ble_eq_true rfl) [0, 4] [1, 2, 3] rfl rfl (by decide) rfl (by decide) (by decide) _ rfl (fun r wo hp7 => ?_)
  obtain ⟨rfl, rfl⟩ := hp7
  refine v_perm [3, 0, 1, 2, 4] [(a0, .inr (6, [.ref a0_a, .ref a0_r, .ref a0_product, .ref a0_s, .ref a0_piece])), (a0_a, aL C.D 5 (v5 y2 y4 y6 x3 x4)), (a0_r, aL C.D 5 (v5 r0 r1 r2 r3 r4)), (a0_product, aL C.D 5 (v5 0 0 0 q3 q4)), (a0_piece, aB C.D 17 t_a0_piece)] (by decide) rfl rfl ?_
  show VJ C 0 0 19 [(1, .int (nI 3)), (0, .ref a0)] [.int (nI (po_lim t_a0_piece 3)), .long (lN x3), .int (nI 3), .ref a0_a] [(a0, .inr (6, [.ref a0_a, .ref a0_r, .ref a0_product, .ref a0_s, .ref a0_piece])), (a0_a, aL C.D 5 (v5 y2 y4 y6 x3 x4)), (a0_r, aL C.D 5 (v5 r0 r1 r2 r3 r4)), (a0_product, aL C.D 5 (v5 0 0 0 q3 q4)), (a0_piece, aB C.D 17 t_a0_piece)]
  refine v_i2lN g (by omega) dX6_addPiece_19 ?_
  refine v_laddN g dX6_addPiece_20 ?_
  obtain ⟨y8, hy8⟩ : ∃ z : Nat, z = x3 + (po_lim t_a0_piece 3) := ⟨_, rfl⟩
  refine v_lastL g y8 (by rw [hy8]) (v5 y2 y4 y6 y8 x4) (v5_u3 _ _ _ _ _ _) 1 [(a0, .inr (6, [.ref a0_a, .ref a0_r, .ref a0_product, .ref a0_s, .ref a0_piece])), (a0_a, aL C.D 5 (v5 y2 y4 y6 y8 x4)), (a0_r, aL C.D 5 (v5 r0 r1 r2 r3 r4)), (a0_product, aL C.D 5 (v5 0 0 0 q3 q4)), (a0_piece, aB C.D 17 t_a0_piece)] rfl (by decide) (by decide) dX6_addPiece_21 rfl ?_
  refine v_aload_n g dX6_addPiece_22 0 rfl 1 rfl ?_
  refine gf_X6_18 g dX6_addPiece_23 0 rfl rfl ?_
  refine v_iload_n g dX6_addPiece_26 1 rfl 0 rfl ?_
  refine v_lconst g dX6_addPiece_27 (v := lN 0) (by decide +kernel) ?_
  refine v_lastL g 0 rfl (v5 0 0 0 0 q4) (v5_u3 _ _ _ _ _ _) 3 [(a0, .inr (6, [.ref a0_a, .ref a0_r, .ref a0_product, .ref a0_s, .ref a0_piece])), (a0_a, aL C.D 5 (v5 y2 y4 y6 y8 x4)), (a0_r, aL C.D 5 (v5 r0 r1 r2 r3 r4)), (a0_product, aL C.D 5 (v5 0 0 0 0 q4)), (a0_piece, aB C.D 17 t_a0_piece)] rfl (by decide) (by decide) dX6_addPiece_28 rfl ?_
  refine v_iincN g 1 [(1, .int (nI 4)), (0, .ref a0)] dX6_addPiece_29 0 rfl (by decide +kernel) (by decide) rfl ?_
  refine v_goto g 2 dX6_addPiece_32 (by decide) ?_
  refine v_iload_n g dX6_addPiece_2 1 rfl 0 rfl ?_
  refine v_iconst g dX6_addPiece_3 (v := nI 5) (by decide +kernel) ?_
  refine v_icmp_geN g 35 dX6_addPiece_4 (by decide) (by decide) (by decide) (fun h => absurd h (by decide)) (fun _ => ?_)
  refine v_aload_n g dX6_addPiece_7 0 rfl 1 rfl ?_
  refine gf_X6_11 g dX6_addPiece_8 0 rfl rfl ?_
  refine v_iload_n g dX6_addPiece_11 1 rfl 0 rfl ?_
  refine v_dup2 g dX6_addPiece_12 rfl rfl ?_
  refine v_laldL g 1 rfl (by decide) (by decide) dX6_addPiece_13 ?_
  refine v_tol (lN x4) rfl ?_
  refine v_aload_n g dX6_addPiece_14 0 rfl 1 rfl ?_
  refine v_iload_n g dX6_addPiece_15 1 rfl 0 rfl ?_
  refine v_callV (As := [.int (nI 4)]) (rest := [.long (lN x4), .int (nI 4), .ref a0_a]) (wr := [(a0_a, aL C.D 5 (v5 y2 y4 y6 y8 x4)), (a0_r, aL C.D 5 (v5 r0 r1 r2 r3 r4)), (a0_product, aL C.D 5 (v5 0 0 0 0 q4))]) cw_X6_34 (hy_X6_readLimb) g (c_TL_lim C.l C.D a0 4 a0_a a0_r a0_product a0_s a0_piece t_a0_piece (by decide)) dX6_addPiece_16 0 rfl rfl rfl (by decide) (by decide) (Nat.le_of_ble_eq_true rfl) [0, 4] [1, 2, 3] rfl rfl (by decide) rfl (by decide) (by decide) _ rfl (fun r wo hp9 => ?_)
  obtain ⟨rfl, rfl⟩ := hp9
  refine v_perm [3, 0, 1, 2, 4] [(a0, .inr (6, [.ref a0_a, .ref a0_r, .ref a0_product, .ref a0_s, .ref a0_piece])), (a0_a, aL C.D 5 (v5 y2 y4 y6 y8 x4)), (a0_r, aL C.D 5 (v5 r0 r1 r2 r3 r4)), (a0_product, aL C.D 5 (v5 0 0 0 0 q4)), (a0_piece, aB C.D 17 t_a0_piece)] (by decide) rfl rfl ?_
  show VJ C 0 0 19 [(1, .int (nI 4)), (0, .ref a0)] [.int (nI (po_lim t_a0_piece 4)), .long (lN x4), .int (nI 4), .ref a0_a] [(a0, .inr (6, [.ref a0_a, .ref a0_r, .ref a0_product, .ref a0_s, .ref a0_piece])), (a0_a, aL C.D 5 (v5 y2 y4 y6 y8 x4)), (a0_r, aL C.D 5 (v5 r0 r1 r2 r3 r4)), (a0_product, aL C.D 5 (v5 0 0 0 0 q4)), (a0_piece, aB C.D 17 t_a0_piece)]
  refine v_i2lN g (by omega) dX6_addPiece_19 ?_
  refine v_laddN g dX6_addPiece_20 ?_
  obtain ⟨y10, hy10⟩ : ∃ z : Nat, z = x4 + (po_lim t_a0_piece 4) := ⟨_, rfl⟩
  refine v_lastL g y10 (by rw [hy10]) (v5 y2 y4 y6 y8 y10) (v5_u4 _ _ _ _ _ _) 1 [(a0, .inr (6, [.ref a0_a, .ref a0_r, .ref a0_product, .ref a0_s, .ref a0_piece])), (a0_a, aL C.D 5 (v5 y2 y4 y6 y8 y10)), (a0_r, aL C.D 5 (v5 r0 r1 r2 r3 r4)), (a0_product, aL C.D 5 (v5 0 0 0 0 q4)), (a0_piece, aB C.D 17 t_a0_piece)] rfl (by decide) (by decide) dX6_addPiece_21 rfl ?_
  refine v_aload_n g dX6_addPiece_22 0 rfl 1 rfl ?_
  refine gf_X6_18 g dX6_addPiece_23 0 rfl rfl ?_
  refine v_iload_n g dX6_addPiece_26 1 rfl 0 rfl ?_
  refine v_lconst g dX6_addPiece_27 (v := lN 0) (by decide +kernel) ?_
  refine v_lastL g 0 rfl (v5 0 0 0 0 0) (v5_u4 _ _ _ _ _ _) 3 [(a0, .inr (6, [.ref a0_a, .ref a0_r, .ref a0_product, .ref a0_s, .ref a0_piece])), (a0_a, aL C.D 5 (v5 y2 y4 y6 y8 y10)), (a0_r, aL C.D 5 (v5 r0 r1 r2 r3 r4)), (a0_product, aL C.D 5 (v5 0 0 0 0 0)), (a0_piece, aB C.D 17 t_a0_piece)] rfl (by decide) (by decide) dX6_addPiece_28 rfl ?_
  refine v_iincN g 1 [(1, .int (nI 5)), (0, .ref a0)] dX6_addPiece_29 0 rfl (by decide +kernel) (by decide) rfl ?_
  refine v_goto g 2 dX6_addPiece_32 (by decide) ?_
  refine v_iload_n g dX6_addPiece_2 1 rfl 0 rfl ?_
  refine v_iconst g dX6_addPiece_3 (v := nI 5) (by decide +kernel) ?_
  refine v_icmp_geN g 35 dX6_addPiece_4 (by decide) (by decide) (by decide) (fun _ => ?_) (fun h => absurd h (by decide))
  refine v_iconst g dX6_addPiece_35 (v := nI 0) (by decide +kernel) ?_
  refine v_istore_n g [(1, .int (nI 0)), (0, .ref a0)] dX6_addPiece_36 1 rfl (by decide) rfl ?_
  refine v_iload_n g dX6_addPiece_37 1 rfl 0 rfl ?_
  refine v_iconst g dX6_addPiece_38 (v := nI 5) (by decide +kernel) ?_
  refine v_icmp_geN g 123 dX6_addPiece_39 (by decide) (by decide) (by decide) (fun h => absurd h (by decide)) (fun _ => ?_)
  refine v_iconst g dX6_addPiece_42 (v := nI 0) (by decide +kernel) ?_
  refine v_istore_n g [(2, .int (nI 0)), (1, .int (nI 0)), (0, .ref a0)] dX6_addPiece_43 2 rfl (by decide) rfl ?_
  refine v_iload_n g dX6_addPiece_44 2 rfl 0 rfl ?_
  refine v_iconst g dX6_addPiece_45 (v := nI 5) (by decide +kernel) ?_
  refine v_icmp_geN g 117 dX6_addPiece_46 (by decide) (by decide) (by decide) (fun h => absurd h (by decide)) (fun _ => ?_)
  refine v_iload_n g dX6_addPiece_49 1 rfl 1 rfl ?_
  refine v_iload_n g dX6_addPiece_50 2 rfl 0 rfl ?_
  refine v_iaddN g dX6_addPiece_51 ?_
  refine v_toi (nI 0) rfl ?_
  refine v_istore_n g [(3, .int (nI 0)), (2, .int (nI 0)), (1, .int (nI 0)), (0, .ref a0)] dX6_addPiece_52 3 rfl (by decide) rfl ?_
  refine v_iload_n g dX6_addPiece_53 3 rfl 0 rfl ?_
  refine v_iconst g dX6_addPiece_54 (v := nI 5) (by decide +kernel) ?_
  refine v_icmp_geN g 83 dX6_addPiece_55 (by decide) (by decide) (by decide) (fun h => absurd h (by decide)) (fun _ => ?_)
  refine v_aload_n g dX6_addPiece_58 0 rfl 3 rfl ?_
  refine gf_X6_18 g dX6_addPiece_59 0 rfl rfl ?_
  refine v_iload_n g dX6_addPiece_62 3 rfl 0 rfl ?_
  refine v_dup2 g dX6_addPiece_63 rfl rfl ?_
  refine v_laldL g 3 rfl (by decide) (by decide) dX6_addPiece_64 ?_
  refine v_tol (lN 0) rfl ?_
  refine v_aload_n g dX6_addPiece_65 0 rfl 3 rfl ?_
  refine gf_X6_11 g dX6_addPiece_66 0 rfl rfl ?_
  refine v_iload_n g dX6_addPiece_69 1 rfl 2 rfl ?_
  refine v_laldL g 1 rfl (by decide) (by decide) dX6_addPiece_70 ?_
  refine v_tol (lN y2) rfl ?_
  refine v_aload_n g dX6_addPiece_71 0 rfl 3 rfl ?_
  refine gf_X6_15 g dX6_addPiece_72 0 rfl rfl ?_
  refine v_iload_n g dX6_addPiece_75 2 rfl 1 rfl ?_
  refine v_laldL g 2 rfl (by decide) (by decide) dX6_addPiece_76 ?_
  refine v_tol (lN r0) rfl ?_
  refine v_lmulN g dX6_addPiece_77 ?_
  refine v_nmL (fun P11 hP11 => ?_)
  have eP11 : P11 = y2 * r0 := hP11
  clear hP11
  refine v_laddN g dX6_addPiece_78 ?_
  obtain ⟨y12, hy12⟩ : ∃ z : Nat, z = 0 + P11 := ⟨_, rfl⟩
  refine v_lastL g y12 (by rw [hy12]) (v5 y12 0 0 0 0) (v5_u0 _ _ _ _ _ _) 3 [(a0, .inr (6, [.ref a0_a, .ref a0_r, .ref a0_product, .ref a0_s, .ref a0_piece])), (a0_a, aL C.D 5 (v5 y2 y4 y6 y8 y10)), (a0_r, aL C.D 5 (v5 r0 r1 r2 r3 r4)), (a0_product, aL C.D 5 (v5 y12 0 0 0 0)), (a0_piece, aB C.D 17 t_a0_piece)] rfl (by decide) (by decide) dX6_addPiece_79 rfl ?_
  refine v_goto g 111 dX6_addPiece_80 (by decide) ?_
  refine v_iincN g 1 [(2, .int (nI 1)), (3, .int (nI 0)), (1, .int (nI 0)), (0, .ref a0)] dX6_addPiece_111 1 rfl (by decide +kernel) (by decide) rfl ?_
  refine v_goto g 44 dX6_addPiece_114 (by decide) ?_
  refine v_iload_n g dX6_addPiece_44 2 rfl 0 rfl ?_
  refine v_iconst g dX6_addPiece_45 (v := nI 5) (by decide +kernel) ?_
  refine v_icmp_geN g 117 dX6_addPiece_46 (by decide) (by decide) (by decide) (fun h => absurd h (by decide)) (fun _ => ?_)
  refine v_iload_n g dX6_addPiece_49 1 rfl 2 rfl ?_
  refine v_iload_n g dX6_addPiece_50 2 rfl 0 rfl ?_
  refine v_iaddN g dX6_addPiece_51 ?_
  refine v_toi (nI 1) rfl ?_
  refine v_istore_n g [(3, .int (nI 1)), (2, .int (nI 1)), (1, .int (nI 0)), (0, .ref a0)] dX6_addPiece_52 3 rfl (by decide) rfl ?_
  refine v_iload_n g dX6_addPiece_53 3 rfl 0 rfl ?_
  refine v_iconst g dX6_addPiece_54 (v := nI 5) (by decide +kernel) ?_
  refine v_icmp_geN g 83 dX6_addPiece_55 (by decide) (by decide) (by decide) (fun h => absurd h (by decide)) (fun _ => ?_)
  refine v_aload_n g dX6_addPiece_58 0 rfl 3 rfl ?_
  refine gf_X6_18 g dX6_addPiece_59 0 rfl rfl ?_
  refine v_iload_n g dX6_addPiece_62 3 rfl 0 rfl ?_
  refine v_dup2 g dX6_addPiece_63 rfl rfl ?_
  refine v_laldL g 3 rfl (by decide) (by decide) dX6_addPiece_64 ?_
  refine v_tol (lN 0) rfl ?_
  refine v_aload_n g dX6_addPiece_65 0 rfl 3 rfl ?_
  refine gf_X6_11 g dX6_addPiece_66 0 rfl rfl ?_
  refine v_iload_n g dX6_addPiece_69 1 rfl 2 rfl ?_
  refine v_laldL g 1 rfl (by decide) (by decide) dX6_addPiece_70 ?_
  refine v_tol (lN y2) rfl ?_
  refine v_aload_n g dX6_addPiece_71 0 rfl 3 rfl ?_
  refine gf_X6_15 g dX6_addPiece_72 0 rfl rfl ?_
  refine v_iload_n g dX6_addPiece_75 2 rfl 1 rfl ?_
  refine v_laldL g 2 rfl (by decide) (by decide) dX6_addPiece_76 ?_
  refine v_tol (lN r1) rfl ?_
  refine v_lmulN g dX6_addPiece_77 ?_
  refine v_nmL (fun P13 hP13 => ?_)
  have eP13 : P13 = y2 * r1 := hP13
  clear hP13
  refine v_laddN g dX6_addPiece_78 ?_
  obtain ⟨y14, hy14⟩ : ∃ z : Nat, z = 0 + P13 := ⟨_, rfl⟩
  refine v_lastL g y14 (by rw [hy14]) (v5 y12 y14 0 0 0) (v5_u1 _ _ _ _ _ _) 3 [(a0, .inr (6, [.ref a0_a, .ref a0_r, .ref a0_product, .ref a0_s, .ref a0_piece])), (a0_a, aL C.D 5 (v5 y2 y4 y6 y8 y10)), (a0_r, aL C.D 5 (v5 r0 r1 r2 r3 r4)), (a0_product, aL C.D 5 (v5 y12 y14 0 0 0)), (a0_piece, aB C.D 17 t_a0_piece)] rfl (by decide) (by decide) dX6_addPiece_79 rfl ?_
  refine v_goto g 111 dX6_addPiece_80 (by decide) ?_
  refine v_iincN g 1 [(2, .int (nI 2)), (3, .int (nI 1)), (1, .int (nI 0)), (0, .ref a0)] dX6_addPiece_111 1 rfl (by decide +kernel) (by decide) rfl ?_
  refine v_goto g 44 dX6_addPiece_114 (by decide) ?_
  refine v_iload_n g dX6_addPiece_44 2 rfl 0 rfl ?_
  refine v_iconst g dX6_addPiece_45 (v := nI 5) (by decide +kernel) ?_
  refine v_icmp_geN g 117 dX6_addPiece_46 (by decide) (by decide) (by decide) (fun h => absurd h (by decide)) (fun _ => ?_)
  refine v_iload_n g dX6_addPiece_49 1 rfl 2 rfl ?_
  refine v_iload_n g dX6_addPiece_50 2 rfl 0 rfl ?_
  refine v_iaddN g dX6_addPiece_51 ?_
  refine v_toi (nI 2) rfl ?_
  refine v_istore_n g [(3, .int (nI 2)), (2, .int (nI 2)), (1, .int (nI 0)), (0, .ref a0)] dX6_addPiece_52 3 rfl (by decide) rfl ?_
  refine v_iload_n g dX6_addPiece_53 3 rfl 0 rfl ?_
  refine v_iconst g dX6_addPiece_54 (v := nI 5) (by decide +kernel) ?_
  refine v_icmp_geN g 83 dX6_addPiece_55 (by decide) (by decide) (by decide) (fun h => absurd h (by decide)) (fun _ => ?_)
  refine v_aload_n g dX6_addPiece_58 0 rfl 3 rfl ?_
  refine gf_X6_18 g dX6_addPiece_59 0 rfl rfl ?_
  refine v_iload_n g dX6_addPiece_62 3 rfl 0 rfl ?_
  refine v_dup2 g dX6_addPiece_63 rfl rfl ?_
  refine v_laldL g 3 rfl (by decide) (by decide) dX6_addPiece_64 ?_
  refine v_tol (lN 0) rfl ?_
  refine v_aload_n g dX6_addPiece_65 0 rfl 3 rfl ?_
  refine gf_X6_11 g dX6_addPiece_66 0 rfl rfl ?_
  refine v_iload_n g dX6_addPiece_69 1 rfl 2 rfl ?_
  refine v_laldL g 1 rfl (by decide) (by decide) dX6_addPiece_70 ?_
  refine v_tol (lN y2) rfl ?_
  refine v_aload_n g dX6_addPiece_71 0 rfl 3 rfl ?_
  refine gf_X6_15 g dX6_addPiece_72 0 rfl rfl ?_
  refine v_iload_n g dX6_addPiece_75 2 rfl 1 rfl ?_
  refine v_laldL g 2 rfl (by decide) (by decide) dX6_addPiece_76 ?_
  refine v_tol (lN r2) rfl ?_
  refine v_lmulN g dX6_addPiece_77 ?_
  refine v_nmL (fun P15 hP15 => ?_)
  have eP15 : P15 = y2 * r2 := hP15
  clear hP15
  refine v_laddN g dX6_addPiece_78 ?_
  obtain ⟨y16, hy16⟩ : ∃ z : Nat, z = 0 + P15 := ⟨_, rfl⟩
  refine v_lastL g y16 (by rw [hy16]) (v5 y12 y14 y16 0 0) (v5_u2 _ _ _ _ _ _) 3 [(a0, .inr (6, [.ref a0_a, .ref a0_r, .ref a0_product, .ref a0_s, .ref a0_piece])), (a0_a, aL C.D 5 (v5 y2 y4 y6 y8 y10)), (a0_r, aL C.D 5 (v5 r0 r1 r2 r3 r4)), (a0_product, aL C.D 5 (v5 y12 y14 y16 0 0)), (a0_piece, aB C.D 17 t_a0_piece)] rfl (by decide) (by decide) dX6_addPiece_79 rfl ?_
  refine v_goto g 111 dX6_addPiece_80 (by decide) ?_
  refine v_iincN g 1 [(2, .int (nI 3)), (3, .int (nI 2)), (1, .int (nI 0)), (0, .ref a0)] dX6_addPiece_111 1 rfl (by decide +kernel) (by decide) rfl ?_
  refine v_goto g 44 dX6_addPiece_114 (by decide) ?_
  refine v_iload_n g dX6_addPiece_44 2 rfl 0 rfl ?_
  refine v_iconst g dX6_addPiece_45 (v := nI 5) (by decide +kernel) ?_
  refine v_icmp_geN g 117 dX6_addPiece_46 (by decide) (by decide) (by decide) (fun h => absurd h (by decide)) (fun _ => ?_)
  refine v_iload_n g dX6_addPiece_49 1 rfl 2 rfl ?_
  refine v_iload_n g dX6_addPiece_50 2 rfl 0 rfl ?_
  refine v_iaddN g dX6_addPiece_51 ?_
  refine v_toi (nI 3) rfl ?_
  refine v_istore_n g [(3, .int (nI 3)), (2, .int (nI 3)), (1, .int (nI 0)), (0, .ref a0)] dX6_addPiece_52 3 rfl (by decide) rfl ?_
  refine v_iload_n g dX6_addPiece_53 3 rfl 0 rfl ?_
  refine v_iconst g dX6_addPiece_54 (v := nI 5) (by decide +kernel) ?_
  refine v_icmp_geN g 83 dX6_addPiece_55 (by decide) (by decide) (by decide) (fun h => absurd h (by decide)) (fun _ => ?_)
  refine v_aload_n g dX6_addPiece_58 0 rfl 3 rfl ?_
  refine gf_X6_18 g dX6_addPiece_59 0 rfl rfl ?_
  refine v_iload_n g dX6_addPiece_62 3 rfl 0 rfl ?_
  refine v_dup2 g dX6_addPiece_63 rfl rfl ?_
  refine v_laldL g 3 rfl (by decide) (by decide) dX6_addPiece_64 ?_
  refine v_tol (lN 0) rfl ?_
  refine v_aload_n g dX6_addPiece_65 0 rfl 3 rfl ?_
  refine gf_X6_11 g dX6_addPiece_66 0 rfl rfl ?_
  refine v_iload_n g dX6_addPiece_69 1 rfl 2 rfl ?_
  refine v_laldL g 1 rfl (by decide) (by decide) dX6_addPiece_70 ?_
  refine v_tol (lN y2) rfl ?_
  refine v_aload_n g dX6_addPiece_71 0 rfl 3 rfl ?_
  refine gf_X6_15 g dX6_addPiece_72 0 rfl rfl ?_
  refine v_iload_n g dX6_addPiece_75 2 rfl 1 rfl ?_
  refine v_laldL g 2 rfl (by decide) (by decide) dX6_addPiece_76 ?_
  refine v_tol (lN r3) rfl ?_
  refine v_lmulN g dX6_addPiece_77 ?_
  refine v_nmL (fun P17 hP17 => ?_)
  have eP17 : P17 = y2 * r3 := hP17
  clear hP17
  refine v_laddN g dX6_addPiece_78 ?_
  obtain ⟨y18, hy18⟩ : ∃ z : Nat, z = 0 + P17 := ⟨_, rfl⟩
  refine v_lastL g y18 (by rw [hy18]) (v5 y12 y14 y16 y18 0) (v5_u3 _ _ _ _ _ _) 3 [(a0, .inr (6, [.ref a0_a, .ref a0_r, .ref a0_product, .ref a0_s, .ref a0_piece])), (a0_a, aL C.D 5 (v5 y2 y4 y6 y8 y10)), (a0_r, aL C.D 5 (v5 r0 r1 r2 r3 r4)), (a0_product, aL C.D 5 (v5 y12 y14 y16 y18 0)), (a0_piece, aB C.D 17 t_a0_piece)] rfl (by decide) (by decide) dX6_addPiece_79 rfl ?_
  refine v_goto g 111 dX6_addPiece_80 (by decide) ?_
  refine v_iincN g 1 [(2, .int (nI 4)), (3, .int (nI 3)), (1, .int (nI 0)), (0, .ref a0)] dX6_addPiece_111 1 rfl (by decide +kernel) (by decide) rfl ?_
  refine v_goto g 44 dX6_addPiece_114 (by decide) ?_
  refine v_iload_n g dX6_addPiece_44 2 rfl 0 rfl ?_
  refine v_iconst g dX6_addPiece_45 (v := nI 5) (by decide +kernel) ?_
  refine v_icmp_geN g 117 dX6_addPiece_46 (by decide) (by decide) (by decide) (fun h => absurd h (by decide)) (fun _ => ?_)
  refine v_iload_n g dX6_addPiece_49 1 rfl 2 rfl ?_
  refine v_iload_n g dX6_addPiece_50 2 rfl 0 rfl ?_
  refine v_iaddN g dX6_addPiece_51 ?_
  refine v_toi (nI 4) rfl ?_
  refine v_istore_n g [(3, .int (nI 4)), (2, .int (nI 4)), (1, .int (nI 0)), (0, .ref a0)] dX6_addPiece_52 3 rfl (by decide) rfl ?_
  refine v_iload_n g dX6_addPiece_53 3 rfl 0 rfl ?_
  refine v_iconst g dX6_addPiece_54 (v := nI 5) (by decide +kernel) ?_
  refine v_icmp_geN g 83 dX6_addPiece_55 (by decide) (by decide) (by decide) (fun h => absurd h (by decide)) (fun _ => ?_)
  refine v_aload_n g dX6_addPiece_58 0 rfl 3 rfl ?_
  refine gf_X6_18 g dX6_addPiece_59 0 rfl rfl ?_
  refine v_iload_n g dX6_addPiece_62 3 rfl 0 rfl ?_
  refine v_dup2 g dX6_addPiece_63 rfl rfl ?_
  refine v_laldL g 3 rfl (by decide) (by decide) dX6_addPiece_64 ?_
  refine v_tol (lN 0) rfl ?_
  refine v_aload_n g dX6_addPiece_65 0 rfl 3 rfl ?_
  refine gf_X6_11 g dX6_addPiece_66 0 rfl rfl ?_
  refine v_iload_n g dX6_addPiece_69 1 rfl 2 rfl ?_
  refine v_laldL g 1 rfl (by decide) (by decide) dX6_addPiece_70 ?_
  refine v_tol (lN y2) rfl ?_
  refine v_aload_n g dX6_addPiece_71 0 rfl 3 rfl ?_
  refine gf_X6_15 g dX6_addPiece_72 0 rfl rfl ?_
  refine v_iload_n g dX6_addPiece_75 2 rfl 1 rfl ?_
  refine v_laldL g 2 rfl (by decide) (by decide) dX6_addPiece_76 ?_
  refine v_tol (lN r4) rfl ?_
  refine v_lmulN g dX6_addPiece_77 ?_
  refine v_nmL (fun P19 hP19 => ?_)
  have eP19 : P19 = y2 * r4 := hP19
  clear hP19
  refine v_laddN g dX6_addPiece_78 ?_
  obtain ⟨y20, hy20⟩ : ∃ z : Nat, z = 0 + P19 := ⟨_, rfl⟩
  refine v_lastL g y20 (by rw [hy20]) (v5 y12 y14 y16 y18 y20) (v5_u4 _ _ _ _ _ _) 3 [(a0, .inr (6, [.ref a0_a, .ref a0_r, .ref a0_product, .ref a0_s, .ref a0_piece])), (a0_a, aL C.D 5 (v5 y2 y4 y6 y8 y10)), (a0_r, aL C.D 5 (v5 r0 r1 r2 r3 r4)), (a0_product, aL C.D 5 (v5 y12 y14 y16 y18 y20)), (a0_piece, aB C.D 17 t_a0_piece)] rfl (by decide) (by decide) dX6_addPiece_79 rfl ?_
  refine v_goto g 111 dX6_addPiece_80 (by decide) ?_
  refine v_iincN g 1 [(2, .int (nI 5)), (3, .int (nI 4)), (1, .int (nI 0)), (0, .ref a0)] dX6_addPiece_111 1 rfl (by decide +kernel) (by decide) rfl ?_
  refine v_goto g 44 dX6_addPiece_114 (by decide) ?_
  refine v_iload_n g dX6_addPiece_44 2 rfl 0 rfl ?_
  refine v_iconst g dX6_addPiece_45 (v := nI 5) (by decide +kernel) ?_
  refine v_icmp_geN g 117 dX6_addPiece_46 (by decide) (by decide) (by decide) (fun _ => ?_) (fun h => absurd h (by decide))
  refine v_iincN g 1 [(1, .int (nI 1)), (2, .int (nI 5)), (3, .int (nI 4)), (0, .ref a0)] dX6_addPiece_117 2 rfl (by decide +kernel) (by decide) rfl ?_
  refine v_goto g 37 dX6_addPiece_120 (by decide) ?_
  refine v_iload_n g dX6_addPiece_37 1 rfl 0 rfl ?_
  refine v_iconst g dX6_addPiece_38 (v := nI 5) (by decide +kernel) ?_
  refine v_icmp_geN g 123 dX6_addPiece_39 (by decide) (by decide) (by decide) (fun h => absurd h (by decide)) (fun _ => ?_)
  refine v_iconst g dX6_addPiece_42 (v := nI 0) (by decide +kernel) ?_
  refine v_istore_n g [(2, .int (nI 0)), (1, .int (nI 1)), (3, .int (nI 4)), (0, .ref a0)] dX6_addPiece_43 2 rfl (by decide) rfl ?_
  refine v_iload_n g dX6_addPiece_44 2 rfl 0 rfl ?_
  refine v_iconst g dX6_addPiece_45 (v := nI 5) (by decide +kernel) ?_
  refine v_icmp_geN g 117 dX6_addPiece_46 (by decide) (by decide) (by decide) (fun h => absurd h (by decide)) (fun _ => ?_)
  refine v_iload_n g dX6_addPiece_49 1 rfl 1 rfl ?_
  refine v_iload_n g dX6_addPiece_50 2 rfl 0 rfl ?_
  refine v_iaddN g dX6_addPiece_51 ?_
  refine v_toi (nI 1) rfl ?_
  refine v_istore_n g [(3, .int (nI 1)), (2, .int (nI 0)), (1, .int (nI 1)), (0, .ref a0)] dX6_addPiece_52 3 rfl (by decide) rfl ?_
  refine v_iload_n g dX6_addPiece_53 3 rfl 0 rfl ?_
  refine v_iconst g dX6_addPiece_54 (v := nI 5) (by decide +kernel) ?_
  refine v_icmp_geN g 83 dX6_addPiece_55 (by decide) (by decide) (by decide) (fun h => absurd h (by decide)) (fun _ => ?_)
  refine v_aload_n g dX6_addPiece_58 0 rfl 3 rfl ?_
  refine gf_X6_18 g dX6_addPiece_59 0 rfl rfl ?_
  refine v_iload_n g dX6_addPiece_62 3 rfl 0 rfl ?_
  refine v_dup2 g dX6_addPiece_63 rfl rfl ?_
  refine v_laldL g 3 rfl (by decide) (by decide) dX6_addPiece_64 ?_
  refine v_tol (lN y14) rfl ?_
  refine v_aload_n g dX6_addPiece_65 0 rfl 3 rfl ?_
  refine gf_X6_11 g dX6_addPiece_66 0 rfl rfl ?_
  refine v_iload_n g dX6_addPiece_69 1 rfl 2 rfl ?_
  refine v_laldL g 1 rfl (by decide) (by decide) dX6_addPiece_70 ?_
  refine v_tol (lN y4) rfl ?_
  refine v_aload_n g dX6_addPiece_71 0 rfl 3 rfl ?_
  refine gf_X6_15 g dX6_addPiece_72 0 rfl rfl ?_
  refine v_iload_n g dX6_addPiece_75 2 rfl 1 rfl ?_
  refine v_laldL g 2 rfl (by decide) (by decide) dX6_addPiece_76 ?_
  refine v_tol (lN r0) rfl ?_
  refine v_lmulN g dX6_addPiece_77 ?_
  refine v_nmL (fun P21 hP21 => ?_)
  have eP21 : P21 = y4 * r0 := hP21
  clear hP21
  refine v_laddN g dX6_addPiece_78 ?_
  obtain ⟨y22, hy22⟩ : ∃ z : Nat, z = y14 + P21 := ⟨_, rfl⟩
  refine v_lastL g y22 (by rw [hy22]) (v5 y12 y22 y16 y18 y20) (v5_u1 _ _ _ _ _ _) 3 [(a0, .inr (6, [.ref a0_a, .ref a0_r, .ref a0_product, .ref a0_s, .ref a0_piece])), (a0_a, aL C.D 5 (v5 y2 y4 y6 y8 y10)), (a0_r, aL C.D 5 (v5 r0 r1 r2 r3 r4)), (a0_product, aL C.D 5 (v5 y12 y22 y16 y18 y20)), (a0_piece, aB C.D 17 t_a0_piece)] rfl (by decide) (by decide) dX6_addPiece_79 rfl ?_
  refine v_goto g 111 dX6_addPiece_80 (by decide) ?_
  refine v_iincN g 1 [(2, .int (nI 1)), (3, .int (nI 1)), (1, .int (nI 1)), (0, .ref a0)] dX6_addPiece_111 1 rfl (by decide +kernel) (by decide) rfl ?_
  refine v_goto g 44 dX6_addPiece_114 (by decide) ?_
  refine v_iload_n g dX6_addPiece_44 2 rfl 0 rfl ?_
  refine v_iconst g dX6_addPiece_45 (v := nI 5) (by decide +kernel) ?_
  refine v_icmp_geN g 117 dX6_addPiece_46 (by decide) (by decide) (by decide) (fun h => absurd h (by decide)) (fun _ => ?_)
  refine v_iload_n g dX6_addPiece_49 1 rfl 2 rfl ?_
  refine v_iload_n g dX6_addPiece_50 2 rfl 0 rfl ?_
  refine v_iaddN g dX6_addPiece_51 ?_
  refine v_toi (nI 2) rfl ?_
  refine v_istore_n g [(3, .int (nI 2)), (2, .int (nI 1)), (1, .int (nI 1)), (0, .ref a0)] dX6_addPiece_52 3 rfl (by decide) rfl ?_
  refine v_iload_n g dX6_addPiece_53 3 rfl 0 rfl ?_
  refine v_iconst g dX6_addPiece_54 (v := nI 5) (by decide +kernel) ?_
  refine v_icmp_geN g 83 dX6_addPiece_55 (by decide) (by decide) (by decide) (fun h => absurd h (by decide)) (fun _ => ?_)
  refine v_aload_n g dX6_addPiece_58 0 rfl 3 rfl ?_
  refine gf_X6_18 g dX6_addPiece_59 0 rfl rfl ?_
  refine v_iload_n g dX6_addPiece_62 3 rfl 0 rfl ?_
  refine v_dup2 g dX6_addPiece_63 rfl rfl ?_
  refine v_laldL g 3 rfl (by decide) (by decide) dX6_addPiece_64 ?_
  refine v_tol (lN y16) rfl ?_
  refine v_aload_n g dX6_addPiece_65 0 rfl 3 rfl ?_
  refine gf_X6_11 g dX6_addPiece_66 0 rfl rfl ?_
  refine v_iload_n g dX6_addPiece_69 1 rfl 2 rfl ?_
  refine v_laldL g 1 rfl (by decide) (by decide) dX6_addPiece_70 ?_
  refine v_tol (lN y4) rfl ?_
  refine v_aload_n g dX6_addPiece_71 0 rfl 3 rfl ?_
  refine gf_X6_15 g dX6_addPiece_72 0 rfl rfl ?_
  refine v_iload_n g dX6_addPiece_75 2 rfl 1 rfl ?_
  refine v_laldL g 2 rfl (by decide) (by decide) dX6_addPiece_76 ?_
  refine v_tol (lN r1) rfl ?_
  refine v_lmulN g dX6_addPiece_77 ?_
  refine v_nmL (fun P23 hP23 => ?_)
  have eP23 : P23 = y4 * r1 := hP23
  clear hP23
  refine v_laddN g dX6_addPiece_78 ?_
  obtain ⟨y24, hy24⟩ : ∃ z : Nat, z = y16 + P23 := ⟨_, rfl⟩
  refine v_lastL g y24 (by rw [hy24]) (v5 y12 y22 y24 y18 y20) (v5_u2 _ _ _ _ _ _) 3 [(a0, .inr (6, [.ref a0_a, .ref a0_r, .ref a0_product, .ref a0_s, .ref a0_piece])), (a0_a, aL C.D 5 (v5 y2 y4 y6 y8 y10)), (a0_r, aL C.D 5 (v5 r0 r1 r2 r3 r4)), (a0_product, aL C.D 5 (v5 y12 y22 y24 y18 y20)), (a0_piece, aB C.D 17 t_a0_piece)] rfl (by decide) (by decide) dX6_addPiece_79 rfl ?_
  refine v_goto g 111 dX6_addPiece_80 (by decide) ?_
  refine v_iincN g 1 [(2, .int (nI 2)), (3, .int (nI 2)), (1, .int (nI 1)), (0, .ref a0)] dX6_addPiece_111 1 rfl (by decide +kernel) (by decide) rfl ?_
  refine v_goto g 44 dX6_addPiece_114 (by decide) ?_
  refine v_iload_n g dX6_addPiece_44 2 rfl 0 rfl ?_
  refine v_iconst g dX6_addPiece_45 (v := nI 5) (by decide +kernel) ?_
  refine v_icmp_geN g 117 dX6_addPiece_46 (by decide) (by decide) (by decide) (fun h => absurd h (by decide)) (fun _ => ?_)
  refine v_iload_n g dX6_addPiece_49 1 rfl 2 rfl ?_
  refine v_iload_n g dX6_addPiece_50 2 rfl 0 rfl ?_
  refine v_iaddN g dX6_addPiece_51 ?_
  refine v_toi (nI 3) rfl ?_
  refine v_istore_n g [(3, .int (nI 3)), (2, .int (nI 2)), (1, .int (nI 1)), (0, .ref a0)] dX6_addPiece_52 3 rfl (by decide) rfl ?_
  refine v_iload_n g dX6_addPiece_53 3 rfl 0 rfl ?_
  refine v_iconst g dX6_addPiece_54 (v := nI 5) (by decide +kernel) ?_
  refine v_icmp_geN g 83 dX6_addPiece_55 (by decide) (by decide) (by decide) (fun h => absurd h (by decide)) (fun _ => ?_)
  refine v_aload_n g dX6_addPiece_58 0 rfl 3 rfl ?_
  refine gf_X6_18 g dX6_addPiece_59 0 rfl rfl ?_
  refine v_iload_n g dX6_addPiece_62 3 rfl 0 rfl ?_
  refine v_dup2 g dX6_addPiece_63 rfl rfl ?_
  refine v_laldL g 3 rfl (by decide) (by decide) dX6_addPiece_64 ?_
  refine v_tol (lN y18) rfl ?_
  refine v_aload_n g dX6_addPiece_65 0 rfl 3 rfl ?_
  refine gf_X6_11 g dX6_addPiece_66 0 rfl rfl ?_
  refine v_iload_n g dX6_addPiece_69 1 rfl 2 rfl ?_
  refine v_laldL g 1 rfl (by decide) (by decide) dX6_addPiece_70 ?_
  refine v_tol (lN y4) rfl ?_
  refine v_aload_n g dX6_addPiece_71 0 rfl 3 rfl ?_
  refine gf_X6_15 g dX6_addPiece_72 0 rfl rfl ?_
  refine v_iload_n g dX6_addPiece_75 2 rfl 1 rfl ?_
  refine v_laldL g 2 rfl (by decide) (by decide) dX6_addPiece_76 ?_
  refine v_tol (lN r2) rfl ?_
  refine v_lmulN g dX6_addPiece_77 ?_
  refine v_nmL (fun P25 hP25 => ?_)
  have eP25 : P25 = y4 * r2 := hP25
  clear hP25
  refine v_laddN g dX6_addPiece_78 ?_
  obtain ⟨y26, hy26⟩ : ∃ z : Nat, z = y18 + P25 := ⟨_, rfl⟩
  refine v_lastL g y26 (by rw [hy26]) (v5 y12 y22 y24 y26 y20) (v5_u3 _ _ _ _ _ _) 3 [(a0, .inr (6, [.ref a0_a, .ref a0_r, .ref a0_product, .ref a0_s, .ref a0_piece])), (a0_a, aL C.D 5 (v5 y2 y4 y6 y8 y10)), (a0_r, aL C.D 5 (v5 r0 r1 r2 r3 r4)), (a0_product, aL C.D 5 (v5 y12 y22 y24 y26 y20)), (a0_piece, aB C.D 17 t_a0_piece)] rfl (by decide) (by decide) dX6_addPiece_79 rfl ?_
  refine v_goto g 111 dX6_addPiece_80 (by decide) ?_
  refine v_iincN g 1 [(2, .int (nI 3)), (3, .int (nI 3)), (1, .int (nI 1)), (0, .ref a0)] dX6_addPiece_111 1 rfl (by decide +kernel) (by decide) rfl ?_
  refine v_goto g 44 dX6_addPiece_114 (by decide) ?_
  refine v_iload_n g dX6_addPiece_44 2 rfl 0 rfl ?_
  refine v_iconst g dX6_addPiece_45 (v := nI 5) (by decide +kernel) ?_
  refine v_icmp_geN g 117 dX6_addPiece_46 (by decide) (by decide) (by decide) (fun h => absurd h (by decide)) (fun _ => ?_)
  refine v_iload_n g dX6_addPiece_49 1 rfl 2 rfl ?_
  refine v_iload_n g dX6_addPiece_50 2 rfl 0 rfl ?_
  refine v_iaddN g dX6_addPiece_51 ?_
  refine v_toi (nI 4) rfl ?_
  refine v_istore_n g [(3, .int (nI 4)), (2, .int (nI 3)), (1, .int (nI 1)), (0, .ref a0)] dX6_addPiece_52 3 rfl (by decide) rfl ?_
  refine v_iload_n g dX6_addPiece_53 3 rfl 0 rfl ?_
  refine v_iconst g dX6_addPiece_54 (v := nI 5) (by decide +kernel) ?_
  refine v_icmp_geN g 83 dX6_addPiece_55 (by decide) (by decide) (by decide) (fun h => absurd h (by decide)) (fun _ => ?_)
  refine v_aload_n g dX6_addPiece_58 0 rfl 3 rfl ?_
  refine gf_X6_18 g dX6_addPiece_59 0 rfl rfl ?_
  refine v_iload_n g dX6_addPiece_62 3 rfl 0 rfl ?_
  refine v_dup2 g dX6_addPiece_63 rfl rfl ?_
  refine v_laldL g 3 rfl (by decide) (by decide) dX6_addPiece_64 ?_
  refine v_tol (lN y20) rfl ?_
  refine v_aload_n g dX6_addPiece_65 0 rfl 3 rfl ?_
  refine gf_X6_11 g dX6_addPiece_66 0 rfl rfl ?_
  refine v_iload_n g dX6_addPiece_69 1 rfl 2 rfl ?_
  refine v_laldL g 1 rfl (by decide) (by decide) dX6_addPiece_70 ?_
  refine v_tol (lN y4) rfl ?_
  refine v_aload_n g dX6_addPiece_71 0 rfl 3 rfl ?_
  refine gf_X6_15 g dX6_addPiece_72 0 rfl rfl ?_
  refine v_iload_n g dX6_addPiece_75 2 rfl 1 rfl ?_
  refine v_laldL g 2 rfl (by decide) (by decide) dX6_addPiece_76 ?_
  refine v_tol (lN r3) rfl ?_
  refine v_lmulN g dX6_addPiece_77 ?_
  refine v_nmL (fun P27 hP27 => ?_)
  have eP27 : P27 = y4 * r3 := hP27
  clear hP27
  refine v_laddN g dX6_addPiece_78 ?_
  obtain ⟨y28, hy28⟩ : ∃ z : Nat, z = y20 + P27 := ⟨_, rfl⟩
  refine v_lastL g y28 (by rw [hy28]) (v5 y12 y22 y24 y26 y28) (v5_u4 _ _ _ _ _ _) 3 [(a0, .inr (6, [.ref a0_a, .ref a0_r, .ref a0_product, .ref a0_s, .ref a0_piece])), (a0_a, aL C.D 5 (v5 y2 y4 y6 y8 y10)), (a0_r, aL C.D 5 (v5 r0 r1 r2 r3 r4)), (a0_product, aL C.D 5 (v5 y12 y22 y24 y26 y28)), (a0_piece, aB C.D 17 t_a0_piece)] rfl (by decide) (by decide) dX6_addPiece_79 rfl ?_
  refine v_goto g 111 dX6_addPiece_80 (by decide) ?_
  refine v_iincN g 1 [(2, .int (nI 4)), (3, .int (nI 4)), (1, .int (nI 1)), (0, .ref a0)] dX6_addPiece_111 1 rfl (by decide +kernel) (by decide) rfl ?_
  refine v_goto g 44 dX6_addPiece_114 (by decide) ?_
  refine v_iload_n g dX6_addPiece_44 2 rfl 0 rfl ?_
  refine v_iconst g dX6_addPiece_45 (v := nI 5) (by decide +kernel) ?_
  refine v_icmp_geN g 117 dX6_addPiece_46 (by decide) (by decide) (by decide) (fun h => absurd h (by decide)) (fun _ => ?_)
  refine v_iload_n g dX6_addPiece_49 1 rfl 2 rfl ?_
  refine v_iload_n g dX6_addPiece_50 2 rfl 0 rfl ?_
  refine v_iaddN g dX6_addPiece_51 ?_
  refine v_toi (nI 5) rfl ?_
  refine v_istore_n g [(3, .int (nI 5)), (2, .int (nI 4)), (1, .int (nI 1)), (0, .ref a0)] dX6_addPiece_52 3 rfl (by decide) rfl ?_
  refine v_iload_n g dX6_addPiece_53 3 rfl 0 rfl ?_
  refine v_iconst g dX6_addPiece_54 (v := nI 5) (by decide +kernel) ?_
  refine v_icmp_geN g 83 dX6_addPiece_55 (by decide) (by decide) (by decide) (fun _ => ?_) (fun h => absurd h (by decide))
  refine v_aload_n g dX6_addPiece_83 0 rfl 3 rfl ?_
  refine gf_X6_18 g dX6_addPiece_84 0 rfl rfl ?_
  refine v_iload_n g dX6_addPiece_87 3 rfl 0 rfl ?_
  refine v_iconst g dX6_addPiece_88 (v := nI 5) (by decide +kernel) ?_
  refine v_isubN g dX6_addPiece_89 (by decide) ?_
  refine v_toi (nI 0) rfl ?_
  refine v_dup2 g dX6_addPiece_90 rfl rfl ?_
  refine v_laldL g 3 rfl (by decide) (by decide) dX6_addPiece_91 ?_
  refine v_tol (lN y12) rfl ?_
  refine v_ldc2 g dX6_addPiece_92 kl_X6_64 ?_
  refine v_aload_n g dX6_addPiece_95 0 rfl 3 rfl ?_
  refine gf_X6_11 g dX6_addPiece_96 0 rfl rfl ?_
  refine v_iload_n g dX6_addPiece_99 1 rfl 2 rfl ?_
  refine v_laldL g 1 rfl (by decide) (by decide) dX6_addPiece_100 ?_
  refine v_tol (lN y4) rfl ?_
  refine v_lmulN g dX6_addPiece_101 ?_
  refine v_aload_n g dX6_addPiece_102 0 rfl 3 rfl ?_
  refine gf_X6_15 g dX6_addPiece_103 0 rfl rfl ?_
  refine v_iload_n g dX6_addPiece_106 2 rfl 1 rfl ?_
  refine v_laldL g 2 rfl (by decide) (by decide) dX6_addPiece_107 ?_
  refine v_tol (lN r4) rfl ?_
  refine v_lmulN g dX6_addPiece_108 ?_
  refine v_nmL (fun P29 hP29 => ?_)
  have eP29 : P29 = 5 * (y4 * r4) := by rw [hP29, Nat.mul_assoc]
  clear hP29
  refine v_laddN g dX6_addPiece_109 ?_
  obtain ⟨y30, hy30⟩ : ∃ z : Nat, z = y12 + P29 := ⟨_, rfl⟩
  refine v_lastL g y30 (by rw [hy30]) (v5 y30 y22 y24 y26 y28) (v5_u0 _ _ _ _ _ _) 3 [(a0, .inr (6, [.ref a0_a, .ref a0_r, .ref a0_product, .ref a0_s, .ref a0_piece])), (a0_a, aL C.D 5 (v5 y2 y4 y6 y8 y10)), (a0_r, aL C.D 5 (v5 r0 r1 r2 r3 r4)), (a0_product, aL C.D 5 (v5 y30 y22 y24 y26 y28)), (a0_piece, aB C.D 17 t_a0_piece)] rfl (by decide) (by decide) dX6_addPiece_110 rfl ?_
  refine v_iincN g 1 [(2, .int (nI 5)), (3, .int (nI 5)), (1, .int (nI 1)), (0, .ref a0)] dX6_addPiece_111 1 rfl (by decide +kernel) (by decide) rfl ?_
  refine v_goto g 44 dX6_addPiece_114 (by decide) ?_
  refine v_iload_n g dX6_addPiece_44 2 rfl 0 rfl ?_
  refine v_iconst g dX6_addPiece_45 (v := nI 5) (by decide +kernel) ?_
  refine v_icmp_geN g 117 dX6_addPiece_46 (by decide) (by decide) (by decide) (fun _ => ?_) (fun h => absurd h (by decide))
  refine v_iincN g 1 [(1, .int (nI 2)), (2, .int (nI 5)), (3, .int (nI 5)), (0, .ref a0)] dX6_addPiece_117 2 rfl (by decide +kernel) (by decide) rfl ?_
  refine v_goto g 37 dX6_addPiece_120 (by decide) ?_
  refine v_iload_n g dX6_addPiece_37 1 rfl 0 rfl ?_
  refine v_iconst g dX6_addPiece_38 (v := nI 5) (by decide +kernel) ?_
  refine v_icmp_geN g 123 dX6_addPiece_39 (by decide) (by decide) (by decide) (fun h => absurd h (by decide)) (fun _ => ?_)
  refine v_iconst g dX6_addPiece_42 (v := nI 0) (by decide +kernel) ?_
  refine v_istore_n g [(2, .int (nI 0)), (1, .int (nI 2)), (3, .int (nI 5)), (0, .ref a0)] dX6_addPiece_43 2 rfl (by decide) rfl ?_
  refine v_iload_n g dX6_addPiece_44 2 rfl 0 rfl ?_
  refine v_iconst g dX6_addPiece_45 (v := nI 5) (by decide +kernel) ?_
  refine v_icmp_geN g 117 dX6_addPiece_46 (by decide) (by decide) (by decide) (fun h => absurd h (by decide)) (fun _ => ?_)
  refine v_iload_n g dX6_addPiece_49 1 rfl 1 rfl ?_
  refine v_iload_n g dX6_addPiece_50 2 rfl 0 rfl ?_
  refine v_iaddN g dX6_addPiece_51 ?_
  refine v_toi (nI 2) rfl ?_
  refine v_istore_n g [(3, .int (nI 2)), (2, .int (nI 0)), (1, .int (nI 2)), (0, .ref a0)] dX6_addPiece_52 3 rfl (by decide) rfl ?_
  refine v_iload_n g dX6_addPiece_53 3 rfl 0 rfl ?_
  refine v_iconst g dX6_addPiece_54 (v := nI 5) (by decide +kernel) ?_
  refine v_icmp_geN g 83 dX6_addPiece_55 (by decide) (by decide) (by decide) (fun h => absurd h (by decide)) (fun _ => ?_)
  refine v_aload_n g dX6_addPiece_58 0 rfl 3 rfl ?_
  refine gf_X6_18 g dX6_addPiece_59 0 rfl rfl ?_
  refine v_iload_n g dX6_addPiece_62 3 rfl 0 rfl ?_
  refine v_dup2 g dX6_addPiece_63 rfl rfl ?_
  refine v_laldL g 3 rfl (by decide) (by decide) dX6_addPiece_64 ?_
  refine v_tol (lN y24) rfl ?_
  refine v_aload_n g dX6_addPiece_65 0 rfl 3 rfl ?_
  refine gf_X6_11 g dX6_addPiece_66 0 rfl rfl ?_
  refine v_iload_n g dX6_addPiece_69 1 rfl 2 rfl ?_
  refine v_laldL g 1 rfl (by decide) (by decide) dX6_addPiece_70 ?_
  refine v_tol (lN y6) rfl ?_
  refine v_aload_n g dX6_addPiece_71 0 rfl 3 rfl ?_
  refine gf_X6_15 g dX6_addPiece_72 0 rfl rfl ?_
  refine v_iload_n g dX6_addPiece_75 2 rfl 1 rfl ?_
  refine v_laldL g 2 rfl (by decide) (by decide) dX6_addPiece_76 ?_
  refine v_tol (lN r0) rfl ?_
  refine v_lmulN g dX6_addPiece_77 ?_
  refine v_nmL (fun P31 hP31 => ?_)
  have eP31 : P31 = y6 * r0 := hP31
  clear hP31
  refine v_laddN g dX6_addPiece_78 ?_
  obtain ⟨y32, hy32⟩ : ∃ z : Nat, z = y24 + P31 := ⟨_, rfl⟩
  refine v_lastL g y32 (by rw [hy32]) (v5 y30 y22 y32 y26 y28) (v5_u2 _ _ _ _ _ _) 3 [(a0, .inr (6, [.ref a0_a, .ref a0_r, .ref a0_product, .ref a0_s, .ref a0_piece])), (a0_a, aL C.D 5 (v5 y2 y4 y6 y8 y10)), (a0_r, aL C.D 5 (v5 r0 r1 r2 r3 r4)), (a0_product, aL C.D 5 (v5 y30 y22 y32 y26 y28)), (a0_piece, aB C.D 17 t_a0_piece)] rfl (by decide) (by decide) dX6_addPiece_79 rfl ?_
  refine v_goto g 111 dX6_addPiece_80 (by decide) ?_
  refine v_iincN g 1 [(2, .int (nI 1)), (3, .int (nI 2)), (1, .int (nI 2)), (0, .ref a0)] dX6_addPiece_111 1 rfl (by decide +kernel) (by decide) rfl ?_
  refine v_goto g 44 dX6_addPiece_114 (by decide) ?_
  refine v_iload_n g dX6_addPiece_44 2 rfl 0 rfl ?_
  refine v_iconst g dX6_addPiece_45 (v := nI 5) (by decide +kernel) ?_
  refine v_icmp_geN g 117 dX6_addPiece_46 (by decide) (by decide) (by decide) (fun h => absurd h (by decide)) (fun _ => ?_)
  refine v_iload_n g dX6_addPiece_49 1 rfl 2 rfl ?_
  refine v_iload_n g dX6_addPiece_50 2 rfl 0 rfl ?_
  refine v_iaddN g dX6_addPiece_51 ?_
  refine v_toi (nI 3) rfl ?_
  refine v_istore_n g [(3, .int (nI 3)), (2, .int (nI 1)), (1, .int (nI 2)), (0, .ref a0)] dX6_addPiece_52 3 rfl (by decide) rfl ?_
  refine v_iload_n g dX6_addPiece_53 3 rfl 0 rfl ?_
  refine v_iconst g dX6_addPiece_54 (v := nI 5) (by decide +kernel) ?_
  refine v_icmp_geN g 83 dX6_addPiece_55 (by decide) (by decide) (by decide) (fun h => absurd h (by decide)) (fun _ => ?_)
  refine v_aload_n g dX6_addPiece_58 0 rfl 3 rfl ?_
  refine gf_X6_18 g dX6_addPiece_59 0 rfl rfl ?_
  refine v_iload_n g dX6_addPiece_62 3 rfl 0 rfl ?_
  refine v_dup2 g dX6_addPiece_63 rfl rfl ?_
  refine v_laldL g 3 rfl (by decide) (by decide) dX6_addPiece_64 ?_
  refine v_tol (lN y26) rfl ?_
  refine v_aload_n g dX6_addPiece_65 0 rfl 3 rfl ?_
  refine gf_X6_11 g dX6_addPiece_66 0 rfl rfl ?_
  refine v_iload_n g dX6_addPiece_69 1 rfl 2 rfl ?_
  refine v_laldL g 1 rfl (by decide) (by decide) dX6_addPiece_70 ?_
  refine v_tol (lN y6) rfl ?_
  refine v_aload_n g dX6_addPiece_71 0 rfl 3 rfl ?_
  refine gf_X6_15 g dX6_addPiece_72 0 rfl rfl ?_
  refine v_iload_n g dX6_addPiece_75 2 rfl 1 rfl ?_
  refine v_laldL g 2 rfl (by decide) (by decide) dX6_addPiece_76 ?_
  refine v_tol (lN r1) rfl ?_
  refine v_lmulN g dX6_addPiece_77 ?_
  refine v_nmL (fun P33 hP33 => ?_)
  have eP33 : P33 = y6 * r1 := hP33
  clear hP33
  refine v_laddN g dX6_addPiece_78 ?_
  obtain ⟨y34, hy34⟩ : ∃ z : Nat, z = y26 + P33 := ⟨_, rfl⟩
  refine v_lastL g y34 (by rw [hy34]) (v5 y30 y22 y32 y34 y28) (v5_u3 _ _ _ _ _ _) 3 [(a0, .inr (6, [.ref a0_a, .ref a0_r, .ref a0_product, .ref a0_s, .ref a0_piece])), (a0_a, aL C.D 5 (v5 y2 y4 y6 y8 y10)), (a0_r, aL C.D 5 (v5 r0 r1 r2 r3 r4)), (a0_product, aL C.D 5 (v5 y30 y22 y32 y34 y28)), (a0_piece, aB C.D 17 t_a0_piece)] rfl (by decide) (by decide) dX6_addPiece_79 rfl ?_
  refine v_goto g 111 dX6_addPiece_80 (by decide) ?_
  refine v_iincN g 1 [(2, .int (nI 2)), (3, .int (nI 3)), (1, .int (nI 2)), (0, .ref a0)] dX6_addPiece_111 1 rfl (by decide +kernel) (by decide) rfl ?_
  refine v_goto g 44 dX6_addPiece_114 (by decide) ?_
  refine v_iload_n g dX6_addPiece_44 2 rfl 0 rfl ?_
  refine v_iconst g dX6_addPiece_45 (v := nI 5) (by decide +kernel) ?_
  refine v_icmp_geN g 117 dX6_addPiece_46 (by decide) (by decide) (by decide) (fun h => absurd h (by decide)) (fun _ => ?_)
  refine v_iload_n g dX6_addPiece_49 1 rfl 2 rfl ?_
  refine v_iload_n g dX6_addPiece_50 2 rfl 0 rfl ?_
  refine v_iaddN g dX6_addPiece_51 ?_
  refine v_toi (nI 4) rfl ?_
  refine v_istore_n g [(3, .int (nI 4)), (2, .int (nI 2)), (1, .int (nI 2)), (0, .ref a0)] dX6_addPiece_52 3 rfl (by decide) rfl ?_
  refine v_iload_n g dX6_addPiece_53 3 rfl 0 rfl ?_
  refine v_iconst g dX6_addPiece_54 (v := nI 5) (by decide +kernel) ?_
  refine v_icmp_geN g 83 dX6_addPiece_55 (by decide) (by decide) (by decide) (fun h => absurd h (by decide)) (fun _ => ?_)
  refine v_aload_n g dX6_addPiece_58 0 rfl 3 rfl ?_
  refine gf_X6_18 g dX6_addPiece_59 0 rfl rfl ?_
  refine v_iload_n g dX6_addPiece_62 3 rfl 0 rfl ?_
  refine v_dup2 g dX6_addPiece_63 rfl rfl ?_
  refine v_laldL g 3 rfl (by decide) (by decide) dX6_addPiece_64 ?_
  refine v_tol (lN y28) rfl ?_
  refine v_aload_n g dX6_addPiece_65 0 rfl 3 rfl ?_
  refine gf_X6_11 g dX6_addPiece_66 0 rfl rfl ?_
  refine v_iload_n g dX6_addPiece_69 1 rfl 2 rfl ?_
  refine v_laldL g 1 rfl (by decide) (by decide) dX6_addPiece_70 ?_
  refine v_tol (lN y6) rfl ?_
  refine v_aload_n g dX6_addPiece_71 0 rfl 3 rfl ?_
  refine gf_X6_15 g dX6_addPiece_72 0 rfl rfl ?_
  refine v_iload_n g dX6_addPiece_75 2 rfl 1 rfl ?_
  refine v_laldL g 2 rfl (by decide) (by decide) dX6_addPiece_76 ?_
  refine v_tol (lN r2) rfl ?_
  refine v_lmulN g dX6_addPiece_77 ?_
  refine v_nmL (fun P35 hP35 => ?_)
  have eP35 : P35 = y6 * r2 := hP35
  clear hP35
  refine v_laddN g dX6_addPiece_78 ?_
  obtain ⟨y36, hy36⟩ : ∃ z : Nat, z = y28 + P35 := ⟨_, rfl⟩
  refine v_lastL g y36 (by rw [hy36]) (v5 y30 y22 y32 y34 y36) (v5_u4 _ _ _ _ _ _) 3 [(a0, .inr (6, [.ref a0_a, .ref a0_r, .ref a0_product, .ref a0_s, .ref a0_piece])), (a0_a, aL C.D 5 (v5 y2 y4 y6 y8 y10)), (a0_r, aL C.D 5 (v5 r0 r1 r2 r3 r4)), (a0_product, aL C.D 5 (v5 y30 y22 y32 y34 y36)), (a0_piece, aB C.D 17 t_a0_piece)] rfl (by decide) (by decide) dX6_addPiece_79 rfl ?_
  refine v_goto g 111 dX6_addPiece_80 (by decide) ?_
  refine v_iincN g 1 [(2, .int (nI 3)), (3, .int (nI 4)), (1, .int (nI 2)), (0, .ref a0)] dX6_addPiece_111 1 rfl (by decide +kernel) (by decide) rfl ?_
  refine v_goto g 44 dX6_addPiece_114 (by decide) ?_
  refine v_iload_n g dX6_addPiece_44 2 rfl 0 rfl ?_
  refine v_iconst g dX6_addPiece_45 (v := nI 5) (by decide +kernel) ?_
  refine v_icmp_geN g 117 dX6_addPiece_46 (by decide) (by decide) (by decide) (fun h => absurd h (by decide)) (fun _ => ?_)
  refine v_iload_n g dX6_addPiece_49 1 rfl 2 rfl ?_
  refine v_iload_n g dX6_addPiece_50 2 rfl 0 rfl ?_
  refine v_iaddN g dX6_addPiece_51 ?_
  refine v_toi (nI 5) rfl ?_
  refine v_istore_n g [(3, .int (nI 5)), (2, .int (nI 3)), (1, .int (nI 2)), (0, .ref a0)] dX6_addPiece_52 3 rfl (by decide) rfl ?_
  refine v_iload_n g dX6_addPiece_53 3 rfl 0 rfl ?_
  refine v_iconst g dX6_addPiece_54 (v := nI 5) (by decide +kernel) ?_
  refine v_icmp_geN g 83 dX6_addPiece_55 (by decide) (by decide) (by decide) (fun _ => ?_) (fun h => absurd h (by decide))
  refine v_aload_n g dX6_addPiece_83 0 rfl 3 rfl ?_
  refine gf_X6_18 g dX6_addPiece_84 0 rfl rfl ?_
  refine v_iload_n g dX6_addPiece_87 3 rfl 0 rfl ?_
  refine v_iconst g dX6_addPiece_88 (v := nI 5) (by decide +kernel) ?_
  refine v_isubN g dX6_addPiece_89 (by decide) ?_
  refine v_toi (nI 0) rfl ?_
  refine v_dup2 g dX6_addPiece_90 rfl rfl ?_
  refine v_laldL g 3 rfl (by decide) (by decide) dX6_addPiece_91 ?_
  refine v_tol (lN y30) rfl ?_
  refine v_ldc2 g dX6_addPiece_92 kl_X6_64 ?_
  refine v_aload_n g dX6_addPiece_95 0 rfl 3 rfl ?_
  refine gf_X6_11 g dX6_addPiece_96 0 rfl rfl ?_
  refine v_iload_n g dX6_addPiece_99 1 rfl 2 rfl ?_
  refine v_laldL g 1 rfl (by decide) (by decide) dX6_addPiece_100 ?_
  refine v_tol (lN y6) rfl ?_
  refine v_lmulN g dX6_addPiece_101 ?_
  refine v_aload_n g dX6_addPiece_102 0 rfl 3 rfl ?_
  refine gf_X6_15 g dX6_addPiece_103 0 rfl rfl ?_
  refine v_iload_n g dX6_addPiece_106 2 rfl 1 rfl ?_
  refine v_laldL g 2 rfl (by decide) (by decide) dX6_addPiece_107 ?_
  refine v_tol (lN r3) rfl ?_
  refine v_lmulN g dX6_addPiece_108 ?_
  refine v_nmL (fun P37 hP37 => ?_)
  have eP37 : P37 = 5 * (y6 * r3) := by rw [hP37, Nat.mul_assoc]
  clear hP37
  refine v_laddN g dX6_addPiece_109 ?_
  obtain ⟨y38, hy38⟩ : ∃ z : Nat, z = y30 + P37 := ⟨_, rfl⟩
  refine v_lastL g y38 (by rw [hy38]) (v5 y38 y22 y32 y34 y36) (v5_u0 _ _ _ _ _ _) 3 [(a0, .inr (6, [.ref a0_a, .ref a0_r, .ref a0_product, .ref a0_s, .ref a0_piece])), (a0_a, aL C.D 5 (v5 y2 y4 y6 y8 y10)), (a0_r, aL C.D 5 (v5 r0 r1 r2 r3 r4)), (a0_product, aL C.D 5 (v5 y38 y22 y32 y34 y36)), (a0_piece, aB C.D 17 t_a0_piece)] rfl (by decide) (by decide) dX6_addPiece_110 rfl ?_
  refine v_iincN g 1 [(2, .int (nI 4)), (3, .int (nI 5)), (1, .int (nI 2)), (0, .ref a0)] dX6_addPiece_111 1 rfl (by decide +kernel) (by decide) rfl ?_
  refine v_goto g 44 dX6_addPiece_114 (by decide) ?_
  refine v_iload_n g dX6_addPiece_44 2 rfl 0 rfl ?_
  refine v_iconst g dX6_addPiece_45 (v := nI 5) (by decide +kernel) ?_
  refine v_icmp_geN g 117 dX6_addPiece_46 (by decide) (by decide) (by decide) (fun h => absurd h (by decide)) (fun _ => ?_)
  refine v_iload_n g dX6_addPiece_49 1 rfl 2 rfl ?_
  refine v_iload_n g dX6_addPiece_50 2 rfl 0 rfl ?_
  refine v_iaddN g dX6_addPiece_51 ?_
  refine v_toi (nI 6) rfl ?_
  refine v_istore_n g [(3, .int (nI 6)), (2, .int (nI 4)), (1, .int (nI 2)), (0, .ref a0)] dX6_addPiece_52 3 rfl (by decide) rfl ?_
  refine v_iload_n g dX6_addPiece_53 3 rfl 0 rfl ?_
  refine v_iconst g dX6_addPiece_54 (v := nI 5) (by decide +kernel) ?_
  refine v_icmp_geN g 83 dX6_addPiece_55 (by decide) (by decide) (by decide) (fun _ => ?_) (fun h => absurd h (by decide))
  refine v_aload_n g dX6_addPiece_83 0 rfl 3 rfl ?_
  refine gf_X6_18 g dX6_addPiece_84 0 rfl rfl ?_
  refine v_iload_n g dX6_addPiece_87 3 rfl 0 rfl ?_
  refine v_iconst g dX6_addPiece_88 (v := nI 5) (by decide +kernel) ?_
  refine v_isubN g dX6_addPiece_89 (by decide) ?_
  refine v_toi (nI 1) rfl ?_
  refine v_dup2 g dX6_addPiece_90 rfl rfl ?_
  refine v_laldL g 3 rfl (by decide) (by decide) dX6_addPiece_91 ?_
  refine v_tol (lN y22) rfl ?_
  refine v_ldc2 g dX6_addPiece_92 kl_X6_64 ?_
  refine v_aload_n g dX6_addPiece_95 0 rfl 3 rfl ?_
  refine gf_X6_11 g dX6_addPiece_96 0 rfl rfl ?_
  refine v_iload_n g dX6_addPiece_99 1 rfl 2 rfl ?_
  refine v_laldL g 1 rfl (by decide) (by decide) dX6_addPiece_100 ?_
  refine v_tol (lN y6) rfl ?_
  refine v_lmulN g dX6_addPiece_101 ?_
  refine v_aload_n g dX6_addPiece_102 0 rfl 3 rfl ?_
  refine gf_X6_15 g dX6_addPiece_103 0 rfl rfl ?_
  refine v_iload_n g dX6_addPiece_106 2 rfl 1 rfl ?_
  refine v_laldL g 2 rfl (by decide) (by decide) dX6_addPiece_107 ?_
  refine v_tol (lN r4) rfl ?_
  refine v_lmulN g dX6_addPiece_108 ?_
  refine v_nmL (fun P39 hP39 => ?_)
  have eP39 : P39 = 5 * (y6 * r4) := by rw [hP39, Nat.mul_assoc]
  clear hP39
  refine v_laddN g dX6_addPiece_109 ?_
  obtain ⟨y40, hy40⟩ : ∃ z : Nat, z = y22 + P39 := ⟨_, rfl⟩
  refine v_lastL g y40 (by rw [hy40]) (v5 y38 y40 y32 y34 y36) (v5_u1 _ _ _ _ _ _) 3 [(a0, .inr (6, [.ref a0_a, .ref a0_r, .ref a0_product, .ref a0_s, .ref a0_piece])), (a0_a, aL C.D 5 (v5 y2 y4 y6 y8 y10)), (a0_r, aL C.D 5 (v5 r0 r1 r2 r3 r4)), (a0_product, aL C.D 5 (v5 y38 y40 y32 y34 y36)), (a0_piece, aB C.D 17 t_a0_piece)] rfl (by decide) (by decide) dX6_addPiece_110 rfl ?_
  refine v_iincN g 1 [(2, .int (nI 5)), (3, .int (nI 6)), (1, .int (nI 2)), (0, .ref a0)] dX6_addPiece_111 1 rfl (by decide +kernel) (by decide) rfl ?_
  refine v_goto g 44 dX6_addPiece_114 (by decide) ?_
  refine v_iload_n g dX6_addPiece_44 2 rfl 0 rfl ?_
  refine v_iconst g dX6_addPiece_45 (v := nI 5) (by decide +kernel) ?_
  refine v_icmp_geN g 117 dX6_addPiece_46 (by decide) (by decide) (by decide) (fun _ => ?_) (fun h => absurd h (by decide))
  refine v_iincN g 1 [(1, .int (nI 3)), (2, .int (nI 5)), (3, .int (nI 6)), (0, .ref a0)] dX6_addPiece_117 2 rfl (by decide +kernel) (by decide) rfl ?_
  refine v_goto g 37 dX6_addPiece_120 (by decide) ?_
  refine v_iload_n g dX6_addPiece_37 1 rfl 0 rfl ?_
  refine v_iconst g dX6_addPiece_38 (v := nI 5) (by decide +kernel) ?_
  refine v_icmp_geN g 123 dX6_addPiece_39 (by decide) (by decide) (by decide) (fun h => absurd h (by decide)) (fun _ => ?_)
  refine v_iconst g dX6_addPiece_42 (v := nI 0) (by decide +kernel) ?_
  refine v_istore_n g [(2, .int (nI 0)), (1, .int (nI 3)), (3, .int (nI 6)), (0, .ref a0)] dX6_addPiece_43 2 rfl (by decide) rfl ?_
  refine v_iload_n g dX6_addPiece_44 2 rfl 0 rfl ?_
  refine v_iconst g dX6_addPiece_45 (v := nI 5) (by decide +kernel) ?_
  refine v_icmp_geN g 117 dX6_addPiece_46 (by decide) (by decide) (by decide) (fun h => absurd h (by decide)) (fun _ => ?_)
  refine v_iload_n g dX6_addPiece_49 1 rfl 1 rfl ?_
  refine v_iload_n g dX6_addPiece_50 2 rfl 0 rfl ?_
  refine v_iaddN g dX6_addPiece_51 ?_
  refine v_toi (nI 3) rfl ?_
  refine v_istore_n g [(3, .int (nI 3)), (2, .int (nI 0)), (1, .int (nI 3)), (0, .ref a0)] dX6_addPiece_52 3 rfl (by decide) rfl ?_
  refine v_iload_n g dX6_addPiece_53 3 rfl 0 rfl ?_
  refine v_iconst g dX6_addPiece_54 (v := nI 5) (by decide +kernel) ?_
  refine v_icmp_geN g 83 dX6_addPiece_55 (by decide) (by decide) (by decide) (fun h => absurd h (by decide)) (fun _ => ?_)
  refine v_aload_n g dX6_addPiece_58 0 rfl 3 rfl ?_
  refine gf_X6_18 g dX6_addPiece_59 0 rfl rfl ?_
  refine v_iload_n g dX6_addPiece_62 3 rfl 0 rfl ?_
  refine v_dup2 g dX6_addPiece_63 rfl rfl ?_
  refine v_laldL g 3 rfl (by decide) (by decide) dX6_addPiece_64 ?_
  refine v_tol (lN y34) rfl ?_
  refine v_aload_n g dX6_addPiece_65 0 rfl 3 rfl ?_
  refine gf_X6_11 g dX6_addPiece_66 0 rfl rfl ?_
  refine v_iload_n g dX6_addPiece_69 1 rfl 2 rfl ?_
  refine v_laldL g 1 rfl (by decide) (by decide) dX6_addPiece_70 ?_
  refine v_tol (lN y8) rfl ?_
  refine v_aload_n g dX6_addPiece_71 0 rfl 3 rfl ?_
  refine gf_X6_15 g dX6_addPiece_72 0 rfl rfl ?_
  refine v_iload_n g dX6_addPiece_75 2 rfl 1 rfl ?_
  refine v_laldL g 2 rfl (by decide) (by decide) dX6_addPiece_76 ?_
  refine v_tol (lN r0) rfl ?_
  refine v_lmulN g dX6_addPiece_77 ?_
  refine v_nmL (fun P41 hP41 => ?_)
  have eP41 : P41 = y8 * r0 := hP41
  clear hP41
  refine v_laddN g dX6_addPiece_78 ?_
  obtain ⟨y42, hy42⟩ : ∃ z : Nat, z = y34 + P41 := ⟨_, rfl⟩
  refine v_lastL g y42 (by rw [hy42]) (v5 y38 y40 y32 y42 y36) (v5_u3 _ _ _ _ _ _) 3 [(a0, .inr (6, [.ref a0_a, .ref a0_r, .ref a0_product, .ref a0_s, .ref a0_piece])), (a0_a, aL C.D 5 (v5 y2 y4 y6 y8 y10)), (a0_r, aL C.D 5 (v5 r0 r1 r2 r3 r4)), (a0_product, aL C.D 5 (v5 y38 y40 y32 y42 y36)), (a0_piece, aB C.D 17 t_a0_piece)] rfl (by decide) (by decide) dX6_addPiece_79 rfl ?_
  refine v_goto g 111 dX6_addPiece_80 (by decide) ?_
  refine v_iincN g 1 [(2, .int (nI 1)), (3, .int (nI 3)), (1, .int (nI 3)), (0, .ref a0)] dX6_addPiece_111 1 rfl (by decide +kernel) (by decide) rfl ?_
  refine v_goto g 44 dX6_addPiece_114 (by decide) ?_
  refine v_iload_n g dX6_addPiece_44 2 rfl 0 rfl ?_
  refine v_iconst g dX6_addPiece_45 (v := nI 5) (by decide +kernel) ?_
  refine v_icmp_geN g 117 dX6_addPiece_46 (by decide) (by decide) (by decide) (fun h => absurd h (by decide)) (fun _ => ?_)
  refine v_iload_n g dX6_addPiece_49 1 rfl 2 rfl ?_
  refine v_iload_n g dX6_addPiece_50 2 rfl 0 rfl ?_
  refine v_iaddN g dX6_addPiece_51 ?_
  refine v_toi (nI 4) rfl ?_
  refine v_istore_n g [(3, .int (nI 4)), (2, .int (nI 1)), (1, .int (nI 3)), (0, .ref a0)] dX6_addPiece_52 3 rfl (by decide) rfl ?_
  refine v_iload_n g dX6_addPiece_53 3 rfl 0 rfl ?_
  refine v_iconst g dX6_addPiece_54 (v := nI 5) (by decide +kernel) ?_
  refine v_icmp_geN g 83 dX6_addPiece_55 (by decide) (by decide) (by decide) (fun h => absurd h (by decide)) (fun _ => ?_)
  refine v_aload_n g dX6_addPiece_58 0 rfl 3 rfl ?_
  refine gf_X6_18 g dX6_addPiece_59 0 rfl rfl ?_
  refine v_iload_n g dX6_addPiece_62 3 rfl 0 rfl ?_
  refine v_dup2 g dX6_addPiece_63 rfl rfl ?_
  refine v_laldL g 3 rfl (by decide) (by decide) dX6_addPiece_64 ?_
  refine v_tol (lN y36) rfl ?_
  refine v_aload_n g dX6_addPiece_65 0 rfl 3 rfl ?_
  refine gf_X6_11 g dX6_addPiece_66 0 rfl rfl ?_
  refine v_iload_n g dX6_addPiece_69 1 rfl 2 rfl ?_
  refine v_laldL g 1 rfl (by decide) (by decide) dX6_addPiece_70 ?_
  refine v_tol (lN y8) rfl ?_
  refine v_aload_n g dX6_addPiece_71 0 rfl 3 rfl ?_
  refine gf_X6_15 g dX6_addPiece_72 0 rfl rfl ?_
  refine v_iload_n g dX6_addPiece_75 2 rfl 1 rfl ?_
  refine v_laldL g 2 rfl (by decide) (by decide) dX6_addPiece_76 ?_
  refine v_tol (lN r1) rfl ?_
  refine v_lmulN g dX6_addPiece_77 ?_
  refine v_nmL (fun P43 hP43 => ?_)
  have eP43 : P43 = y8 * r1 := hP43
  clear hP43
  refine v_laddN g dX6_addPiece_78 ?_
  obtain ⟨y44, hy44⟩ : ∃ z : Nat, z = y36 + P43 := ⟨_, rfl⟩
  refine v_lastL g y44 (by rw [hy44]) (v5 y38 y40 y32 y42 y44) (v5_u4 _ _ _ _ _ _) 3 [(a0, .inr (6, [.ref a0_a, .ref a0_r, .ref a0_product, .ref a0_s, .ref a0_piece])), (a0_a, aL C.D 5 (v5 y2 y4 y6 y8 y10)), (a0_r, aL C.D 5 (v5 r0 r1 r2 r3 r4)), (a0_product, aL C.D 5 (v5 y38 y40 y32 y42 y44)), (a0_piece, aB C.D 17 t_a0_piece)] rfl (by decide) (by decide) dX6_addPiece_79 rfl ?_
  refine v_goto g 111 dX6_addPiece_80 (by decide) ?_
  refine v_iincN g 1 [(2, .int (nI 2)), (3, .int (nI 4)), (1, .int (nI 3)), (0, .ref a0)] dX6_addPiece_111 1 rfl (by decide +kernel) (by decide) rfl ?_
  refine v_goto g 44 dX6_addPiece_114 (by decide) ?_
  refine v_iload_n g dX6_addPiece_44 2 rfl 0 rfl ?_
  refine v_iconst g dX6_addPiece_45 (v := nI 5) (by decide +kernel) ?_
  refine v_icmp_geN g 117 dX6_addPiece_46 (by decide) (by decide) (by decide) (fun h => absurd h (by decide)) (fun _ => ?_)
  refine v_iload_n g dX6_addPiece_49 1 rfl 2 rfl ?_
  refine v_iload_n g dX6_addPiece_50 2 rfl 0 rfl ?_
  refine v_iaddN g dX6_addPiece_51 ?_
  refine v_toi (nI 5) rfl ?_
  refine v_istore_n g [(3, .int (nI 5)), (2, .int (nI 2)), (1, .int (nI 3)), (0, .ref a0)] dX6_addPiece_52 3 rfl (by decide) rfl ?_
  refine v_iload_n g dX6_addPiece_53 3 rfl 0 rfl ?_
  refine v_iconst g dX6_addPiece_54 (v := nI 5) (by decide +kernel) ?_
  refine v_icmp_geN g 83 dX6_addPiece_55 (by decide) (by decide) (by decide) (fun _ => ?_) (fun h => absurd h (by decide))
  refine v_aload_n g dX6_addPiece_83 0 rfl 3 rfl ?_
  refine gf_X6_18 g dX6_addPiece_84 0 rfl rfl ?_
  refine v_iload_n g dX6_addPiece_87 3 rfl 0 rfl ?_
  refine v_iconst g dX6_addPiece_88 (v := nI 5) (by decide +kernel) ?_
  refine v_isubN g dX6_addPiece_89 (by decide) ?_
  refine v_toi (nI 0) rfl ?_
  refine v_dup2 g dX6_addPiece_90 rfl rfl ?_
  refine v_laldL g 3 rfl (by decide) (by decide) dX6_addPiece_91 ?_
  refine v_tol (lN y38) rfl ?_
  refine v_ldc2 g dX6_addPiece_92 kl_X6_64 ?_
  refine v_aload_n g dX6_addPiece_95 0 rfl 3 rfl ?_
  refine gf_X6_11 g dX6_addPiece_96 0 rfl rfl ?_
  refine v_iload_n g dX6_addPiece_99 1 rfl 2 rfl ?_
  refine v_laldL g 1 rfl (by decide) (by decide) dX6_addPiece_100 ?_
  refine v_tol (lN y8) rfl ?_
  refine v_lmulN g dX6_addPiece_101 ?_
  refine v_aload_n g dX6_addPiece_102 0 rfl 3 rfl ?_
  refine gf_X6_15 g dX6_addPiece_103 0 rfl rfl ?_
  refine v_iload_n g dX6_addPiece_106 2 rfl 1 rfl ?_
  refine v_laldL g 2 rfl (by decide) (by decide) dX6_addPiece_107 ?_
  refine v_tol (lN r2) rfl ?_
  refine v_lmulN g dX6_addPiece_108 ?_
  refine v_nmL (fun P45 hP45 => ?_)
  have eP45 : P45 = 5 * (y8 * r2) := by rw [hP45, Nat.mul_assoc]
  clear hP45
  refine v_laddN g dX6_addPiece_109 ?_
  obtain ⟨y46, hy46⟩ : ∃ z : Nat, z = y38 + P45 := ⟨_, rfl⟩
  refine v_lastL g y46 (by rw [hy46]) (v5 y46 y40 y32 y42 y44) (v5_u0 _ _ _ _ _ _) 3 [(a0, .inr (6, [.ref a0_a, .ref a0_r, .ref a0_product, .ref a0_s, .ref a0_piece])), (a0_a, aL C.D 5 (v5 y2 y4 y6 y8 y10)), (a0_r, aL C.D 5 (v5 r0 r1 r2 r3 r4)), (a0_product, aL C.D 5 (v5 y46 y40 y32 y42 y44)), (a0_piece, aB C.D 17 t_a0_piece)] rfl (by decide) (by decide) dX6_addPiece_110 rfl ?_
  refine v_iincN g 1 [(2, .int (nI 3)), (3, .int (nI 5)), (1, .int (nI 3)), (0, .ref a0)] dX6_addPiece_111 1 rfl (by decide +kernel) (by decide) rfl ?_
  refine v_goto g 44 dX6_addPiece_114 (by decide) ?_
  refine v_iload_n g dX6_addPiece_44 2 rfl 0 rfl ?_
  refine v_iconst g dX6_addPiece_45 (v := nI 5) (by decide +kernel) ?_
  refine v_icmp_geN g 117 dX6_addPiece_46 (by decide) (by decide) (by decide) (fun h => absurd h (by decide)) (fun _ => ?_)
  refine v_iload_n g dX6_addPiece_49 1 rfl 2 rfl ?_
  refine v_iload_n g dX6_addPiece_50 2 rfl 0 rfl ?_
  refine v_iaddN g dX6_addPiece_51 ?_
  refine v_toi (nI 6) rfl ?_
  refine v_istore_n g [(3, .int (nI 6)), (2, .int (nI 3)), (1, .int (nI 3)), (0, .ref a0)] dX6_addPiece_52 3 rfl (by decide) rfl ?_
  refine v_iload_n g dX6_addPiece_53 3 rfl 0 rfl ?_
  refine v_iconst g dX6_addPiece_54 (v := nI 5) (by decide +kernel) ?_
  refine v_icmp_geN g 83 dX6_addPiece_55 (by decide) (by decide) (by decide) (fun _ => ?_) (fun h => absurd h (by decide))
  refine v_aload_n g dX6_addPiece_83 0 rfl 3 rfl ?_
  refine gf_X6_18 g dX6_addPiece_84 0 rfl rfl ?_
  refine v_iload_n g dX6_addPiece_87 3 rfl 0 rfl ?_
  refine v_iconst g dX6_addPiece_88 (v := nI 5) (by decide +kernel) ?_
  refine v_isubN g dX6_addPiece_89 (by decide) ?_
  refine v_toi (nI 1) rfl ?_
  refine v_dup2 g dX6_addPiece_90 rfl rfl ?_
  refine v_laldL g 3 rfl (by decide) (by decide) dX6_addPiece_91 ?_
  refine v_tol (lN y40) rfl ?_
  refine v_ldc2 g dX6_addPiece_92 kl_X6_64 ?_
  refine v_aload_n g dX6_addPiece_95 0 rfl 3 rfl ?_
  refine gf_X6_11 g dX6_addPiece_96 0 rfl rfl ?_
  refine v_iload_n g dX6_addPiece_99 1 rfl 2 rfl ?_
  refine v_laldL g 1 rfl (by decide) (by decide) dX6_addPiece_100 ?_
  refine v_tol (lN y8) rfl ?_
  refine v_lmulN g dX6_addPiece_101 ?_
  refine v_aload_n g dX6_addPiece_102 0 rfl 3 rfl ?_
  refine gf_X6_15 g dX6_addPiece_103 0 rfl rfl ?_
  refine v_iload_n g dX6_addPiece_106 2 rfl 1 rfl ?_
  refine v_laldL g 2 rfl (by decide) (by decide) dX6_addPiece_107 ?_
  refine v_tol (lN r3) rfl ?_
  refine v_lmulN g dX6_addPiece_108 ?_
  refine v_nmL (fun P47 hP47 => ?_)
  have eP47 : P47 = 5 * (y8 * r3) := by rw [hP47, Nat.mul_assoc]
  clear hP47
  refine v_laddN g dX6_addPiece_109 ?_
  obtain ⟨y48, hy48⟩ : ∃ z : Nat, z = y40 + P47 := ⟨_, rfl⟩
  refine v_lastL g y48 (by rw [hy48]) (v5 y46 y48 y32 y42 y44) (v5_u1 _ _ _ _ _ _) 3 [(a0, .inr (6, [.ref a0_a, .ref a0_r, .ref a0_product, .ref a0_s, .ref a0_piece])), (a0_a, aL C.D 5 (v5 y2 y4 y6 y8 y10)), (a0_r, aL C.D 5 (v5 r0 r1 r2 r3 r4)), (a0_product, aL C.D 5 (v5 y46 y48 y32 y42 y44)), (a0_piece, aB C.D 17 t_a0_piece)] rfl (by decide) (by decide) dX6_addPiece_110 rfl ?_
  refine v_iincN g 1 [(2, .int (nI 4)), (3, .int (nI 6)), (1, .int (nI 3)), (0, .ref a0)] dX6_addPiece_111 1 rfl (by decide +kernel) (by decide) rfl ?_
  refine v_goto g 44 dX6_addPiece_114 (by decide) ?_
  refine v_iload_n g dX6_addPiece_44 2 rfl 0 rfl ?_
  refine v_iconst g dX6_addPiece_45 (v := nI 5) (by decide +kernel) ?_
  refine v_icmp_geN g 117 dX6_addPiece_46 (by decide) (by decide) (by decide) (fun h => absurd h (by decide)) (fun _ => ?_)
  refine v_iload_n g dX6_addPiece_49 1 rfl 2 rfl ?_
  refine v_iload_n g dX6_addPiece_50 2 rfl 0 rfl ?_
  refine v_iaddN g dX6_addPiece_51 ?_
  refine v_toi (nI 7) rfl ?_
  refine v_istore_n g [(3, .int (nI 7)), (2, .int (nI 4)), (1, .int (nI 3)), (0, .ref a0)] dX6_addPiece_52 3 rfl (by decide) rfl ?_
  refine v_iload_n g dX6_addPiece_53 3 rfl 0 rfl ?_
  refine v_iconst g dX6_addPiece_54 (v := nI 5) (by decide +kernel) ?_
  refine v_icmp_geN g 83 dX6_addPiece_55 (by decide) (by decide) (by decide) (fun _ => ?_) (fun h => absurd h (by decide))
  refine v_aload_n g dX6_addPiece_83 0 rfl 3 rfl ?_
  refine gf_X6_18 g dX6_addPiece_84 0 rfl rfl ?_
  refine v_iload_n g dX6_addPiece_87 3 rfl 0 rfl ?_
  refine v_iconst g dX6_addPiece_88 (v := nI 5) (by decide +kernel) ?_
  refine v_isubN g dX6_addPiece_89 (by decide) ?_
  refine v_toi (nI 2) rfl ?_
  refine v_dup2 g dX6_addPiece_90 rfl rfl ?_
  refine v_laldL g 3 rfl (by decide) (by decide) dX6_addPiece_91 ?_
  refine v_tol (lN y32) rfl ?_
  refine v_ldc2 g dX6_addPiece_92 kl_X6_64 ?_
  refine v_aload_n g dX6_addPiece_95 0 rfl 3 rfl ?_
  refine gf_X6_11 g dX6_addPiece_96 0 rfl rfl ?_
  refine v_iload_n g dX6_addPiece_99 1 rfl 2 rfl ?_
  refine v_laldL g 1 rfl (by decide) (by decide) dX6_addPiece_100 ?_
  refine v_tol (lN y8) rfl ?_
  refine v_lmulN g dX6_addPiece_101 ?_
  refine v_aload_n g dX6_addPiece_102 0 rfl 3 rfl ?_
  refine gf_X6_15 g dX6_addPiece_103 0 rfl rfl ?_
  refine v_iload_n g dX6_addPiece_106 2 rfl 1 rfl ?_
  refine v_laldL g 2 rfl (by decide) (by decide) dX6_addPiece_107 ?_
  refine v_tol (lN r4) rfl ?_
  refine v_lmulN g dX6_addPiece_108 ?_
  refine v_nmL (fun P49 hP49 => ?_)
  have eP49 : P49 = 5 * (y8 * r4) := by rw [hP49, Nat.mul_assoc]
  clear hP49
  refine v_laddN g dX6_addPiece_109 ?_
  obtain ⟨y50, hy50⟩ : ∃ z : Nat, z = y32 + P49 := ⟨_, rfl⟩
  refine v_lastL g y50 (by rw [hy50]) (v5 y46 y48 y50 y42 y44) (v5_u2 _ _ _ _ _ _) 3 [(a0, .inr (6, [.ref a0_a, .ref a0_r, .ref a0_product, .ref a0_s, .ref a0_piece])), (a0_a, aL C.D 5 (v5 y2 y4 y6 y8 y10)), (a0_r, aL C.D 5 (v5 r0 r1 r2 r3 r4)), (a0_product, aL C.D 5 (v5 y46 y48 y50 y42 y44)), (a0_piece, aB C.D 17 t_a0_piece)] rfl (by decide) (by decide) dX6_addPiece_110 rfl ?_
  refine v_iincN g 1 [(2, .int (nI 5)), (3, .int (nI 7)), (1, .int (nI 3)), (0, .ref a0)] dX6_addPiece_111 1 rfl (by decide +kernel) (by decide) rfl ?_
  refine v_goto g 44 dX6_addPiece_114 (by decide) ?_
  refine v_iload_n g dX6_addPiece_44 2 rfl 0 rfl ?_
  refine v_iconst g dX6_addPiece_45 (v := nI 5) (by decide +kernel) ?_
  refine v_icmp_geN g 117 dX6_addPiece_46 (by decide) (by decide) (by decide) (fun _ => ?_) (fun h => absurd h (by decide))
  refine v_iincN g 1 [(1, .int (nI 4)), (2, .int (nI 5)), (3, .int (nI 7)), (0, .ref a0)] dX6_addPiece_117 2 rfl (by decide +kernel) (by decide) rfl ?_
  refine v_goto g 37 dX6_addPiece_120 (by decide) ?_
  refine v_iload_n g dX6_addPiece_37 1 rfl 0 rfl ?_
  refine v_iconst g dX6_addPiece_38 (v := nI 5) (by decide +kernel) ?_
  refine v_icmp_geN g 123 dX6_addPiece_39 (by decide) (by decide) (by decide) (fun h => absurd h (by decide)) (fun _ => ?_)
  refine v_iconst g dX6_addPiece_42 (v := nI 0) (by decide +kernel) ?_
  refine v_istore_n g [(2, .int (nI 0)), (1, .int (nI 4)), (3, .int (nI 7)), (0, .ref a0)] dX6_addPiece_43 2 rfl (by decide) rfl ?_
  refine v_iload_n g dX6_addPiece_44 2 rfl 0 rfl ?_
  refine v_iconst g dX6_addPiece_45 (v := nI 5) (by decide +kernel) ?_
  refine v_icmp_geN g 117 dX6_addPiece_46 (by decide) (by decide) (by decide) (fun h => absurd h (by decide)) (fun _ => ?_)
  refine v_iload_n g dX6_addPiece_49 1 rfl 1 rfl ?_
  refine v_iload_n g dX6_addPiece_50 2 rfl 0 rfl ?_
  refine v_iaddN g dX6_addPiece_51 ?_
  refine v_toi (nI 4) rfl ?_
  refine v_istore_n g [(3, .int (nI 4)), (2, .int (nI 0)), (1, .int (nI 4)), (0, .ref a0)] dX6_addPiece_52 3 rfl (by decide) rfl ?_
  refine v_iload_n g dX6_addPiece_53 3 rfl 0 rfl ?_
  refine v_iconst g dX6_addPiece_54 (v := nI 5) (by decide +kernel) ?_
  refine v_icmp_geN g 83 dX6_addPiece_55 (by decide) (by decide) (by decide) (fun h => absurd h (by decide)) (fun _ => ?_)
  refine v_aload_n g dX6_addPiece_58 0 rfl 3 rfl ?_
  refine gf_X6_18 g dX6_addPiece_59 0 rfl rfl ?_
  refine v_iload_n g dX6_addPiece_62 3 rfl 0 rfl ?_
  refine v_dup2 g dX6_addPiece_63 rfl rfl ?_
  refine v_laldL g 3 rfl (by decide) (by decide) dX6_addPiece_64 ?_
  refine v_tol (lN y44) rfl ?_
  refine v_aload_n g dX6_addPiece_65 0 rfl 3 rfl ?_
  refine gf_X6_11 g dX6_addPiece_66 0 rfl rfl ?_
  refine v_iload_n g dX6_addPiece_69 1 rfl 2 rfl ?_
  refine v_laldL g 1 rfl (by decide) (by decide) dX6_addPiece_70 ?_
  refine v_tol (lN y10) rfl ?_
  refine v_aload_n g dX6_addPiece_71 0 rfl 3 rfl ?_
  refine gf_X6_15 g dX6_addPiece_72 0 rfl rfl ?_
  refine v_iload_n g dX6_addPiece_75 2 rfl 1 rfl ?_
  refine v_laldL g 2 rfl (by decide) (by decide) dX6_addPiece_76 ?_
  refine v_tol (lN r0) rfl ?_
  refine v_lmulN g dX6_addPiece_77 ?_
  refine v_nmL (fun P51 hP51 => ?_)
  have eP51 : P51 = y10 * r0 := hP51
  clear hP51
  refine v_laddN g dX6_addPiece_78 ?_
  obtain ⟨y52, hy52⟩ : ∃ z : Nat, z = y44 + P51 := ⟨_, rfl⟩
  refine v_lastL g y52 (by rw [hy52]) (v5 y46 y48 y50 y42 y52) (v5_u4 _ _ _ _ _ _) 3 [(a0, .inr (6, [.ref a0_a, .ref a0_r, .ref a0_product, .ref a0_s, .ref a0_piece])), (a0_a, aL C.D 5 (v5 y2 y4 y6 y8 y10)), (a0_r, aL C.D 5 (v5 r0 r1 r2 r3 r4)), (a0_product, aL C.D 5 (v5 y46 y48 y50 y42 y52)), (a0_piece, aB C.D 17 t_a0_piece)] rfl (by decide) (by decide) dX6_addPiece_79 rfl ?_
  refine v_goto g 111 dX6_addPiece_80 (by decide) ?_
  refine v_iincN g 1 [(2, .int (nI 1)), (3, .int (nI 4)), (1, .int (nI 4)), (0, .ref a0)] dX6_addPiece_111 1 rfl (by decide +kernel) (by decide) rfl ?_
  refine v_goto g 44 dX6_addPiece_114 (by decide) ?_
  refine v_iload_n g dX6_addPiece_44 2 rfl 0 rfl ?_
  refine v_iconst g dX6_addPiece_45 (v := nI 5) (by decide +kernel) ?_
  refine v_icmp_geN g 117 dX6_addPiece_46 (by decide) (by decide) (by decide) (fun h => absurd h (by decide)) (fun _ => ?_)
  refine v_iload_n g dX6_addPiece_49 1 rfl 2 rfl ?_
  refine v_iload_n g dX6_addPiece_50 2 rfl 0 rfl ?_
  refine v_iaddN g dX6_addPiece_51 ?_
  refine v_toi (nI 5) rfl ?_
  refine v_istore_n g [(3, .int (nI 5)), (2, .int (nI 1)), (1, .int (nI 4)), (0, .ref a0)] dX6_addPiece_52 3 rfl (by decide) rfl ?_
  refine v_iload_n g dX6_addPiece_53 3 rfl 0 rfl ?_
  refine v_iconst g dX6_addPiece_54 (v := nI 5) (by decide +kernel) ?_
  refine v_icmp_geN g 83 dX6_addPiece_55 (by decide) (by decide) (by decide) (fun _ => ?_) (fun h => absurd h (by decide))
  refine v_aload_n g dX6_addPiece_83 0 rfl 3 rfl ?_
  refine gf_X6_18 g dX6_addPiece_84 0 rfl rfl ?_
  refine v_iload_n g dX6_addPiece_87 3 rfl 0 rfl ?_
  refine v_iconst g dX6_addPiece_88 (v := nI 5) (by decide +kernel) ?_
  refine v_isubN g dX6_addPiece_89 (by decide) ?_
  refine v_toi (nI 0) rfl ?_
  refine v_dup2 g dX6_addPiece_90 rfl rfl ?_
  refine v_laldL g 3 rfl (by decide) (by decide) dX6_addPiece_91 ?_
  refine v_tol (lN y46) rfl ?_
  refine v_ldc2 g dX6_addPiece_92 kl_X6_64 ?_
  refine v_aload_n g dX6_addPiece_95 0 rfl 3 rfl ?_
  refine gf_X6_11 g dX6_addPiece_96 0 rfl rfl ?_
  refine v_iload_n g dX6_addPiece_99 1 rfl 2 rfl ?_
  refine v_laldL g 1 rfl (by decide) (by decide) dX6_addPiece_100 ?_
  refine v_tol (lN y10) rfl ?_
  refine v_lmulN g dX6_addPiece_101 ?_
  refine v_aload_n g dX6_addPiece_102 0 rfl 3 rfl ?_
  refine gf_X6_15 g dX6_addPiece_103 0 rfl rfl ?_
  refine v_iload_n g dX6_addPiece_106 2 rfl 1 rfl ?_
  refine v_laldL g 2 rfl (by decide) (by decide) dX6_addPiece_107 ?_
  refine v_tol (lN r1) rfl ?_
  refine v_lmulN g dX6_addPiece_108 ?_
  refine v_nmL (fun P53 hP53 => ?_)
  have eP53 : P53 = 5 * (y10 * r1) := by rw [hP53, Nat.mul_assoc]
  clear hP53
  refine v_laddN g dX6_addPiece_109 ?_
  obtain ⟨y54, hy54⟩ : ∃ z : Nat, z = y46 + P53 := ⟨_, rfl⟩
  refine v_lastL g y54 (by rw [hy54]) (v5 y54 y48 y50 y42 y52) (v5_u0 _ _ _ _ _ _) 3 [(a0, .inr (6, [.ref a0_a, .ref a0_r, .ref a0_product, .ref a0_s, .ref a0_piece])), (a0_a, aL C.D 5 (v5 y2 y4 y6 y8 y10)), (a0_r, aL C.D 5 (v5 r0 r1 r2 r3 r4)), (a0_product, aL C.D 5 (v5 y54 y48 y50 y42 y52)), (a0_piece, aB C.D 17 t_a0_piece)] rfl (by decide) (by decide) dX6_addPiece_110 rfl ?_
  refine v_iincN g 1 [(2, .int (nI 2)), (3, .int (nI 5)), (1, .int (nI 4)), (0, .ref a0)] dX6_addPiece_111 1 rfl (by decide +kernel) (by decide) rfl ?_
  refine v_goto g 44 dX6_addPiece_114 (by decide) ?_
  refine v_iload_n g dX6_addPiece_44 2 rfl 0 rfl ?_
  refine v_iconst g dX6_addPiece_45 (v := nI 5) (by decide +kernel) ?_
  refine v_icmp_geN g 117 dX6_addPiece_46 (by decide) (by decide) (by decide) (fun h => absurd h (by decide)) (fun _ => ?_)
  refine v_iload_n g dX6_addPiece_49 1 rfl 2 rfl ?_
  refine v_iload_n g dX6_addPiece_50 2 rfl 0 rfl ?_
  refine v_iaddN g dX6_addPiece_51 ?_
  refine v_toi (nI 6) rfl ?_
  refine v_istore_n g [(3, .int (nI 6)), (2, .int (nI 2)), (1, .int (nI 4)), (0, .ref a0)] dX6_addPiece_52 3 rfl (by decide) rfl ?_
  refine v_iload_n g dX6_addPiece_53 3 rfl 0 rfl ?_
  refine v_iconst g dX6_addPiece_54 (v := nI 5) (by decide +kernel) ?_
  refine v_icmp_geN g 83 dX6_addPiece_55 (by decide) (by decide) (by decide) (fun _ => ?_) (fun h => absurd h (by decide))
  refine v_aload_n g dX6_addPiece_83 0 rfl 3 rfl ?_
  refine gf_X6_18 g dX6_addPiece_84 0 rfl rfl ?_
  refine v_iload_n g dX6_addPiece_87 3 rfl 0 rfl ?_
  refine v_iconst g dX6_addPiece_88 (v := nI 5) (by decide +kernel) ?_
  refine v_isubN g dX6_addPiece_89 (by decide) ?_
  refine v_toi (nI 1) rfl ?_
  refine v_dup2 g dX6_addPiece_90 rfl rfl ?_
  refine v_laldL g 3 rfl (by decide) (by decide) dX6_addPiece_91 ?_
  refine v_tol (lN y48) rfl ?_
  refine v_ldc2 g dX6_addPiece_92 kl_X6_64 ?_
  refine v_aload_n g dX6_addPiece_95 0 rfl 3 rfl ?_
  refine gf_X6_11 g dX6_addPiece_96 0 rfl rfl ?_
  refine v_iload_n g dX6_addPiece_99 1 rfl 2 rfl ?_
  refine v_laldL g 1 rfl (by decide) (by decide) dX6_addPiece_100 ?_
  refine v_tol (lN y10) rfl ?_
  refine v_lmulN g dX6_addPiece_101 ?_
  refine v_aload_n g dX6_addPiece_102 0 rfl 3 rfl ?_
  refine gf_X6_15 g dX6_addPiece_103 0 rfl rfl ?_
  refine v_iload_n g dX6_addPiece_106 2 rfl 1 rfl ?_
  refine v_laldL g 2 rfl (by decide) (by decide) dX6_addPiece_107 ?_
  refine v_tol (lN r2) rfl ?_
  refine v_lmulN g dX6_addPiece_108 ?_
  refine v_nmL (fun P55 hP55 => ?_)
  have eP55 : P55 = 5 * (y10 * r2) := by rw [hP55, Nat.mul_assoc]
  clear hP55
  refine v_laddN g dX6_addPiece_109 ?_
  obtain ⟨y56, hy56⟩ : ∃ z : Nat, z = y48 + P55 := ⟨_, rfl⟩
  refine v_lastL g y56 (by rw [hy56]) (v5 y54 y56 y50 y42 y52) (v5_u1 _ _ _ _ _ _) 3 [(a0, .inr (6, [.ref a0_a, .ref a0_r, .ref a0_product, .ref a0_s, .ref a0_piece])), (a0_a, aL C.D 5 (v5 y2 y4 y6 y8 y10)), (a0_r, aL C.D 5 (v5 r0 r1 r2 r3 r4)), (a0_product, aL C.D 5 (v5 y54 y56 y50 y42 y52)), (a0_piece, aB C.D 17 t_a0_piece)] rfl (by decide) (by decide) dX6_addPiece_110 rfl ?_
  refine v_iincN g 1 [(2, .int (nI 3)), (3, .int (nI 6)), (1, .int (nI 4)), (0, .ref a0)] dX6_addPiece_111 1 rfl (by decide +kernel) (by decide) rfl ?_
  refine v_goto g 44 dX6_addPiece_114 (by decide) ?_
  refine v_iload_n g dX6_addPiece_44 2 rfl 0 rfl ?_
  refine v_iconst g dX6_addPiece_45 (v := nI 5) (by decide +kernel) ?_
  refine v_icmp_geN g 117 dX6_addPiece_46 (by decide) (by decide) (by decide) (fun h => absurd h (by decide)) (fun _ => ?_)
  refine v_iload_n g dX6_addPiece_49 1 rfl 2 rfl ?_
  refine v_iload_n g dX6_addPiece_50 2 rfl 0 rfl ?_
  refine v_iaddN g dX6_addPiece_51 ?_
  refine v_toi (nI 7) rfl ?_
  refine v_istore_n g [(3, .int (nI 7)), (2, .int (nI 3)), (1, .int (nI 4)), (0, .ref a0)] dX6_addPiece_52 3 rfl (by decide) rfl ?_
  refine v_iload_n g dX6_addPiece_53 3 rfl 0 rfl ?_
  refine v_iconst g dX6_addPiece_54 (v := nI 5) (by decide +kernel) ?_
  refine v_icmp_geN g 83 dX6_addPiece_55 (by decide) (by decide) (by decide) (fun _ => ?_) (fun h => absurd h (by decide))
  refine v_aload_n g dX6_addPiece_83 0 rfl 3 rfl ?_
  refine gf_X6_18 g dX6_addPiece_84 0 rfl rfl ?_
  refine v_iload_n g dX6_addPiece_87 3 rfl 0 rfl ?_
  refine v_iconst g dX6_addPiece_88 (v := nI 5) (by decide +kernel) ?_
  refine v_isubN g dX6_addPiece_89 (by decide) ?_
  refine v_toi (nI 2) rfl ?_
  refine v_dup2 g dX6_addPiece_90 rfl rfl ?_
  refine v_laldL g 3 rfl (by decide) (by decide) dX6_addPiece_91 ?_
  refine v_tol (lN y50) rfl ?_
  refine v_ldc2 g dX6_addPiece_92 kl_X6_64 ?_
  refine v_aload_n g dX6_addPiece_95 0 rfl 3 rfl ?_
  refine gf_X6_11 g dX6_addPiece_96 0 rfl rfl ?_
  refine v_iload_n g dX6_addPiece_99 1 rfl 2 rfl ?_
  refine v_laldL g 1 rfl (by decide) (by decide) dX6_addPiece_100 ?_
  refine v_tol (lN y10) rfl ?_
  refine v_lmulN g dX6_addPiece_101 ?_
  refine v_aload_n g dX6_addPiece_102 0 rfl 3 rfl ?_
  refine gf_X6_15 g dX6_addPiece_103 0 rfl rfl ?_
  refine v_iload_n g dX6_addPiece_106 2 rfl 1 rfl ?_
  refine v_laldL g 2 rfl (by decide) (by decide) dX6_addPiece_107 ?_
  refine v_tol (lN r3) rfl ?_
  refine v_lmulN g dX6_addPiece_108 ?_
  refine v_nmL (fun P57 hP57 => ?_)
  have eP57 : P57 = 5 * (y10 * r3) := by rw [hP57, Nat.mul_assoc]
  clear hP57
  refine v_laddN g dX6_addPiece_109 ?_
  obtain ⟨y58, hy58⟩ : ∃ z : Nat, z = y50 + P57 := ⟨_, rfl⟩
  refine v_lastL g y58 (by rw [hy58]) (v5 y54 y56 y58 y42 y52) (v5_u2 _ _ _ _ _ _) 3 [(a0, .inr (6, [.ref a0_a, .ref a0_r, .ref a0_product, .ref a0_s, .ref a0_piece])), (a0_a, aL C.D 5 (v5 y2 y4 y6 y8 y10)), (a0_r, aL C.D 5 (v5 r0 r1 r2 r3 r4)), (a0_product, aL C.D 5 (v5 y54 y56 y58 y42 y52)), (a0_piece, aB C.D 17 t_a0_piece)] rfl (by decide) (by decide) dX6_addPiece_110 rfl ?_
  refine v_iincN g 1 [(2, .int (nI 4)), (3, .int (nI 7)), (1, .int (nI 4)), (0, .ref a0)] dX6_addPiece_111 1 rfl (by decide +kernel) (by decide) rfl ?_
  refine v_goto g 44 dX6_addPiece_114 (by decide) ?_
  refine v_iload_n g dX6_addPiece_44 2 rfl 0 rfl ?_
  refine v_iconst g dX6_addPiece_45 (v := nI 5) (by decide +kernel) ?_
  refine v_icmp_geN g 117 dX6_addPiece_46 (by decide) (by decide) (by decide) (fun h => absurd h (by decide)) (fun _ => ?_)
  refine v_iload_n g dX6_addPiece_49 1 rfl 2 rfl ?_
  refine v_iload_n g dX6_addPiece_50 2 rfl 0 rfl ?_
  refine v_iaddN g dX6_addPiece_51 ?_
  refine v_toi (nI 8) rfl ?_
  refine v_istore_n g [(3, .int (nI 8)), (2, .int (nI 4)), (1, .int (nI 4)), (0, .ref a0)] dX6_addPiece_52 3 rfl (by decide) rfl ?_
  refine v_iload_n g dX6_addPiece_53 3 rfl 0 rfl ?_
  refine v_iconst g dX6_addPiece_54 (v := nI 5) (by decide +kernel) ?_
  refine v_icmp_geN g 83 dX6_addPiece_55 (by decide) (by decide) (by decide) (fun _ => ?_) (fun h => absurd h (by decide))
  refine v_aload_n g dX6_addPiece_83 0 rfl 3 rfl ?_
  refine gf_X6_18 g dX6_addPiece_84 0 rfl rfl ?_
  refine v_iload_n g dX6_addPiece_87 3 rfl 0 rfl ?_
  refine v_iconst g dX6_addPiece_88 (v := nI 5) (by decide +kernel) ?_
  refine v_isubN g dX6_addPiece_89 (by decide) ?_
  refine v_toi (nI 3) rfl ?_
  refine v_dup2 g dX6_addPiece_90 rfl rfl ?_
  refine v_laldL g 3 rfl (by decide) (by decide) dX6_addPiece_91 ?_
  refine v_tol (lN y42) rfl ?_
  refine v_ldc2 g dX6_addPiece_92 kl_X6_64 ?_
  refine v_aload_n g dX6_addPiece_95 0 rfl 3 rfl ?_
  refine gf_X6_11 g dX6_addPiece_96 0 rfl rfl ?_
  refine v_iload_n g dX6_addPiece_99 1 rfl 2 rfl ?_
  refine v_laldL g 1 rfl (by decide) (by decide) dX6_addPiece_100 ?_
  refine v_tol (lN y10) rfl ?_
  refine v_lmulN g dX6_addPiece_101 ?_
  refine v_aload_n g dX6_addPiece_102 0 rfl 3 rfl ?_
  refine gf_X6_15 g dX6_addPiece_103 0 rfl rfl ?_
  refine v_iload_n g dX6_addPiece_106 2 rfl 1 rfl ?_
  refine v_laldL g 2 rfl (by decide) (by decide) dX6_addPiece_107 ?_
  refine v_tol (lN r4) rfl ?_
  refine v_lmulN g dX6_addPiece_108 ?_
  refine v_nmL (fun P59 hP59 => ?_)
  have eP59 : P59 = 5 * (y10 * r4) := by rw [hP59, Nat.mul_assoc]
  clear hP59
  refine v_laddN g dX6_addPiece_109 ?_
  obtain ⟨y60, hy60⟩ : ∃ z : Nat, z = y42 + P59 := ⟨_, rfl⟩
  refine v_lastL g y60 (by rw [hy60]) (v5 y54 y56 y58 y60 y52) (v5_u3 _ _ _ _ _ _) 3 [(a0, .inr (6, [.ref a0_a, .ref a0_r, .ref a0_product, .ref a0_s, .ref a0_piece])), (a0_a, aL C.D 5 (v5 y2 y4 y6 y8 y10)), (a0_r, aL C.D 5 (v5 r0 r1 r2 r3 r4)), (a0_product, aL C.D 5 (v5 y54 y56 y58 y60 y52)), (a0_piece, aB C.D 17 t_a0_piece)] rfl (by decide) (by decide) dX6_addPiece_110 rfl ?_
  refine v_iincN g 1 [(2, .int (nI 5)), (3, .int (nI 8)), (1, .int (nI 4)), (0, .ref a0)] dX6_addPiece_111 1 rfl (by decide +kernel) (by decide) rfl ?_
  refine v_goto g 44 dX6_addPiece_114 (by decide) ?_
  refine v_iload_n g dX6_addPiece_44 2 rfl 0 rfl ?_
  refine v_iconst g dX6_addPiece_45 (v := nI 5) (by decide +kernel) ?_
  refine v_icmp_geN g 117 dX6_addPiece_46 (by decide) (by decide) (by decide) (fun _ => ?_) (fun h => absurd h (by decide))
  refine v_iincN g 1 [(1, .int (nI 5)), (2, .int (nI 5)), (3, .int (nI 8)), (0, .ref a0)] dX6_addPiece_117 2 rfl (by decide +kernel) (by decide) rfl ?_
  refine v_goto g 37 dX6_addPiece_120 (by decide) ?_
  refine v_iload_n g dX6_addPiece_37 1 rfl 0 rfl ?_
  refine v_iconst g dX6_addPiece_38 (v := nI 5) (by decide +kernel) ?_
  refine v_icmp_geN g 123 dX6_addPiece_39 (by decide) (by decide) (by decide) (fun _ => ?_) (fun h => absurd h (by decide))
  refine v_aload_n g dX6_addPiece_123 0 rfl 3 rfl ?_
  refine gf_X6_18 g dX6_addPiece_124 0 rfl rfl ?_
  refine v_iconst g dX6_addPiece_127 (v := nI 0) (by decide +kernel) ?_
  refine v_aload_n g dX6_addPiece_128 0 rfl 3 rfl ?_
  refine gf_X6_11 g dX6_addPiece_129 0 rfl rfl ?_
  refine v_iconst g dX6_addPiece_132 (v := nI 0) (by decide +kernel) ?_
  refine v_iconst g dX6_addPiece_133 (v := nI 5) (by decide +kernel) ?_
  refine v_acpL g ac_X6_28 (v5 y54 y56 y58 y60 y52) (v5_cp _ _ _ _ _ _ _ _ _ _) 3 1 [(a0, .inr (6, [.ref a0_a, .ref a0_r, .ref a0_product, .ref a0_s, .ref a0_piece])), (a0_a, aL C.D 5 (v5 y54 y56 y58 y60 y52)), (a0_r, aL C.D 5 (v5 r0 r1 r2 r3 r4)), (a0_product, aL C.D 5 (v5 y54 y56 y58 y60 y52)), (a0_piece, aB C.D 17 t_a0_piece)] rfl rfl (by decide) (by decide) (by decide) (by decide) (by decide) (Nat.le_of_ble_eq_true rfl) dX6_addPiece_134 rfl ?_
  refine v_aload_n g dX6_addPiece_137 0 rfl 3 rfl ?_
  have b00 : y2 * r0 ≤ 2 ^ 28 * 2 ^ 26 := Nat.mul_le_mul (by omega) (by omega)
  have b01 : y2 * r1 ≤ 2 ^ 28 * 2 ^ 26 := Nat.mul_le_mul (by omega) (by omega)
  have b02 : y2 * r2 ≤ 2 ^ 28 * 2 ^ 26 := Nat.mul_le_mul (by omega) (by omega)
  have b03 : y2 * r3 ≤ 2 ^ 28 * 2 ^ 26 := Nat.mul_le_mul (by omega) (by omega)
  have b04 : y2 * r4 ≤ 2 ^ 28 * 2 ^ 26 := Nat.mul_le_mul (by omega) (by omega)
  have b10 : y4 * r0 ≤ 2 ^ 28 * 2 ^ 26 := Nat.mul_le_mul (by omega) (by omega)
  have b11 : y4 * r1 ≤ 2 ^ 28 * 2 ^ 26 := Nat.mul_le_mul (by omega) (by omega)
  have b12 : y4 * r2 ≤ 2 ^ 28 * 2 ^ 26 := Nat.mul_le_mul (by omega) (by omega)
  have b13 : y4 * r3 ≤ 2 ^ 28 * 2 ^ 26 := Nat.mul_le_mul (by omega) (by omega)
  have b14 : y4 * r4 ≤ 2 ^ 28 * 2 ^ 26 := Nat.mul_le_mul (by omega) (by omega)
  have b20 : y6 * r0 ≤ 2 ^ 28 * 2 ^ 26 := Nat.mul_le_mul (by omega) (by omega)
  have b21 : y6 * r1 ≤ 2 ^ 28 * 2 ^ 26 := Nat.mul_le_mul (by omega) (by omega)
  have b22 : y6 * r2 ≤ 2 ^ 28 * 2 ^ 26 := Nat.mul_le_mul (by omega) (by omega)
  have b23 : y6 * r3 ≤ 2 ^ 28 * 2 ^ 26 := Nat.mul_le_mul (by omega) (by omega)
  have b24 : y6 * r4 ≤ 2 ^ 28 * 2 ^ 26 := Nat.mul_le_mul (by omega) (by omega)
  have b30 : y8 * r0 ≤ 2 ^ 28 * 2 ^ 26 := Nat.mul_le_mul (by omega) (by omega)
  have b31 : y8 * r1 ≤ 2 ^ 28 * 2 ^ 26 := Nat.mul_le_mul (by omega) (by omega)
  have b32 : y8 * r2 ≤ 2 ^ 28 * 2 ^ 26 := Nat.mul_le_mul (by omega) (by omega)
  have b33 : y8 * r3 ≤ 2 ^ 28 * 2 ^ 26 := Nat.mul_le_mul (by omega) (by omega)
  have b34 : y8 * r4 ≤ 2 ^ 28 * 2 ^ 26 := Nat.mul_le_mul (by omega) (by omega)
  have b40 : y10 * r0 ≤ 2 ^ 28 * 2 ^ 26 := Nat.mul_le_mul (by omega) (by omega)
  have b41 : y10 * r1 ≤ 2 ^ 28 * 2 ^ 26 := Nat.mul_le_mul (by omega) (by omega)
  have b42 : y10 * r2 ≤ 2 ^ 28 * 2 ^ 26 := Nat.mul_le_mul (by omega) (by omega)
  have b43 : y10 * r3 ≤ 2 ^ 28 * 2 ^ 26 := Nat.mul_le_mul (by omega) (by omega)
  have b44 : y10 * r4 ≤ 2 ^ 28 * 2 ^ 26 := Nat.mul_le_mul (by omega) (by omega)
  refine v_callV (As := []) (rest := []) (wr := [(a0_r, aL C.D 5 (v5 r0 r1 r2 r3 r4)), (a0_product, aL C.D 5 (v5 y54 y56 y58 y60 y52)), (a0_piece, aB C.D 17 t_a0_piece)]) cw_X6_53 (hy_X6_carry) g (c_TL_carry C.l C.D a0 a0_a a0_r a0_product a0_s a0_piece y54 y56 y58 y60 y52 (by omega) (by omega) (by omega) (by omega) (by omega)) dX6_addPiece_138 0 rfl rfl rfl (by decide) (by decide) (Nat.le_of_ble_eq_true rfl) [0, 1] [2, 3, 4] rfl rfl (by decide) rfl (by decide) (by decide) _ rfl (fun r wo hp61 => ?_)
  obtain ⟨m0, m1, m2, m3, m4, cA0, cA1, cA2, cA3, cA4, rfl, rfl, hA0, hA1, hA2, hA3, hA4, hA5, hA6, hA7, hA8, hA9⟩ := hp61
  refine v_perm [3, 4, 0, 1, 2] [(a0, .inr (6, [.ref a0_a, .ref a0_r, .ref a0_product, .ref a0_s, .ref a0_piece])), (a0_a, aL C.D 5 (v5 m0 m1 m2 m3 m4)), (a0_r, aL C.D 5 (v5 r0 r1 r2 r3 r4)), (a0_product, aL C.D 5 (v5 y54 y56 y58 y60 y52)), (a0_piece, aB C.D 17 t_a0_piece)] (by decide) rfl rfl ?_
  show VJ C 0 0 141 [(1, .int (nI 5)), (2, .int (nI 5)), (3, .int (nI 8)), (0, .ref a0)] [] [(a0, .inr (6, [.ref a0_a, .ref a0_r, .ref a0_product, .ref a0_s, .ref a0_piece])), (a0_a, aL C.D 5 (v5 m0 m1 m2 m3 m4)), (a0_r, aL C.D 5 (v5 r0 r1 r2 r3 r4)), (a0_product, aL C.D 5 (v5 y54 y56 y58 y60 y52)), (a0_piece, aB C.D 17 t_a0_piece)]
  refine v_aload_n g dX6_addPiece_141 0 rfl 3 rfl ?_
  refine v_callV (As := []) (rest := []) (wr := [(a0_r, aL C.D 5 (v5 r0 r1 r2 r3 r4)), (a0_product, aL C.D 5 (v5 y54 y56 y58 y60 y52)), (a0_piece, aB C.D 17 t_a0_piece)]) cw_X6_53 (hy_X6_carry) g (c_TL_carry C.l C.D a0 a0_a a0_r a0_product a0_s a0_piece m0 m1 m2 m3 m4 (by omega) (by omega) (by omega) (by omega) (by omega)) dX6_addPiece_142 0 rfl rfl rfl (by decide) (by decide) (Nat.le_of_ble_eq_true rfl) [0, 1] [2, 3, 4] rfl rfl (by decide) rfl (by decide) (by decide) _ rfl (fun r wo hp62 => ?_)
  obtain ⟨z0, z1, z2, z3, z4, cB0, cB1, cB2, cB3, cB4, rfl, rfl, hB0, hB1, hB2, hB3, hB4, hB5, hB6, hB7, hB8, hB9⟩ := hp62
  refine v_perm [3, 4, 0, 1, 2] [(a0, .inr (6, [.ref a0_a, .ref a0_r, .ref a0_product, .ref a0_s, .ref a0_piece])), (a0_a, aL C.D 5 (v5 z0 z1 z2 z3 z4)), (a0_r, aL C.D 5 (v5 r0 r1 r2 r3 r4)), (a0_product, aL C.D 5 (v5 y54 y56 y58 y60 y52)), (a0_piece, aB C.D 17 t_a0_piece)] (by decide) rfl rfl ?_
  show VJ C 0 0 145 [(1, .int (nI 5)), (2, .int (nI 5)), (3, .int (nI 8)), (0, .ref a0)] [] [(a0, .inr (6, [.ref a0_a, .ref a0_r, .ref a0_product, .ref a0_s, .ref a0_piece])), (a0_a, aL C.D 5 (v5 z0 z1 z2 z3 z4)), (a0_r, aL C.D 5 (v5 r0 r1 r2 r3 r4)), (a0_product, aL C.D 5 (v5 y54 y56 y58 y60 y52)), (a0_piece, aB C.D 17 t_a0_piece)]
  have hval : (val5 x0 x1 x2 x3 x4 + leN t_a0_piece 17) = val5 y2 y4 y6 y8 y10 := by rw [← po_lim_val t_a0_piece hP]; unfold val5; omega
  have hmain : val5 y2 y4 y6 y8 y10 * val5 r0 r1 r2 r3 r4 = val5 z0 z1 z2 z3 z4 + (cB4 + cA4 + (y4 * r4 + y6 * r3 + y8 * r2 + y10 * r1) + (y6 * r4 + y8 * r3 + y10 * r2) * 2 ^ 26 + (y8 * r4 + y10 * r3) * 2 ^ 52 + (y10 * r4) * 2 ^ 78) * po_p := by
    rw [po_mul]; unfold val5 po_p; omega
  exact v_ret g R dX6_addPiece_145 (by decide) (by decide) ⟨z0, z1, z2, z3, z4, y54, y56, y58, y60, y52, _, rfl, rfl, (by omega), (by omega), (by omega), (by omega), (by omega), (by rw [hval]; exact hmain)⟩
set_option maxHeartbeats 4000000 in
set_option maxRecDepth 100000 in
theorem c_TL_reduce (l : Launch) (D : va_G) (a0 : Nat) (a0_a : Nat) (a0_r : Nat) (a0_product : Nat) (a0_s : Nat) (a0_piece : Nat) (x0 x1 x2 x3 x4 : Nat) (h0 : x0 < 2 ^ 26) (h1 : x1 < 2 ^ 26) (h2 : x2 < 2 ^ 26) (h3 : x3 < 2 ^ 26) (h4 : x4 < 2 ^ 26) : vM l D yX6_reduce cX6_reduce 3 none { frames := 0, cells := 0, slots := 0, locals := 0 } [.ref a0] [(a0, .inr (6, [.ref a0_a, .ref a0_r, .ref a0_product, .ref a0_s, .ref a0_piece])), (a0_a, aL D 5 (v5 x0 x1 x2 x3 x4))] (fun r wo => ∃ (y0 : Nat) (y1 : Nat) (y2 : Nat) (y3 : Nat) (y4 : Nat), r = none ∧ wo = [(a0, .inr (6, [.ref a0_a, .ref a0_r, .ref a0_product, .ref a0_s, .ref a0_piece])), (a0_a, aL D 5 (v5 y0 y1 y2 y3 y4))] ∧ (y0 < 2 ^ 26) ∧ (y1 < 2 ^ 26) ∧ (y2 < 2 ^ 26) ∧ (y3 < 2 ^ 26) ∧ (y4 < 2 ^ 26) ∧ (val5 y0 y1 y2 y3 y4 = val5 x0 x1 x2 x3 x4 % po_p)) := by
  refine vM.of (by decide) (Nat.le_of_ble_eq_true rfl) (fun C hCl hCD g R => ?_)
  subst hCl; subst hCD
  show VJ C 0 0 0 [(0, .ref a0)] [] [(a0, .inr (6, [.ref a0_a, .ref a0_r, .ref a0_product, .ref a0_s, .ref a0_piece])), (a0_a, aL C.D 5 (v5 x0 x1 x2 x3 x4))]
  refine v_aload_n g dX6_reduce_0 0 rfl 0 rfl ?_
  refine gf_X6_11 g dX6_reduce_1 0 rfl rfl ?_
  refine v_iconst g dX6_reduce_4 (v := nI 0) (by decide +kernel) ?_
  refine v_laldL g 1 rfl (by decide) (by decide) dX6_reduce_5 ?_
  refine v_tol (lN x0) rfl ?_
  refine v_ldc2 g dX6_reduce_6 kl_X6_68 ?_
  refine v_lif_ltN g 17 dX6_reduce_9 dX6_reduce_10 (by decide) (by omega) (by omega) (fun h1 => ?_) (fun h1 => ?_)
  · skip
    refine v_iconst g dX6_reduce_17 (v := nI 0) (by decide +kernel) ?_
    refine v_istore_n g [(1, .int (nI 0)), (0, .ref a0)] dX6_reduce_18 1 rfl (by decide) rfl ?_
    refine v_iconst g dX6_reduce_19 (v := nI 1) (by decide +kernel) ?_
    refine v_istore_n g [(2, .int (nI 1)), (1, .int (nI 0)), (0, .ref a0)] dX6_reduce_20 2 rfl (by decide) rfl ?_
    refine v_iload_n g dX6_reduce_21 2 rfl 0 rfl ?_
    refine v_iconst g dX6_reduce_22 (v := nI 5) (by decide +kernel) ?_
    refine v_icmp_geN g 55 dX6_reduce_23 (by decide) (by decide) (by decide) (fun h => absurd h (by decide)) (fun _ => ?_)
    refine v_iload_n g dX6_reduce_26 1 rfl 1 rfl ?_
    refine v_if_eqN g 47 dX6_reduce_27 (by decide) (by decide) (fun _ => ?_) (fun h => absurd h (by decide))
    refine v_iconst g dX6_reduce_47 (v := nI 0) (by decide +kernel) ?_
    refine v_istore_n g [(1, .int (nI 0)), (2, .int (nI 1)), (0, .ref a0)] dX6_reduce_48 1 rfl (by decide) rfl ?_
    refine v_iincN g 1 [(2, .int (nI 2)), (1, .int (nI 0)), (0, .ref a0)] dX6_reduce_49 1 rfl (by decide +kernel) (by decide) rfl ?_
    refine v_goto g 21 dX6_reduce_52 (by decide) ?_
    refine v_iload_n g dX6_reduce_21 2 rfl 0 rfl ?_
    refine v_iconst g dX6_reduce_22 (v := nI 5) (by decide +kernel) ?_
    refine v_icmp_geN g 55 dX6_reduce_23 (by decide) (by decide) (by decide) (fun h => absurd h (by decide)) (fun _ => ?_)
    refine v_iload_n g dX6_reduce_26 1 rfl 1 rfl ?_
    refine v_if_eqN g 47 dX6_reduce_27 (by decide) (by decide) (fun _ => ?_) (fun h => absurd h (by decide))
    refine v_iconst g dX6_reduce_47 (v := nI 0) (by decide +kernel) ?_
    refine v_istore_n g [(1, .int (nI 0)), (2, .int (nI 2)), (0, .ref a0)] dX6_reduce_48 1 rfl (by decide) rfl ?_
    refine v_iincN g 1 [(2, .int (nI 3)), (1, .int (nI 0)), (0, .ref a0)] dX6_reduce_49 1 rfl (by decide +kernel) (by decide) rfl ?_
    refine v_goto g 21 dX6_reduce_52 (by decide) ?_
    refine v_iload_n g dX6_reduce_21 2 rfl 0 rfl ?_
    refine v_iconst g dX6_reduce_22 (v := nI 5) (by decide +kernel) ?_
    refine v_icmp_geN g 55 dX6_reduce_23 (by decide) (by decide) (by decide) (fun h => absurd h (by decide)) (fun _ => ?_)
    refine v_iload_n g dX6_reduce_26 1 rfl 1 rfl ?_
    refine v_if_eqN g 47 dX6_reduce_27 (by decide) (by decide) (fun _ => ?_) (fun h => absurd h (by decide))
    refine v_iconst g dX6_reduce_47 (v := nI 0) (by decide +kernel) ?_
    refine v_istore_n g [(1, .int (nI 0)), (2, .int (nI 3)), (0, .ref a0)] dX6_reduce_48 1 rfl (by decide) rfl ?_
    refine v_iincN g 1 [(2, .int (nI 4)), (1, .int (nI 0)), (0, .ref a0)] dX6_reduce_49 1 rfl (by decide +kernel) (by decide) rfl ?_
    refine v_goto g 21 dX6_reduce_52 (by decide) ?_
    refine v_iload_n g dX6_reduce_21 2 rfl 0 rfl ?_
    refine v_iconst g dX6_reduce_22 (v := nI 5) (by decide +kernel) ?_
    refine v_icmp_geN g 55 dX6_reduce_23 (by decide) (by decide) (by decide) (fun h => absurd h (by decide)) (fun _ => ?_)
    refine v_iload_n g dX6_reduce_26 1 rfl 1 rfl ?_
    refine v_if_eqN g 47 dX6_reduce_27 (by decide) (by decide) (fun _ => ?_) (fun h => absurd h (by decide))
    refine v_iconst g dX6_reduce_47 (v := nI 0) (by decide +kernel) ?_
    refine v_istore_n g [(1, .int (nI 0)), (2, .int (nI 4)), (0, .ref a0)] dX6_reduce_48 1 rfl (by decide) rfl ?_
    refine v_iincN g 1 [(2, .int (nI 5)), (1, .int (nI 0)), (0, .ref a0)] dX6_reduce_49 1 rfl (by decide +kernel) (by decide) rfl ?_
    refine v_goto g 21 dX6_reduce_52 (by decide) ?_
    refine v_iload_n g dX6_reduce_21 2 rfl 0 rfl ?_
    refine v_iconst g dX6_reduce_22 (v := nI 5) (by decide +kernel) ?_
    refine v_icmp_geN g 55 dX6_reduce_23 (by decide) (by decide) (by decide) (fun _ => ?_) (fun h => absurd h (by decide))
    refine v_iload_n g dX6_reduce_55 1 rfl 1 rfl ?_
    refine v_if_eqN g 91 dX6_reduce_56 (by decide) (by decide) (fun _ => ?_) (fun h => absurd h (by decide))
    exact v_ret g R dX6_reduce_91 (by decide) (by decide) ⟨x0, x1, x2, x3, x4, rfl, rfl, (by omega), (by omega), (by omega), (by omega), (by omega), (by unfold val5 po_p; omega)⟩
  · skip
    refine v_iconst g dX6_reduce_13 (v := nI 1) (by decide +kernel) ?_
    refine v_goto g 18 dX6_reduce_14 (by decide) ?_
    refine v_istore_n g [(1, .int (nI 1)), (0, .ref a0)] dX6_reduce_18 1 rfl (by decide) rfl ?_
    refine v_iconst g dX6_reduce_19 (v := nI 1) (by decide +kernel) ?_
    refine v_istore_n g [(2, .int (nI 1)), (1, .int (nI 1)), (0, .ref a0)] dX6_reduce_20 2 rfl (by decide) rfl ?_
    refine v_iload_n g dX6_reduce_21 2 rfl 0 rfl ?_
    refine v_iconst g dX6_reduce_22 (v := nI 5) (by decide +kernel) ?_
    refine v_icmp_geN g 55 dX6_reduce_23 (by decide) (by decide) (by decide) (fun h => absurd h (by decide)) (fun _ => ?_)
    refine v_iload_n g dX6_reduce_26 1 rfl 1 rfl ?_
    refine v_if_eqN g 47 dX6_reduce_27 (by decide) (by decide) (fun h => absurd h (by decide)) (fun _ => ?_)
    refine v_aload_n g dX6_reduce_30 0 rfl 2 rfl ?_
    refine gf_X6_11 g dX6_reduce_31 0 rfl rfl ?_
    refine v_iload_n g dX6_reduce_34 2 rfl 0 rfl ?_
    refine v_laldL g 1 rfl (by decide) (by decide) dX6_reduce_35 ?_
    refine v_tol (lN x1) rfl ?_
    refine v_ldc2 g dX6_reduce_36 kl_X6_66 ?_
    refine v_lif_neN g 47 dX6_reduce_39 dX6_reduce_40 (by decide) (by omega) (by omega) (fun h2 => ?_) (fun h2 => ?_)
    · skip
      refine v_iconst g dX6_reduce_47 (v := nI 0) (by decide +kernel) ?_
      refine v_istore_n g [(1, .int (nI 0)), (2, .int (nI 1)), (0, .ref a0)] dX6_reduce_48 1 rfl (by decide) rfl ?_
      refine v_iincN g 1 [(2, .int (nI 2)), (1, .int (nI 0)), (0, .ref a0)] dX6_reduce_49 1 rfl (by decide +kernel) (by decide) rfl ?_
      refine v_goto g 21 dX6_reduce_52 (by decide) ?_
      refine v_iload_n g dX6_reduce_21 2 rfl 0 rfl ?_
      refine v_iconst g dX6_reduce_22 (v := nI 5) (by decide +kernel) ?_
      refine v_icmp_geN g 55 dX6_reduce_23 (by decide) (by decide) (by decide) (fun h => absurd h (by decide)) (fun _ => ?_)
      refine v_iload_n g dX6_reduce_26 1 rfl 1 rfl ?_
      refine v_if_eqN g 47 dX6_reduce_27 (by decide) (by decide) (fun _ => ?_) (fun h => absurd h (by decide))
      refine v_iconst g dX6_reduce_47 (v := nI 0) (by decide +kernel) ?_
      refine v_istore_n g [(1, .int (nI 0)), (2, .int (nI 2)), (0, .ref a0)] dX6_reduce_48 1 rfl (by decide) rfl ?_
      refine v_iincN g 1 [(2, .int (nI 3)), (1, .int (nI 0)), (0, .ref a0)] dX6_reduce_49 1 rfl (by decide +kernel) (by decide) rfl ?_
      refine v_goto g 21 dX6_reduce_52 (by decide) ?_
      refine v_iload_n g dX6_reduce_21 2 rfl 0 rfl ?_
      refine v_iconst g dX6_reduce_22 (v := nI 5) (by decide +kernel) ?_
      refine v_icmp_geN g 55 dX6_reduce_23 (by decide) (by decide) (by decide) (fun h => absurd h (by decide)) (fun _ => ?_)
      refine v_iload_n g dX6_reduce_26 1 rfl 1 rfl ?_
      refine v_if_eqN g 47 dX6_reduce_27 (by decide) (by decide) (fun _ => ?_) (fun h => absurd h (by decide))
      refine v_iconst g dX6_reduce_47 (v := nI 0) (by decide +kernel) ?_
      refine v_istore_n g [(1, .int (nI 0)), (2, .int (nI 3)), (0, .ref a0)] dX6_reduce_48 1 rfl (by decide) rfl ?_
      refine v_iincN g 1 [(2, .int (nI 4)), (1, .int (nI 0)), (0, .ref a0)] dX6_reduce_49 1 rfl (by decide +kernel) (by decide) rfl ?_
      refine v_goto g 21 dX6_reduce_52 (by decide) ?_
      refine v_iload_n g dX6_reduce_21 2 rfl 0 rfl ?_
      refine v_iconst g dX6_reduce_22 (v := nI 5) (by decide +kernel) ?_
      refine v_icmp_geN g 55 dX6_reduce_23 (by decide) (by decide) (by decide) (fun h => absurd h (by decide)) (fun _ => ?_)
      refine v_iload_n g dX6_reduce_26 1 rfl 1 rfl ?_
      refine v_if_eqN g 47 dX6_reduce_27 (by decide) (by decide) (fun _ => ?_) (fun h => absurd h (by decide))
      refine v_iconst g dX6_reduce_47 (v := nI 0) (by decide +kernel) ?_
      refine v_istore_n g [(1, .int (nI 0)), (2, .int (nI 4)), (0, .ref a0)] dX6_reduce_48 1 rfl (by decide) rfl ?_
      refine v_iincN g 1 [(2, .int (nI 5)), (1, .int (nI 0)), (0, .ref a0)] dX6_reduce_49 1 rfl (by decide +kernel) (by decide) rfl ?_
      refine v_goto g 21 dX6_reduce_52 (by decide) ?_
      refine v_iload_n g dX6_reduce_21 2 rfl 0 rfl ?_
      refine v_iconst g dX6_reduce_22 (v := nI 5) (by decide +kernel) ?_
      refine v_icmp_geN g 55 dX6_reduce_23 (by decide) (by decide) (by decide) (fun _ => ?_) (fun h => absurd h (by decide))
      refine v_iload_n g dX6_reduce_55 1 rfl 1 rfl ?_
      refine v_if_eqN g 91 dX6_reduce_56 (by decide) (by decide) (fun _ => ?_) (fun h => absurd h (by decide))
      exact v_ret g R dX6_reduce_91 (by decide) (by decide) ⟨x0, x1, x2, x3, x4, rfl, rfl, (by omega), (by omega), (by omega), (by omega), (by omega), (by unfold val5 po_p; omega)⟩
    · skip
      refine v_iconst g dX6_reduce_43 (v := nI 1) (by decide +kernel) ?_
      refine v_goto g 48 dX6_reduce_44 (by decide) ?_
      refine v_istore_n g [(1, .int (nI 1)), (2, .int (nI 1)), (0, .ref a0)] dX6_reduce_48 1 rfl (by decide) rfl ?_
      refine v_iincN g 1 [(2, .int (nI 2)), (1, .int (nI 1)), (0, .ref a0)] dX6_reduce_49 1 rfl (by decide +kernel) (by decide) rfl ?_
      refine v_goto g 21 dX6_reduce_52 (by decide) ?_
      refine v_iload_n g dX6_reduce_21 2 rfl 0 rfl ?_
      refine v_iconst g dX6_reduce_22 (v := nI 5) (by decide +kernel) ?_
      refine v_icmp_geN g 55 dX6_reduce_23 (by decide) (by decide) (by decide) (fun h => absurd h (by decide)) (fun _ => ?_)
      refine v_iload_n g dX6_reduce_26 1 rfl 1 rfl ?_
      refine v_if_eqN g 47 dX6_reduce_27 (by decide) (by decide) (fun h => absurd h (by decide)) (fun _ => ?_)
      refine v_aload_n g dX6_reduce_30 0 rfl 2 rfl ?_
      refine gf_X6_11 g dX6_reduce_31 0 rfl rfl ?_
      refine v_iload_n g dX6_reduce_34 2 rfl 0 rfl ?_
      refine v_laldL g 1 rfl (by decide) (by decide) dX6_reduce_35 ?_
      refine v_tol (lN x2) rfl ?_
      refine v_ldc2 g dX6_reduce_36 kl_X6_66 ?_
      refine v_lif_neN g 47 dX6_reduce_39 dX6_reduce_40 (by decide) (by omega) (by omega) (fun h3 => ?_) (fun h3 => ?_)
      · skip
        refine v_iconst g dX6_reduce_47 (v := nI 0) (by decide +kernel) ?_
        refine v_istore_n g [(1, .int (nI 0)), (2, .int (nI 2)), (0, .ref a0)] dX6_reduce_48 1 rfl (by decide) rfl ?_
        refine v_iincN g 1 [(2, .int (nI 3)), (1, .int (nI 0)), (0, .ref a0)] dX6_reduce_49 1 rfl (by decide +kernel) (by decide) rfl ?_
        refine v_goto g 21 dX6_reduce_52 (by decide) ?_
        refine v_iload_n g dX6_reduce_21 2 rfl 0 rfl ?_
        refine v_iconst g dX6_reduce_22 (v := nI 5) (by decide +kernel) ?_
        refine v_icmp_geN g 55 dX6_reduce_23 (by decide) (by decide) (by decide) (fun h => absurd h (by decide)) (fun _ => ?_)
        refine v_iload_n g dX6_reduce_26 1 rfl 1 rfl ?_
        refine v_if_eqN g 47 dX6_reduce_27 (by decide) (by decide) (fun _ => ?_) (fun h => absurd h (by decide))
        refine v_iconst g dX6_reduce_47 (v := nI 0) (by decide +kernel) ?_
        refine v_istore_n g [(1, .int (nI 0)), (2, .int (nI 3)), (0, .ref a0)] dX6_reduce_48 1 rfl (by decide) rfl ?_
        refine v_iincN g 1 [(2, .int (nI 4)), (1, .int (nI 0)), (0, .ref a0)] dX6_reduce_49 1 rfl (by decide +kernel) (by decide) rfl ?_
        refine v_goto g 21 dX6_reduce_52 (by decide) ?_
        refine v_iload_n g dX6_reduce_21 2 rfl 0 rfl ?_
        refine v_iconst g dX6_reduce_22 (v := nI 5) (by decide +kernel) ?_
        refine v_icmp_geN g 55 dX6_reduce_23 (by decide) (by decide) (by decide) (fun h => absurd h (by decide)) (fun _ => ?_)
        refine v_iload_n g dX6_reduce_26 1 rfl 1 rfl ?_
        refine v_if_eqN g 47 dX6_reduce_27 (by decide) (by decide) (fun _ => ?_) (fun h => absurd h (by decide))
        refine v_iconst g dX6_reduce_47 (v := nI 0) (by decide +kernel) ?_
        refine v_istore_n g [(1, .int (nI 0)), (2, .int (nI 4)), (0, .ref a0)] dX6_reduce_48 1 rfl (by decide) rfl ?_
        refine v_iincN g 1 [(2, .int (nI 5)), (1, .int (nI 0)), (0, .ref a0)] dX6_reduce_49 1 rfl (by decide +kernel) (by decide) rfl ?_
        refine v_goto g 21 dX6_reduce_52 (by decide) ?_
        refine v_iload_n g dX6_reduce_21 2 rfl 0 rfl ?_
        refine v_iconst g dX6_reduce_22 (v := nI 5) (by decide +kernel) ?_
        refine v_icmp_geN g 55 dX6_reduce_23 (by decide) (by decide) (by decide) (fun _ => ?_) (fun h => absurd h (by decide))
        refine v_iload_n g dX6_reduce_55 1 rfl 1 rfl ?_
        refine v_if_eqN g 91 dX6_reduce_56 (by decide) (by decide) (fun _ => ?_) (fun h => absurd h (by decide))
        exact v_ret g R dX6_reduce_91 (by decide) (by decide) ⟨x0, x1, x2, x3, x4, rfl, rfl, (by omega), (by omega), (by omega), (by omega), (by omega), (by unfold val5 po_p; omega)⟩
      · skip
        refine v_iconst g dX6_reduce_43 (v := nI 1) (by decide +kernel) ?_
        refine v_goto g 48 dX6_reduce_44 (by decide) ?_
        refine v_istore_n g [(1, .int (nI 1)), (2, .int (nI 2)), (0, .ref a0)] dX6_reduce_48 1 rfl (by decide) rfl ?_
        refine v_iincN g 1 [(2, .int (nI 3)), (1, .int (nI 1)), (0, .ref a0)] dX6_reduce_49 1 rfl (by decide +kernel) (by decide) rfl ?_
        refine v_goto g 21 dX6_reduce_52 (by decide) ?_
        refine v_iload_n g dX6_reduce_21 2 rfl 0 rfl ?_
        refine v_iconst g dX6_reduce_22 (v := nI 5) (by decide +kernel) ?_
        refine v_icmp_geN g 55 dX6_reduce_23 (by decide) (by decide) (by decide) (fun h => absurd h (by decide)) (fun _ => ?_)
        refine v_iload_n g dX6_reduce_26 1 rfl 1 rfl ?_
        refine v_if_eqN g 47 dX6_reduce_27 (by decide) (by decide) (fun h => absurd h (by decide)) (fun _ => ?_)
        refine v_aload_n g dX6_reduce_30 0 rfl 2 rfl ?_
        refine gf_X6_11 g dX6_reduce_31 0 rfl rfl ?_
        refine v_iload_n g dX6_reduce_34 2 rfl 0 rfl ?_
        refine v_laldL g 1 rfl (by decide) (by decide) dX6_reduce_35 ?_
        refine v_tol (lN x3) rfl ?_
        refine v_ldc2 g dX6_reduce_36 kl_X6_66 ?_
        refine v_lif_neN g 47 dX6_reduce_39 dX6_reduce_40 (by decide) (by omega) (by omega) (fun h4 => ?_) (fun h4 => ?_)
        · skip
          refine v_iconst g dX6_reduce_47 (v := nI 0) (by decide +kernel) ?_
          refine v_istore_n g [(1, .int (nI 0)), (2, .int (nI 3)), (0, .ref a0)] dX6_reduce_48 1 rfl (by decide) rfl ?_
          refine v_iincN g 1 [(2, .int (nI 4)), (1, .int (nI 0)), (0, .ref a0)] dX6_reduce_49 1 rfl (by decide +kernel) (by decide) rfl ?_
          refine v_goto g 21 dX6_reduce_52 (by decide) ?_
          refine v_iload_n g dX6_reduce_21 2 rfl 0 rfl ?_
          refine v_iconst g dX6_reduce_22 (v := nI 5) (by decide +kernel) ?_
          refine v_icmp_geN g 55 dX6_reduce_23 (by decide) (by decide) (by decide) (fun h => absurd h (by decide)) (fun _ => ?_)
          refine v_iload_n g dX6_reduce_26 1 rfl 1 rfl ?_
          refine v_if_eqN g 47 dX6_reduce_27 (by decide) (by decide) (fun _ => ?_) (fun h => absurd h (by decide))
          refine v_iconst g dX6_reduce_47 (v := nI 0) (by decide +kernel) ?_
          refine v_istore_n g [(1, .int (nI 0)), (2, .int (nI 4)), (0, .ref a0)] dX6_reduce_48 1 rfl (by decide) rfl ?_
          refine v_iincN g 1 [(2, .int (nI 5)), (1, .int (nI 0)), (0, .ref a0)] dX6_reduce_49 1 rfl (by decide +kernel) (by decide) rfl ?_
          refine v_goto g 21 dX6_reduce_52 (by decide) ?_
          refine v_iload_n g dX6_reduce_21 2 rfl 0 rfl ?_
          refine v_iconst g dX6_reduce_22 (v := nI 5) (by decide +kernel) ?_
          refine v_icmp_geN g 55 dX6_reduce_23 (by decide) (by decide) (by decide) (fun _ => ?_) (fun h => absurd h (by decide))
          refine v_iload_n g dX6_reduce_55 1 rfl 1 rfl ?_
          refine v_if_eqN g 91 dX6_reduce_56 (by decide) (by decide) (fun _ => ?_) (fun h => absurd h (by decide))
          exact v_ret g R dX6_reduce_91 (by decide) (by decide) ⟨x0, x1, x2, x3, x4, rfl, rfl, (by omega), (by omega), (by omega), (by omega), (by omega), (by unfold val5 po_p; omega)⟩
        · skip
          refine v_iconst g dX6_reduce_43 (v := nI 1) (by decide +kernel) ?_
          refine v_goto g 48 dX6_reduce_44 (by decide) ?_
          refine v_istore_n g [(1, .int (nI 1)), (2, .int (nI 3)), (0, .ref a0)] dX6_reduce_48 1 rfl (by decide) rfl ?_
          refine v_iincN g 1 [(2, .int (nI 4)), (1, .int (nI 1)), (0, .ref a0)] dX6_reduce_49 1 rfl (by decide +kernel) (by decide) rfl ?_
          refine v_goto g 21 dX6_reduce_52 (by decide) ?_
          refine v_iload_n g dX6_reduce_21 2 rfl 0 rfl ?_
          refine v_iconst g dX6_reduce_22 (v := nI 5) (by decide +kernel) ?_
          refine v_icmp_geN g 55 dX6_reduce_23 (by decide) (by decide) (by decide) (fun h => absurd h (by decide)) (fun _ => ?_)
          refine v_iload_n g dX6_reduce_26 1 rfl 1 rfl ?_
          refine v_if_eqN g 47 dX6_reduce_27 (by decide) (by decide) (fun h => absurd h (by decide)) (fun _ => ?_)
          refine v_aload_n g dX6_reduce_30 0 rfl 2 rfl ?_
          refine gf_X6_11 g dX6_reduce_31 0 rfl rfl ?_
          refine v_iload_n g dX6_reduce_34 2 rfl 0 rfl ?_
          refine v_laldL g 1 rfl (by decide) (by decide) dX6_reduce_35 ?_
          refine v_tol (lN x4) rfl ?_
          refine v_ldc2 g dX6_reduce_36 kl_X6_66 ?_
          refine v_lif_neN g 47 dX6_reduce_39 dX6_reduce_40 (by decide) (by omega) (by omega) (fun h5 => ?_) (fun h5 => ?_)
          · skip
            refine v_iconst g dX6_reduce_47 (v := nI 0) (by decide +kernel) ?_
            refine v_istore_n g [(1, .int (nI 0)), (2, .int (nI 4)), (0, .ref a0)] dX6_reduce_48 1 rfl (by decide) rfl ?_
            refine v_iincN g 1 [(2, .int (nI 5)), (1, .int (nI 0)), (0, .ref a0)] dX6_reduce_49 1 rfl (by decide +kernel) (by decide) rfl ?_
            refine v_goto g 21 dX6_reduce_52 (by decide) ?_
            refine v_iload_n g dX6_reduce_21 2 rfl 0 rfl ?_
            refine v_iconst g dX6_reduce_22 (v := nI 5) (by decide +kernel) ?_
            refine v_icmp_geN g 55 dX6_reduce_23 (by decide) (by decide) (by decide) (fun _ => ?_) (fun h => absurd h (by decide))
            refine v_iload_n g dX6_reduce_55 1 rfl 1 rfl ?_
            refine v_if_eqN g 91 dX6_reduce_56 (by decide) (by decide) (fun _ => ?_) (fun h => absurd h (by decide))
            exact v_ret g R dX6_reduce_91 (by decide) (by decide) ⟨x0, x1, x2, x3, x4, rfl, rfl, (by omega), (by omega), (by omega), (by omega), (by omega), (by unfold val5 po_p; omega)⟩
          · skip
            refine v_iconst g dX6_reduce_43 (v := nI 1) (by decide +kernel) ?_
            refine v_goto g 48 dX6_reduce_44 (by decide) ?_
            refine v_istore_n g [(1, .int (nI 1)), (2, .int (nI 4)), (0, .ref a0)] dX6_reduce_48 1 rfl (by decide) rfl ?_
            refine v_iincN g 1 [(2, .int (nI 5)), (1, .int (nI 1)), (0, .ref a0)] dX6_reduce_49 1 rfl (by decide +kernel) (by decide) rfl ?_
            refine v_goto g 21 dX6_reduce_52 (by decide) ?_
            refine v_iload_n g dX6_reduce_21 2 rfl 0 rfl ?_
            refine v_iconst g dX6_reduce_22 (v := nI 5) (by decide +kernel) ?_
            refine v_icmp_geN g 55 dX6_reduce_23 (by decide) (by decide) (by decide) (fun _ => ?_) (fun h => absurd h (by decide))
            refine v_iload_n g dX6_reduce_55 1 rfl 1 rfl ?_
            refine v_if_eqN g 91 dX6_reduce_56 (by decide) (by decide) (fun h => absurd h (by decide)) (fun _ => ?_)
            refine v_aload_n g dX6_reduce_59 0 rfl 2 rfl ?_
            refine gf_X6_11 g dX6_reduce_60 0 rfl rfl ?_
            refine v_iconst g dX6_reduce_63 (v := nI 0) (by decide +kernel) ?_
            refine v_dup2 g dX6_reduce_64 rfl rfl ?_
            refine v_laldL g 1 rfl (by decide) (by decide) dX6_reduce_65 ?_
            refine v_tol (lN x0) rfl ?_
            refine v_ldc2 g dX6_reduce_66 kl_X6_68 ?_
            refine v_lsubN g (by omega) dX6_reduce_69 ?_
            obtain ⟨y6, hy6⟩ : ∃ z : Nat, z = x0 - 67108859 := ⟨_, rfl⟩
            refine v_lastL g y6 (by rw [hy6]) (v5 y6 x1 x2 x3 x4) (v5_u0 _ _ _ _ _ _) 1 [(a0, .inr (6, [.ref a0_a, .ref a0_r, .ref a0_product, .ref a0_s, .ref a0_piece])), (a0_a, aL C.D 5 (v5 y6 x1 x2 x3 x4))] rfl (by decide) (by decide) dX6_reduce_70 rfl ?_
            refine v_iconst g dX6_reduce_71 (v := nI 1) (by decide +kernel) ?_
            refine v_istore_n g [(2, .int (nI 1)), (1, .int (nI 1)), (0, .ref a0)] dX6_reduce_72 2 rfl (by decide) rfl ?_
            refine v_iload_n g dX6_reduce_73 2 rfl 0 rfl ?_
            refine v_iconst g dX6_reduce_74 (v := nI 5) (by decide +kernel) ?_
            refine v_icmp_geN g 91 dX6_reduce_75 (by decide) (by decide) (by decide) (fun h => absurd h (by decide)) (fun _ => ?_)
            refine v_aload_n g dX6_reduce_78 0 rfl 2 rfl ?_
            refine gf_X6_11 g dX6_reduce_79 0 rfl rfl ?_
            refine v_iload_n g dX6_reduce_82 2 rfl 0 rfl ?_
            refine v_lconst g dX6_reduce_83 (v := lN 0) (by decide +kernel) ?_
            refine v_lastL g 0 rfl (v5 y6 0 x2 x3 x4) (v5_u1 _ _ _ _ _ _) 1 [(a0, .inr (6, [.ref a0_a, .ref a0_r, .ref a0_product, .ref a0_s, .ref a0_piece])), (a0_a, aL C.D 5 (v5 y6 0 x2 x3 x4))] rfl (by decide) (by decide) dX6_reduce_84 rfl ?_
            refine v_iincN g 1 [(2, .int (nI 2)), (1, .int (nI 1)), (0, .ref a0)] dX6_reduce_85 0 rfl (by decide +kernel) (by decide) rfl ?_
            refine v_goto g 73 dX6_reduce_88 (by decide) ?_
            refine v_iload_n g dX6_reduce_73 2 rfl 0 rfl ?_
            refine v_iconst g dX6_reduce_74 (v := nI 5) (by decide +kernel) ?_
            refine v_icmp_geN g 91 dX6_reduce_75 (by decide) (by decide) (by decide) (fun h => absurd h (by decide)) (fun _ => ?_)
            refine v_aload_n g dX6_reduce_78 0 rfl 2 rfl ?_
            refine gf_X6_11 g dX6_reduce_79 0 rfl rfl ?_
            refine v_iload_n g dX6_reduce_82 2 rfl 0 rfl ?_
            refine v_lconst g dX6_reduce_83 (v := lN 0) (by decide +kernel) ?_
            refine v_lastL g 0 rfl (v5 y6 0 0 x3 x4) (v5_u2 _ _ _ _ _ _) 1 [(a0, .inr (6, [.ref a0_a, .ref a0_r, .ref a0_product, .ref a0_s, .ref a0_piece])), (a0_a, aL C.D 5 (v5 y6 0 0 x3 x4))] rfl (by decide) (by decide) dX6_reduce_84 rfl ?_
            refine v_iincN g 1 [(2, .int (nI 3)), (1, .int (nI 1)), (0, .ref a0)] dX6_reduce_85 0 rfl (by decide +kernel) (by decide) rfl ?_
            refine v_goto g 73 dX6_reduce_88 (by decide) ?_
            refine v_iload_n g dX6_reduce_73 2 rfl 0 rfl ?_
            refine v_iconst g dX6_reduce_74 (v := nI 5) (by decide +kernel) ?_
            refine v_icmp_geN g 91 dX6_reduce_75 (by decide) (by decide) (by decide) (fun h => absurd h (by decide)) (fun _ => ?_)
            refine v_aload_n g dX6_reduce_78 0 rfl 2 rfl ?_
            refine gf_X6_11 g dX6_reduce_79 0 rfl rfl ?_
            refine v_iload_n g dX6_reduce_82 2 rfl 0 rfl ?_
            refine v_lconst g dX6_reduce_83 (v := lN 0) (by decide +kernel) ?_
            refine v_lastL g 0 rfl (v5 y6 0 0 0 x4) (v5_u3 _ _ _ _ _ _) 1 [(a0, .inr (6, [.ref a0_a, .ref a0_r, .ref a0_product, .ref a0_s, .ref a0_piece])), (a0_a, aL C.D 5 (v5 y6 0 0 0 x4))] rfl (by decide) (by decide) dX6_reduce_84 rfl ?_
            refine v_iincN g 1 [(2, .int (nI 4)), (1, .int (nI 1)), (0, .ref a0)] dX6_reduce_85 0 rfl (by decide +kernel) (by decide) rfl ?_
            refine v_goto g 73 dX6_reduce_88 (by decide) ?_
            refine v_iload_n g dX6_reduce_73 2 rfl 0 rfl ?_
            refine v_iconst g dX6_reduce_74 (v := nI 5) (by decide +kernel) ?_
            refine v_icmp_geN g 91 dX6_reduce_75 (by decide) (by decide) (by decide) (fun h => absurd h (by decide)) (fun _ => ?_)
            refine v_aload_n g dX6_reduce_78 0 rfl 2 rfl ?_
            refine gf_X6_11 g dX6_reduce_79 0 rfl rfl ?_
            refine v_iload_n g dX6_reduce_82 2 rfl 0 rfl ?_
            refine v_lconst g dX6_reduce_83 (v := lN 0) (by decide +kernel) ?_
            refine v_lastL g 0 rfl (v5 y6 0 0 0 0) (v5_u4 _ _ _ _ _ _) 1 [(a0, .inr (6, [.ref a0_a, .ref a0_r, .ref a0_product, .ref a0_s, .ref a0_piece])), (a0_a, aL C.D 5 (v5 y6 0 0 0 0))] rfl (by decide) (by decide) dX6_reduce_84 rfl ?_
            refine v_iincN g 1 [(2, .int (nI 5)), (1, .int (nI 1)), (0, .ref a0)] dX6_reduce_85 0 rfl (by decide +kernel) (by decide) rfl ?_
            refine v_goto g 73 dX6_reduce_88 (by decide) ?_
            refine v_iload_n g dX6_reduce_73 2 rfl 0 rfl ?_
            refine v_iconst g dX6_reduce_74 (v := nI 5) (by decide +kernel) ?_
            refine v_icmp_geN g 91 dX6_reduce_75 (by decide) (by decide) (by decide) (fun _ => ?_) (fun h => absurd h (by decide))
            exact v_ret g R dX6_reduce_91 (by decide) (by decide) ⟨y6, 0, 0, 0, 0, rfl, rfl, (by omega), (by omega), (by omega), (by omega), (by omega), (by unfold val5 po_p; omega)⟩
