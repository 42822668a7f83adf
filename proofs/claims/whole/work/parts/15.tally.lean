/-! TALLY -/
def leN (b : Nat → By) : Nat → Nat
  | 0 => 0
  | n + 1 => leN b n + (b n).toNat * 256 ^ n
def po_p : Nat := 2 ^ 130 - 5
def v5 (a b c d e : Nat) : Nat → Nat := fun j => match j with
  | 0 => a
  | 1 => b
  | 2 => c
  | 3 => d
  | 4 => e
  | _ => 0
theorem v5_u0 (a b c d e x : Nat) : v5 x b c d e = va_up (v5 a b c d e) 0 x := by
  funext j
  match j with
  | 0 => rfl
  | 1 => rfl
  | 2 => rfl
  | 3 => rfl
  | 4 => rfl
  | j + 5 => simp [v5, va_up]
theorem v5_u1 (a b c d e x : Nat) : v5 a x c d e = va_up (v5 a b c d e) 1 x := by
  funext j
  match j with
  | 0 => rfl
  | 1 => rfl
  | 2 => rfl
  | 3 => rfl
  | 4 => rfl
  | j + 5 => simp [v5, va_up]
theorem v5_u2 (a b c d e x : Nat) : v5 a b x d e = va_up (v5 a b c d e) 2 x := by
  funext j
  match j with
  | 0 => rfl
  | 1 => rfl
  | 2 => rfl
  | 3 => rfl
  | 4 => rfl
  | j + 5 => simp [v5, va_up]
theorem v5_u3 (a b c d e x : Nat) : v5 a b c x e = va_up (v5 a b c d e) 3 x := by
  funext j
  match j with
  | 0 => rfl
  | 1 => rfl
  | 2 => rfl
  | 3 => rfl
  | 4 => rfl
  | j + 5 => simp [v5, va_up]
theorem v5_u4 (a b c d e x : Nat) : v5 a b c d x = va_up (v5 a b c d e) 4 x := by
  funext j
  match j with
  | 0 => rfl
  | 1 => rfl
  | 2 => rfl
  | 3 => rfl
  | 4 => rfl
  | j + 5 => simp [v5, va_up]
theorem v5_cp (a b c d e a' b' c' d' e' : Nat) : v5 a b c d e = va_cpy (v5 a b c d e) (v5 a' b' c' d' e') 0 0 5 := by
  funext j
  match j with
  | 0 => rfl
  | 1 => rfl
  | 2 => rfl
  | 3 => rfl
  | 4 => rfl
  | j + 5 => simp [v5, va_cpy]
def val5 (a b c d e : Nat) : Nat := a + b * 2 ^ 26 + c * 2 ^ 52 + d * 2 ^ 78 + e * 2 ^ 104
theorem or_add {a b k : Nat} (h : a < 2 ^ k) : a ||| b * 2 ^ k = a + b * 2 ^ k := by
  rw [Nat.or_comm, Nat.mul_comm b, ← Nat.two_pow_add_eq_or_of_lt h, Nat.add_comm]
theorem le4_nat (b : Nat → By) (a : Nat) : (le4 b a).toNat = (b a).toNat + (b (a + 1)).toNat * 2 ^ 8 + (b (a + 2)).toNat * 2 ^ 16 + (b (a + 3)).toNat * 2 ^ 24 := by
  have h0 := (b a).isLt; have h1 := (b (a + 1)).isLt; have h2 := (b (a + 2)).isLt; have h3 := (b (a + 3)).isLt
  unfold le4
  simp only [BitVec.toNat_or, BitVec.toNat_shiftLeft, BitVec.toNat_setWidth, Nat.shiftLeft_eq]
  rw [Nat.mod_eq_of_lt (show (b a).toNat < 2 ^ 32 by omega), Nat.mod_eq_of_lt (show (b (a + 1)).toNat < 2 ^ 32 by omega), Nat.mod_eq_of_lt (show (b (a + 2)).toNat < 2 ^ 32 by omega), Nat.mod_eq_of_lt (show (b (a + 3)).toNat < 2 ^ 32 by omega),
    Nat.mod_eq_of_lt (show (b (a + 1)).toNat * 2 ^ 8 < 2 ^ 32 by omega), Nat.mod_eq_of_lt (show (b (a + 2)).toNat * 2 ^ 16 < 2 ^ 32 by omega), Nat.mod_eq_of_lt (show (b (a + 3)).toNat * 2 ^ 24 < 2 ^ 32 by omega)]
  rw [or_add (k := 8) (by omega), or_add (k := 16) (by omega), or_add (k := 24) (by omega)]
theorem leN_lt (b : Nat → By) : ∀ n, leN b n < 256 ^ n := by
  intro n
  induction n with
  | zero => simp [leN]
  | succ n ih =>
    have h := (b n).isLt
    simp only [leN, Nat.pow_succ]
    have h2 : (b n).toNat * 256 ^ n ≤ 255 * 256 ^ n := Nat.mul_le_mul_right _ (by omega)
    omega
theorem leN_congr {b b' : Nat → By} : ∀ n, (∀ j, j < n → b j = b' j) → leN b n = leN b' n := by
  intro n
  induction n with
  | zero => intro _; rfl
  | succ n ih => intro h; simp only [leN]; rw [ih (fun j hj => h j (by omega)), h n (by omega)]
def po_lim (b : Nat → By) (i : Nat) : Nat := leN b 17 / 2 ^ (26 * i) % 2 ^ 26
theorem po_lim_lt (b : Nat → By) (i : Nat) : po_lim b i < 2 ^ 26 := Nat.mod_lt _ (by decide)
theorem po_lim_w (b : Nat → By) {i : Nat} (hi : i < 5) : wI (le4 b (26 * i / 2 ^ 3) >>> (26 * i % 2 ^ 3) &&& 67108863#32) = nI (po_lim b i) := by
  rw [wI_n]
  congr 1
  apply BitVec.eq_of_toNat_eq
  have h17 := leN_lt b 17
  have hb : ∀ j, (b j).toNat < 256 := fun j => (b j).isLt
  have hm : (67108863#32).toNat = 2 ^ 26 - 1 := by decide
  have hl := po_lim_lt b i
  rw [BitVec.toNat_and, hm, Nat.and_two_pow_sub_one_eq_mod, BitVec.toNat_ushiftRight, Nat.shiftRight_eq_div_pow, le4_nat, BitVec.toNat_ofNat, Nat.mod_eq_of_lt (Nat.lt_trans hl (by decide))]
  unfold po_lim
  simp only [leN]
  have e : i = 0 ∨ i = 1 ∨ i = 2 ∨ i = 3 ∨ i = 4 := by omega
  have b0 := hb 0; have b1 := hb 1; have b2 := hb 2; have b3 := hb 3; have b4 := hb 4; have b5 := hb 5; have b6 := hb 6; have b7 := hb 7; have b8 := hb 8
  have b9 := hb 9; have b10 := hb 10; have b11 := hb 11; have b12 := hb 12; have b13 := hb 13; have b14 := hb 14; have b15 := hb 15; have b16 := hb 16
  rcases e with rfl | rfl | rfl | rfl | rfl
  · show ((b 0).toNat + (b 1).toNat * 2 ^ 8 + (b 2).toNat * 2 ^ 16 + (b 3).toNat * 2 ^ 24) / 2 ^ 0 % 2 ^ 26 = _
    omega
  · show ((b 3).toNat + (b 4).toNat * 2 ^ 8 + (b 5).toNat * 2 ^ 16 + (b 6).toNat * 2 ^ 24) / 2 ^ 2 % 2 ^ 26 = _
    omega
  · show ((b 6).toNat + (b 7).toNat * 2 ^ 8 + (b 8).toNat * 2 ^ 16 + (b 9).toNat * 2 ^ 24) / 2 ^ 4 % 2 ^ 26 = _
    omega
  · show ((b 9).toNat + (b 10).toNat * 2 ^ 8 + (b 11).toNat * 2 ^ 16 + (b 12).toNat * 2 ^ 24) / 2 ^ 6 % 2 ^ 26 = _
    omega
  · show ((b 13).toNat + (b 14).toNat * 2 ^ 8 + (b 15).toNat * 2 ^ 16 + (b 16).toNat * 2 ^ 24) / 2 ^ 0 % 2 ^ 26 = _
    omega
theorem po_lim_val (b : Nat → By) (h : leN b 17 < 2 ^ 130) : val5 (po_lim b 0) (po_lim b 1) (po_lim b 2) (po_lim b 3) (po_lim b 4) = leN b 17 := by
  unfold val5 po_lim
  generalize leN b 17 = z at h ⊢
  omega
theorem po_mul (a0 a1 a2 a3 a4 r0 r1 r2 r3 r4 : Nat) : val5 a0 a1 a2 a3 a4 * val5 r0 r1 r2 r3 r4 = a0 * r0 + (a0 * r1 + a1 * r0) * 2 ^ 26 + (a0 * r2 + a1 * r1 + a2 * r0) * 2 ^ 52 + (a0 * r3 + a1 * r2 + a2 * r1 + a3 * r0) * 2 ^ 78 + (a0 * r4 + a1 * r3 + a2 * r2 + a3 * r1 + a4 * r0) * 2 ^ 104 + (a1 * r4 + a2 * r3 + a3 * r2 + a4 * r1) * 2 ^ 130 + (a2 * r4 + a3 * r3 + a4 * r2) * 2 ^ 156 + (a3 * r4 + a4 * r3) * 2 ^ 182 + a4 * r4 * 2 ^ 208 := by
  have t : ∀ a r x y : Nat, (a * 2 ^ x) * (r * 2 ^ y) = (a * r) * 2 ^ (x + y) := fun a r x y => by rw [Nat.mul_mul_mul_comm, ← Nat.pow_add]
  have t1 : ∀ a r y : Nat, a * (r * 2 ^ y) = (a * r) * 2 ^ y := fun a r y => by rw [Nat.mul_assoc]
  have t2 : ∀ a r x : Nat, (a * 2 ^ x) * r = (a * r) * 2 ^ x := fun a r x => by rw [Nat.mul_assoc, Nat.mul_comm (2 ^ x), ← Nat.mul_assoc]
  unfold val5
  simp only [Nat.add_mul, Nat.mul_add]
  rw [t1 a0 r1, t1 a0 r2, t1 a0 r3, t1 a0 r4, t2 a1 r0, t2 a2 r0, t2 a3 r0, t2 a4 r0]
  rw [t a1 r1, t a1 r2, t a1 r3, t a1 r4, t a2 r1, t a2 r2, t a2 r3, t a2 r4, t a3 r1, t a3 r2, t a3 r3, t a3 r4, t a4 r1, t a4 r2, t a4 r3, t a4 r4]
  omega
