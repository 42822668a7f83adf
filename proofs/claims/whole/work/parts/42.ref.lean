/-! the reference's DIGEST -/
theorem shw_st (b : Nat → By) (i q : Nat) (h : q < 16 + i) : ∀ d, sh_w b (i + d) q = sh_w b i q := by
  intro d
  induction d with
  | zero => rfl
  | succ d ih => rw [← Nat.add_assoc, sh_w_keep b (i + d) q (by omega)]; exact ih
theorem shw_lo (b : Nat → By) {q : Nat} (h : q < 16) : sh_w b 48 q = sh_be b q := by
  have e := shw_st b 0 q (by omega) 48
  rw [Nat.zero_add] at e
  exact e
theorem shw_hi (b : Nat → By) {t : Nat} (h1 : 16 ≤ t) (h2 : t < 64) : sh_w b 48 t = sh_w b 48 (t - 16) + (rotr (sh_w b 48 (t - 15)) 7 ^^^ rotr (sh_w b 48 (t - 15)) 18 ^^^ sh_w b 48 (t - 15) >>> 3) + sh_w b 48 (t - 7) + (rotr (sh_w b 48 (t - 2)) 17 ^^^ rotr (sh_w b 48 (t - 2)) 19 ^^^ sh_w b 48 (t - 2) >>> 10) := by
  obtain ⟨i, rfl⟩ : ∃ i, t = 16 + i := ⟨t - 16, by omega⟩
  have k : ∀ q, q < 16 + i → sh_w b 48 q = sh_w b i q := fun q hq => by
    have e := shw_st b i q hq (48 - i)
    rw [show i + (48 - i) = 48 by omega] at e
    exact e
  have e := shw_st b (i + 1) (16 + i) (by omega) (47 - i)
  rw [show i + 1 + (47 - i) = 48 by omega, sh_w_new] at e
  rw [e, k (16 + i - 16) (by omega), k (16 + i - 15) (by omega), k (16 + i - 7) (by omega), k (16 + i - 2) (by omega), show 16 + i - 16 = i by omega, show 16 + i - 15 = i + 1 by omega, show 16 + i - 7 = i + 9 by omega, show 16 + i - 2 = i + 14 by omega]
  rfl
theorem be_s (x : Wd) (b : By) (h : x.toNat < 2 ^ 24) : (x <<< 8 ||| b.setWidth 32).toNat = x.toNat * 256 + b.toNat := by
  have hb := b.isLt
  rw [BitVec.toNat_or, BitVec.toNat_shiftLeft, BitVec.toNat_setWidth, Nat.shiftLeft_eq, Nat.mod_eq_of_lt (show x.toNat * 2 ^ 8 < 2 ^ 32 by omega), Nat.mod_eq_of_lt (show b.toNat < 2 ^ 32 by omega), Nat.or_comm, or_add (k := 8) (by omega)]
  omega
theorem be_nat (b : Nat → By) (q : Nat) : (((b (4 * q)).toNat * 256 + (b (4 * q + 1)).toNat) * 256 + (b (4 * q + 2)).toNat) * 256 + (b (4 * q + 3)).toNat = (sh_be b q).toNat := by
  have h0 := (b (4 * q)).isLt; have h1 := (b (4 * q + 1)).isLt; have h2 := (b (4 * q + 2)).isLt; have h3 := (b (4 * q + 3)).isLt
  unfold sh_be
  simp only [sh_pw, Nat.add_zero]
  have e0 : ((0 : Wd) <<< 8 ||| (b (4 * q)).setWidth 32).toNat = (b (4 * q)).toNat := by rw [be_s _ _ (by decide)]; simp
  have e1 := be_s ((0 : Wd) <<< 8 ||| (b (4 * q)).setWidth 32) (b (4 * q + 1)) (by rw [e0]; omega)
  rw [e0] at e1
  have e2 := be_s _ (b (4 * q + 2)) (by rw [e1]; omega)
  rw [e1] at e2
  have e3 := be_s _ (b (4 * q + 3)) (by rw [e2]; omega)
  rw [e2] at e3
  exact e3.symm
theorem ones_32 : ∀ k : Fin 32, (4294967295#32).getLsbD k.val = true := by decide
theorem ch_eq (e f g : Wd) : (e &&& f ||| (4294967295#32 ^^^ e) &&& g) = (e &&& f ^^^ (e ^^^ 4294967295#32) &&& g) := by
  rw [BitVec.xor_comm 4294967295#32 e]
  ext i hi
  simp only [BitVec.getElem_or, BitVec.getElem_xor, BitVec.getElem_and]
  have h1 : (4294967295#32)[i] = true := by
    rw [← BitVec.getLsbD_eq_getElem hi]
    exact ones_32 ⟨i, hi⟩
  rw [h1]
  cases e[i] <;> cases f[i] <;> cases g[i] <;> rfl
theorem maj_eq (a b c : Wd) : (a &&& b ||| a &&& c ||| b &&& c) = (a &&& b ^^^ a &&& c ^^^ b &&& c) := by
  ext i hi
  simp only [BitVec.getElem_or, BitVec.getElem_xor, BitVec.getElem_and]
  cases a[i] <;> cases b[i] <;> cases c[i] <;> rfl
theorem rot_s {sb s1 s2 R : Nat → Wd} {t : Nat} {k w a b : Wd} (ht : t < 64) (h : ∀ j, j < 8 → sb ((64 - t + j) % 8) = R j) (h1 : s1 = va_up sb (((64 - t) % 2 ^ 3 + 3) % 2 ^ 3) a) (h2 : s2 = va_up s1 (((64 - t) % 2 ^ 3 + 7) % 2 ^ 3) b) (ha : a = R 3 + sh_p k w R) (hb : b = sh_p k w R + sh_q R) : ∀ j, j < 8 → s2 ((64 - (t + 1) + j) % 8) = sh_rnd k w R j := by
  have far : ∀ j, 1 ≤ j → j < 8 → j ≠ 4 → s2 ((64 - (t + 1) + j) % 8) = R (j - 1) := fun j g1 g2 g3 => by
    rw [h2, h1]
    unfold va_up
    rw [if_neg (by omega), if_neg (by omega), ← h (j - 1) (by omega)]
    congr 1
    omega
  intro j hj
  match j, hj with
  | 0, _ => rw [h2]; unfold va_up; rw [if_pos (by omega), hb]; rfl
  | 1, _ => exact far 1 (by omega) (by omega) (by omega)
  | 2, _ => exact far 2 (by omega) (by omega) (by omega)
  | 3, _ => exact far 3 (by omega) (by omega) (by omega)
  | 4, _ => rw [h2, h1]; unfold va_up; rw [if_neg (by omega), if_pos (by omega), ha]; rfl
  | 5, _ => exact far 5 (by omega) (by omega) (by omega)
  | 6, _ => exact far 6 (by omega) (by omega) (by omega)
  | 7, _ => exact far 7 (by omega) (by omega) (by omega)
def pz (m : Nat → By) (n : Nat) : Nat → By := fun j => if j < n then m j else if j = n then 128#8 else 0#8
theorem pad_lo4 {m : Nat → By} {n j : Nat} (hn : n < 2 ^ 28) (hj : j < (n + 8) / 64 * 64 + 60) : pz m n j = sh_pad m n j := by
  unfold pz sh_pad
  by_cases h1 : j < n
  · rw [if_pos h1, if_pos h1]
  rw [if_neg h1, if_neg h1]
  by_cases h2 : j = n
  · rw [if_pos h2, if_pos h2]
  rw [if_neg h2, if_neg h2]
  by_cases h3 : (n + 8) / 64 * 64 + 56 ≤ j
  · rw [if_pos h3, Nat.div_eq_of_lt]
    have q : 2 ^ 32 ≤ 2 ^ (8 * ((n + 8) / 64 * 64 + 63 - j)) := Nat.pow_le_pow_right (by decide) (by omega)
    omega
  · rw [if_neg h3]
theorem pad_hi4 {m : Nat → By} {n k : Nat} (hk : k < 4) : BitVec.ofNat 8 (8 * n / 2 ^ (8 * k)) = sh_pad m n ((n + 8) / 64 * 64 + 64 - 1 - k) := by
  unfold sh_pad
  rw [if_neg (by omega), if_neg (by omega), if_pos (by omega), show (n + 8) / 64 * 64 + 63 - ((n + 8) / 64 * 64 + 64 - 1 - k) = k by omega]
theorem dX8_part_0 : decode cX8_part 0 = .ok (.iconst 0, 1) := by decide +kernel
theorem dX8_part_1 : decode cX8_part 1 = .ok (.istore_n 2, 1) := by decide +kernel
theorem dX8_part_2 : decode cX8_part 2 = .ok (.iload_n 2, 1) := by decide +kernel
theorem dX8_part_3 : decode cX8_part 3 = .ok (.bipush 64, 2) := by decide +kernel
theorem dX8_part_5 : decode cX8_part 5 = .ok (.if_icmp .ge 196, 3) := by decide +kernel
theorem dX8_part_8 : decode cX8_part 8 = .ok (.iload_n 2, 1) := by decide +kernel
theorem dX8_part_9 : decode cX8_part 9 = .ok (.bipush 16, 2) := by decide +kernel
theorem dX8_part_11 : decode cX8_part 11 = .ok (.if_icmp .ge 67, 3) := by decide +kernel
theorem dX8_part_14 : decode cX8_part 14 = .ok (.iload_n 1, 1) := by decide +kernel
theorem dX8_part_15 : decode cX8_part 15 = .ok (.iconst 4, 1) := by decide +kernel
theorem dX8_part_16 : decode cX8_part 16 = .ok (.iload_n 2, 1) := by decide +kernel
theorem dX8_part_17 : decode cX8_part 17 = .ok (.imul, 1) := by decide +kernel
theorem dX8_part_18 : decode cX8_part 18 = .ok (.iadd, 1) := by decide +kernel
theorem dX8_part_19 : decode cX8_part 19 = .ok (.istore_n 3, 1) := by decide +kernel
theorem dX8_part_20 : decode cX8_part 20 = .ok (.aload_n 0, 1) := by decide +kernel
theorem dX8_part_21 : decode cX8_part 21 = .ok (.getfield 53, 3) := by decide +kernel
theorem dX8_part_24 : decode cX8_part 24 = .ok (.iload_n 2, 1) := by decide +kernel
theorem dX8_part_25 : decode cX8_part 25 = .ok (.aload_n 0, 1) := by decide +kernel
theorem dX8_part_26 : decode cX8_part 26 = .ok (.getfield 50, 3) := by decide +kernel
theorem dX8_part_29 : decode cX8_part 29 = .ok (.iload_n 3, 1) := by decide +kernel
theorem dX8_part_30 : decode cX8_part 30 = .ok (.iaload, 1) := by decide +kernel
theorem dX8_part_31 : decode cX8_part 31 = .ok (.i2l, 1) := by decide +kernel
theorem dX8_part_32 : decode cX8_part 32 = .ok (.ldc2_w 136, 3) := by decide +kernel
theorem dX8_part_35 : decode cX8_part 35 = .ok (.lmul, 1) := by decide +kernel
theorem dX8_part_36 : decode cX8_part 36 = .ok (.aload_n 0, 1) := by decide +kernel
theorem dX8_part_37 : decode cX8_part 37 = .ok (.getfield 50, 3) := by decide +kernel
theorem dX8_part_40 : decode cX8_part 40 = .ok (.iload_n 3, 1) := by decide +kernel
theorem dX8_part_41 : decode cX8_part 41 = .ok (.iconst 1, 1) := by decide +kernel
theorem dX8_part_42 : decode cX8_part 42 = .ok (.iadd, 1) := by decide +kernel
theorem dX8_part_43 : decode cX8_part 43 = .ok (.iaload, 1) := by decide +kernel
theorem dX8_part_44 : decode cX8_part 44 = .ok (.i2l, 1) := by decide +kernel
theorem dX8_part_45 : decode cX8_part 45 = .ok (.ladd, 1) := by decide +kernel
theorem dX8_part_46 : decode cX8_part 46 = .ok (.ldc2_w 136, 3) := by decide +kernel
theorem dX8_part_49 : decode cX8_part 49 = .ok (.lmul, 1) := by decide +kernel
theorem dX8_part_50 : decode cX8_part 50 = .ok (.aload_n 0, 1) := by decide +kernel
theorem dX8_part_51 : decode cX8_part 51 = .ok (.getfield 50, 3) := by decide +kernel
theorem dX8_part_54 : decode cX8_part 54 = .ok (.iload_n 3, 1) := by decide +kernel
theorem dX8_part_55 : decode cX8_part 55 = .ok (.iconst 2, 1) := by decide +kernel
theorem dX8_part_56 : decode cX8_part 56 = .ok (.iadd, 1) := by decide +kernel
theorem dX8_part_57 : decode cX8_part 57 = .ok (.iaload, 1) := by decide +kernel
theorem dX8_part_58 : decode cX8_part 58 = .ok (.i2l, 1) := by decide +kernel
theorem dX8_part_59 : decode cX8_part 59 = .ok (.ladd, 1) := by decide +kernel
theorem dX8_part_60 : decode cX8_part 60 = .ok (.ldc2_w 136, 3) := by decide +kernel
theorem dX8_part_63 : decode cX8_part 63 = .ok (.lmul, 1) := by decide +kernel
theorem dX8_part_64 : decode cX8_part 64 = .ok (.aload_n 0, 1) := by decide +kernel
theorem dX8_part_65 : decode cX8_part 65 = .ok (.getfield 50, 3) := by decide +kernel
theorem dX8_part_68 : decode cX8_part 68 = .ok (.iload_n 3, 1) := by decide +kernel
theorem dX8_part_69 : decode cX8_part 69 = .ok (.iconst 3, 1) := by decide +kernel
theorem dX8_part_70 : decode cX8_part 70 = .ok (.iadd, 1) := by decide +kernel
theorem dX8_part_71 : decode cX8_part 71 = .ok (.iaload, 1) := by decide +kernel
theorem dX8_part_72 : decode cX8_part 72 = .ok (.i2l, 1) := by decide +kernel
theorem dX8_part_73 : decode cX8_part 73 = .ok (.ladd, 1) := by decide +kernel
theorem dX8_part_74 : decode cX8_part 74 = .ok (.lastore, 1) := by decide +kernel
theorem dX8_part_75 : decode cX8_part 75 = .ok (.goto 120, 3) := by decide +kernel
theorem dX8_part_78 : decode cX8_part 78 = .ok (.aload_n 0, 1) := by decide +kernel
theorem dX8_part_79 : decode cX8_part 79 = .ok (.getfield 53, 3) := by decide +kernel
theorem dX8_part_82 : decode cX8_part 82 = .ok (.iload_n 2, 1) := by decide +kernel
theorem dX8_part_83 : decode cX8_part 83 = .ok (.bipush 15, 2) := by decide +kernel
theorem dX8_part_85 : decode cX8_part 85 = .ok (.isub, 1) := by decide +kernel
theorem dX8_part_86 : decode cX8_part 86 = .ok (.laload, 1) := by decide +kernel
theorem dX8_part_87 : decode cX8_part 87 = .ok (.bipush 7, 2) := by decide +kernel
theorem dX8_part_89 : decode cX8_part 89 = .ok (.invokestatic 138, 3) := by decide +kernel
theorem dX8_part_92 : decode cX8_part 92 = .ok (.aload_n 0, 1) := by decide +kernel
theorem dX8_part_93 : decode cX8_part 93 = .ok (.getfield 53, 3) := by decide +kernel
theorem dX8_part_96 : decode cX8_part 96 = .ok (.iload_n 2, 1) := by decide +kernel
theorem dX8_part_97 : decode cX8_part 97 = .ok (.bipush 15, 2) := by decide +kernel
theorem dX8_part_99 : decode cX8_part 99 = .ok (.isub, 1) := by decide +kernel
theorem dX8_part_100 : decode cX8_part 100 = .ok (.laload, 1) := by decide +kernel
theorem dX8_part_101 : decode cX8_part 101 = .ok (.bipush 18, 2) := by decide +kernel
theorem dX8_part_103 : decode cX8_part 103 = .ok (.invokestatic 138, 3) := by decide +kernel
theorem dX8_part_106 : decode cX8_part 106 = .ok (.lxor, 1) := by decide +kernel
theorem dX8_part_107 : decode cX8_part 107 = .ok (.aload_n 0, 1) := by decide +kernel
theorem dX8_part_108 : decode cX8_part 108 = .ok (.getfield 53, 3) := by decide +kernel
theorem dX8_part_111 : decode cX8_part 111 = .ok (.iload_n 2, 1) := by decide +kernel
theorem dX8_part_112 : decode cX8_part 112 = .ok (.bipush 15, 2) := by decide +kernel
theorem dX8_part_114 : decode cX8_part 114 = .ok (.isub, 1) := by decide +kernel
theorem dX8_part_115 : decode cX8_part 115 = .ok (.laload, 1) := by decide +kernel
theorem dX8_part_116 : decode cX8_part 116 = .ok (.iconst 3, 1) := by decide +kernel
theorem dX8_part_117 : decode cX8_part 117 = .ok (.lshr, 1) := by decide +kernel
theorem dX8_part_118 : decode cX8_part 118 = .ok (.lxor, 1) := by decide +kernel
theorem dX8_part_119 : decode cX8_part 119 = .ok (.lstore_n 3, 1) := by decide +kernel
theorem dX8_part_120 : decode cX8_part 120 = .ok (.aload_n 0, 1) := by decide +kernel
theorem dX8_part_121 : decode cX8_part 121 = .ok (.getfield 53, 3) := by decide +kernel
theorem dX8_part_124 : decode cX8_part 124 = .ok (.iload_n 2, 1) := by decide +kernel
theorem dX8_part_125 : decode cX8_part 125 = .ok (.iconst 2, 1) := by decide +kernel
theorem dX8_part_126 : decode cX8_part 126 = .ok (.isub, 1) := by decide +kernel
theorem dX8_part_127 : decode cX8_part 127 = .ok (.laload, 1) := by decide +kernel
theorem dX8_part_128 : decode cX8_part 128 = .ok (.bipush 17, 2) := by decide +kernel
theorem dX8_part_130 : decode cX8_part 130 = .ok (.invokestatic 138, 3) := by decide +kernel
theorem dX8_part_133 : decode cX8_part 133 = .ok (.aload_n 0, 1) := by decide +kernel
theorem dX8_part_134 : decode cX8_part 134 = .ok (.getfield 53, 3) := by decide +kernel
theorem dX8_part_137 : decode cX8_part 137 = .ok (.iload_n 2, 1) := by decide +kernel
theorem dX8_part_138 : decode cX8_part 138 = .ok (.iconst 2, 1) := by decide +kernel
theorem dX8_part_139 : decode cX8_part 139 = .ok (.isub, 1) := by decide +kernel
theorem dX8_part_140 : decode cX8_part 140 = .ok (.laload, 1) := by decide +kernel
theorem dX8_part_141 : decode cX8_part 141 = .ok (.bipush 19, 2) := by decide +kernel
theorem dX8_part_143 : decode cX8_part 143 = .ok (.invokestatic 138, 3) := by decide +kernel
theorem dX8_part_146 : decode cX8_part 146 = .ok (.lxor, 1) := by decide +kernel
theorem dX8_part_147 : decode cX8_part 147 = .ok (.aload_n 0, 1) := by decide +kernel
theorem dX8_part_148 : decode cX8_part 148 = .ok (.getfield 53, 3) := by decide +kernel
theorem dX8_part_151 : decode cX8_part 151 = .ok (.iload_n 2, 1) := by decide +kernel
theorem dX8_part_152 : decode cX8_part 152 = .ok (.iconst 2, 1) := by decide +kernel
theorem dX8_part_153 : decode cX8_part 153 = .ok (.isub, 1) := by decide +kernel
theorem dX8_part_154 : decode cX8_part 154 = .ok (.laload, 1) := by decide +kernel
theorem dX8_part_155 : decode cX8_part 155 = .ok (.bipush 10, 2) := by decide +kernel
theorem dX8_part_157 : decode cX8_part 157 = .ok (.lshr, 1) := by decide +kernel
theorem dX8_part_158 : decode cX8_part 158 = .ok (.lxor, 1) := by decide +kernel
theorem dX8_part_159 : decode cX8_part 159 = .ok (.lstore 5, 2) := by decide +kernel
theorem dX8_part_161 : decode cX8_part 161 = .ok (.aload_n 0, 1) := by decide +kernel
theorem dX8_part_162 : decode cX8_part 162 = .ok (.getfield 53, 3) := by decide +kernel
theorem dX8_part_165 : decode cX8_part 165 = .ok (.iload_n 2, 1) := by decide +kernel
theorem dX8_part_166 : decode cX8_part 166 = .ok (.aload_n 0, 1) := by decide +kernel
theorem dX8_part_167 : decode cX8_part 167 = .ok (.getfield 53, 3) := by decide +kernel
theorem dX8_part_170 : decode cX8_part 170 = .ok (.iload_n 2, 1) := by decide +kernel
theorem dX8_part_171 : decode cX8_part 171 = .ok (.bipush 16, 2) := by decide +kernel
theorem dX8_part_173 : decode cX8_part 173 = .ok (.isub, 1) := by decide +kernel
theorem dX8_part_174 : decode cX8_part 174 = .ok (.laload, 1) := by decide +kernel
theorem dX8_part_175 : decode cX8_part 175 = .ok (.lload_n 3, 1) := by decide +kernel
theorem dX8_part_176 : decode cX8_part 176 = .ok (.ladd, 1) := by decide +kernel
theorem dX8_part_177 : decode cX8_part 177 = .ok (.aload_n 0, 1) := by decide +kernel
theorem dX8_part_178 : decode cX8_part 178 = .ok (.getfield 53, 3) := by decide +kernel
theorem dX8_part_181 : decode cX8_part 181 = .ok (.iload_n 2, 1) := by decide +kernel
theorem dX8_part_182 : decode cX8_part 182 = .ok (.bipush 7, 2) := by decide +kernel
theorem dX8_part_184 : decode cX8_part 184 = .ok (.isub, 1) := by decide +kernel
theorem dX8_part_185 : decode cX8_part 185 = .ok (.laload, 1) := by decide +kernel
theorem dX8_part_186 : decode cX8_part 186 = .ok (.ladd, 1) := by decide +kernel
theorem dX8_part_187 : decode cX8_part 187 = .ok (.lload 5, 2) := by decide +kernel
theorem dX8_part_189 : decode cX8_part 189 = .ok (.ladd, 1) := by decide +kernel
theorem dX8_part_190 : decode cX8_part 190 = .ok (.ldc2_w 123, 3) := by decide +kernel
theorem dX8_part_193 : decode cX8_part 193 = .ok (.land, 1) := by decide +kernel
theorem dX8_part_194 : decode cX8_part 194 = .ok (.lastore, 1) := by decide +kernel
theorem dX8_part_195 : decode cX8_part 195 = .ok (.iinc 2 1, 3) := by decide +kernel
theorem dX8_part_198 : decode cX8_part 198 = .ok (.goto (-196), 3) := by decide +kernel
theorem dX8_part_201 : decode cX8_part 201 = .ok (.iconst 0, 1) := by decide +kernel
theorem dX8_part_202 : decode cX8_part 202 = .ok (.istore_n 2, 1) := by decide +kernel
theorem dX8_part_203 : decode cX8_part 203 = .ok (.iload_n 2, 1) := by decide +kernel
theorem dX8_part_204 : decode cX8_part 204 = .ok (.bipush 8, 2) := by decide +kernel
theorem dX8_part_206 : decode cX8_part 206 = .ok (.if_icmp .ge 21, 3) := by decide +kernel
theorem dX8_part_209 : decode cX8_part 209 = .ok (.aload_n 0, 1) := by decide +kernel
theorem dX8_part_210 : decode cX8_part 210 = .ok (.getfield 59, 3) := by decide +kernel
theorem dX8_part_213 : decode cX8_part 213 = .ok (.iload_n 2, 1) := by decide +kernel
theorem dX8_part_214 : decode cX8_part 214 = .ok (.aload_n 0, 1) := by decide +kernel
theorem dX8_part_215 : decode cX8_part 215 = .ok (.getfield 56, 3) := by decide +kernel
theorem dX8_part_218 : decode cX8_part 218 = .ok (.iload_n 2, 1) := by decide +kernel
theorem dX8_part_219 : decode cX8_part 219 = .ok (.laload, 1) := by decide +kernel
theorem dX8_part_220 : decode cX8_part 220 = .ok (.lastore, 1) := by decide +kernel
theorem dX8_part_221 : decode cX8_part 221 = .ok (.iinc 2 1, 3) := by decide +kernel
theorem dX8_part_224 : decode cX8_part 224 = .ok (.goto (-21), 3) := by decide +kernel
theorem dX8_part_227 : decode cX8_part 227 = .ok (.iconst 0, 1) := by decide +kernel
theorem dX8_part_228 : decode cX8_part 228 = .ok (.istore_n 2, 1) := by decide +kernel
theorem dX8_part_229 : decode cX8_part 229 = .ok (.iload_n 2, 1) := by decide +kernel
theorem dX8_part_230 : decode cX8_part 230 = .ok (.bipush 64, 2) := by decide +kernel
theorem dX8_part_232 : decode cX8_part 232 = .ok (.if_icmp .ge 251, 3) := by decide +kernel
theorem dX8_part_235 : decode cX8_part 235 = .ok (.bipush 64, 2) := by decide +kernel
theorem dX8_part_237 : decode cX8_part 237 = .ok (.iload_n 2, 1) := by decide +kernel
theorem dX8_part_238 : decode cX8_part 238 = .ok (.isub, 1) := by decide +kernel
theorem dX8_part_239 : decode cX8_part 239 = .ok (.bipush 7, 2) := by decide +kernel
theorem dX8_part_241 : decode cX8_part 241 = .ok (.iand, 1) := by decide +kernel
theorem dX8_part_242 : decode cX8_part 242 = .ok (.istore_n 3, 1) := by decide +kernel
theorem dX8_part_243 : decode cX8_part 243 = .ok (.aload_n 0, 1) := by decide +kernel
theorem dX8_part_244 : decode cX8_part 244 = .ok (.getfield 59, 3) := by decide +kernel
theorem dX8_part_247 : decode cX8_part 247 = .ok (.iload_n 3, 1) := by decide +kernel
theorem dX8_part_248 : decode cX8_part 248 = .ok (.iconst 4, 1) := by decide +kernel
theorem dX8_part_249 : decode cX8_part 249 = .ok (.iadd, 1) := by decide +kernel
theorem dX8_part_250 : decode cX8_part 250 = .ok (.bipush 7, 2) := by decide +kernel
theorem dX8_part_252 : decode cX8_part 252 = .ok (.iand, 1) := by decide +kernel
theorem dX8_part_253 : decode cX8_part 253 = .ok (.laload, 1) := by decide +kernel
theorem dX8_part_254 : decode cX8_part 254 = .ok (.lstore 4, 2) := by decide +kernel
theorem dX8_part_256 : decode cX8_part 256 = .ok (.aload_n 0, 1) := by decide +kernel
theorem dX8_part_257 : decode cX8_part 257 = .ok (.getfield 59, 3) := by decide +kernel
theorem dX8_part_260 : decode cX8_part 260 = .ok (.iload_n 3, 1) := by decide +kernel
theorem dX8_part_261 : decode cX8_part 261 = .ok (.iconst 5, 1) := by decide +kernel
theorem dX8_part_262 : decode cX8_part 262 = .ok (.iadd, 1) := by decide +kernel
theorem dX8_part_263 : decode cX8_part 263 = .ok (.bipush 7, 2) := by decide +kernel
theorem dX8_part_265 : decode cX8_part 265 = .ok (.iand, 1) := by decide +kernel
theorem dX8_part_266 : decode cX8_part 266 = .ok (.laload, 1) := by decide +kernel
theorem dX8_part_267 : decode cX8_part 267 = .ok (.lstore 6, 2) := by decide +kernel
theorem dX8_part_269 : decode cX8_part 269 = .ok (.aload_n 0, 1) := by decide +kernel
theorem dX8_part_270 : decode cX8_part 270 = .ok (.getfield 59, 3) := by decide +kernel
theorem dX8_part_273 : decode cX8_part 273 = .ok (.iload_n 3, 1) := by decide +kernel
theorem dX8_part_274 : decode cX8_part 274 = .ok (.bipush 6, 2) := by decide +kernel
theorem dX8_part_276 : decode cX8_part 276 = .ok (.iadd, 1) := by decide +kernel
theorem dX8_part_277 : decode cX8_part 277 = .ok (.bipush 7, 2) := by decide +kernel
theorem dX8_part_279 : decode cX8_part 279 = .ok (.iand, 1) := by decide +kernel
theorem dX8_part_280 : decode cX8_part 280 = .ok (.laload, 1) := by decide +kernel
theorem dX8_part_281 : decode cX8_part 281 = .ok (.lstore 8, 2) := by decide +kernel
theorem dX8_part_283 : decode cX8_part 283 = .ok (.aload_n 0, 1) := by decide +kernel
theorem dX8_part_284 : decode cX8_part 284 = .ok (.getfield 59, 3) := by decide +kernel
theorem dX8_part_287 : decode cX8_part 287 = .ok (.iload_n 3, 1) := by decide +kernel
theorem dX8_part_288 : decode cX8_part 288 = .ok (.bipush 7, 2) := by decide +kernel
theorem dX8_part_290 : decode cX8_part 290 = .ok (.iadd, 1) := by decide +kernel
theorem dX8_part_291 : decode cX8_part 291 = .ok (.bipush 7, 2) := by decide +kernel
theorem dX8_part_293 : decode cX8_part 293 = .ok (.iand, 1) := by decide +kernel
theorem dX8_part_294 : decode cX8_part 294 = .ok (.laload, 1) := by decide +kernel
theorem dX8_part_295 : decode cX8_part 295 = .ok (.lload 4, 2) := by decide +kernel
theorem dX8_part_297 : decode cX8_part 297 = .ok (.bipush 6, 2) := by decide +kernel
theorem dX8_part_299 : decode cX8_part 299 = .ok (.invokestatic 138, 3) := by decide +kernel
theorem dX8_part_302 : decode cX8_part 302 = .ok (.lload 4, 2) := by decide +kernel
theorem dX8_part_304 : decode cX8_part 304 = .ok (.bipush 11, 2) := by decide +kernel
theorem dX8_part_306 : decode cX8_part 306 = .ok (.invokestatic 138, 3) := by decide +kernel
theorem dX8_part_309 : decode cX8_part 309 = .ok (.lxor, 1) := by decide +kernel
theorem dX8_part_310 : decode cX8_part 310 = .ok (.lload 4, 2) := by decide +kernel
theorem dX8_part_312 : decode cX8_part 312 = .ok (.bipush 25, 2) := by decide +kernel
theorem dX8_part_314 : decode cX8_part 314 = .ok (.invokestatic 138, 3) := by decide +kernel
theorem dX8_part_317 : decode cX8_part 317 = .ok (.lxor, 1) := by decide +kernel
theorem dX8_part_318 : decode cX8_part 318 = .ok (.ladd, 1) := by decide +kernel
theorem dX8_part_319 : decode cX8_part 319 = .ok (.lload 4, 2) := by decide +kernel
theorem dX8_part_321 : decode cX8_part 321 = .ok (.lload 6, 2) := by decide +kernel
theorem dX8_part_323 : decode cX8_part 323 = .ok (.land, 1) := by decide +kernel
theorem dX8_part_324 : decode cX8_part 324 = .ok (.ldc2_w 123, 3) := by decide +kernel
theorem dX8_part_327 : decode cX8_part 327 = .ok (.lload 4, 2) := by decide +kernel
theorem dX8_part_329 : decode cX8_part 329 = .ok (.lxor, 1) := by decide +kernel
theorem dX8_part_330 : decode cX8_part 330 = .ok (.lload 8, 2) := by decide +kernel
theorem dX8_part_332 : decode cX8_part 332 = .ok (.land, 1) := by decide +kernel
theorem dX8_part_333 : decode cX8_part 333 = .ok (.lor, 1) := by decide +kernel
theorem dX8_part_334 : decode cX8_part 334 = .ok (.ladd, 1) := by decide +kernel
theorem dX8_part_335 : decode cX8_part 335 = .ok (.aload_n 0, 1) := by decide +kernel
theorem dX8_part_336 : decode cX8_part 336 = .ok (.getfield 41, 3) := by decide +kernel
theorem dX8_part_339 : decode cX8_part 339 = .ok (.iload_n 2, 1) := by decide +kernel
theorem dX8_part_340 : decode cX8_part 340 = .ok (.laload, 1) := by decide +kernel
theorem dX8_part_341 : decode cX8_part 341 = .ok (.ladd, 1) := by decide +kernel
theorem dX8_part_342 : decode cX8_part 342 = .ok (.aload_n 0, 1) := by decide +kernel
theorem dX8_part_343 : decode cX8_part 343 = .ok (.getfield 53, 3) := by decide +kernel
theorem dX8_part_346 : decode cX8_part 346 = .ok (.iload_n 2, 1) := by decide +kernel
theorem dX8_part_347 : decode cX8_part 347 = .ok (.laload, 1) := by decide +kernel
theorem dX8_part_348 : decode cX8_part 348 = .ok (.ladd, 1) := by decide +kernel
theorem dX8_part_349 : decode cX8_part 349 = .ok (.lstore 10, 2) := by decide +kernel
theorem dX8_part_351 : decode cX8_part 351 = .ok (.aload_n 0, 1) := by decide +kernel
theorem dX8_part_352 : decode cX8_part 352 = .ok (.getfield 59, 3) := by decide +kernel
theorem dX8_part_355 : decode cX8_part 355 = .ok (.iload_n 3, 1) := by decide +kernel
theorem dX8_part_356 : decode cX8_part 356 = .ok (.laload, 1) := by decide +kernel
theorem dX8_part_357 : decode cX8_part 357 = .ok (.lstore 12, 2) := by decide +kernel
theorem dX8_part_359 : decode cX8_part 359 = .ok (.aload_n 0, 1) := by decide +kernel
theorem dX8_part_360 : decode cX8_part 360 = .ok (.getfield 59, 3) := by decide +kernel
theorem dX8_part_363 : decode cX8_part 363 = .ok (.iload_n 3, 1) := by decide +kernel
theorem dX8_part_364 : decode cX8_part 364 = .ok (.iconst 1, 1) := by decide +kernel
theorem dX8_part_365 : decode cX8_part 365 = .ok (.iadd, 1) := by decide +kernel
theorem dX8_part_366 : decode cX8_part 366 = .ok (.bipush 7, 2) := by decide +kernel
theorem dX8_part_368 : decode cX8_part 368 = .ok (.iand, 1) := by decide +kernel
theorem dX8_part_369 : decode cX8_part 369 = .ok (.laload, 1) := by decide +kernel
theorem dX8_part_370 : decode cX8_part 370 = .ok (.lstore 14, 2) := by decide +kernel
theorem dX8_part_372 : decode cX8_part 372 = .ok (.aload_n 0, 1) := by decide +kernel
theorem dX8_part_373 : decode cX8_part 373 = .ok (.getfield 59, 3) := by decide +kernel
theorem dX8_part_376 : decode cX8_part 376 = .ok (.iload_n 3, 1) := by decide +kernel
theorem dX8_part_377 : decode cX8_part 377 = .ok (.iconst 2, 1) := by decide +kernel
theorem dX8_part_378 : decode cX8_part 378 = .ok (.iadd, 1) := by decide +kernel
theorem dX8_part_379 : decode cX8_part 379 = .ok (.bipush 7, 2) := by decide +kernel
theorem dX8_part_381 : decode cX8_part 381 = .ok (.iand, 1) := by decide +kernel
theorem dX8_part_382 : decode cX8_part 382 = .ok (.laload, 1) := by decide +kernel
theorem dX8_part_383 : decode cX8_part 383 = .ok (.lstore 16, 2) := by decide +kernel
theorem dX8_part_385 : decode cX8_part 385 = .ok (.lload 12, 2) := by decide +kernel
theorem dX8_part_387 : decode cX8_part 387 = .ok (.iconst 2, 1) := by decide +kernel
theorem dX8_part_388 : decode cX8_part 388 = .ok (.invokestatic 138, 3) := by decide +kernel
theorem dX8_part_391 : decode cX8_part 391 = .ok (.lload 12, 2) := by decide +kernel
theorem dX8_part_393 : decode cX8_part 393 = .ok (.bipush 13, 2) := by decide +kernel
theorem dX8_part_395 : decode cX8_part 395 = .ok (.invokestatic 138, 3) := by decide +kernel
theorem dX8_part_398 : decode cX8_part 398 = .ok (.lxor, 1) := by decide +kernel
theorem dX8_part_399 : decode cX8_part 399 = .ok (.lload 12, 2) := by decide +kernel
theorem dX8_part_401 : decode cX8_part 401 = .ok (.bipush 22, 2) := by decide +kernel
theorem dX8_part_403 : decode cX8_part 403 = .ok (.invokestatic 138, 3) := by decide +kernel
theorem dX8_part_406 : decode cX8_part 406 = .ok (.lxor, 1) := by decide +kernel
theorem dX8_part_407 : decode cX8_part 407 = .ok (.lload 12, 2) := by decide +kernel
theorem dX8_part_409 : decode cX8_part 409 = .ok (.lload 14, 2) := by decide +kernel
theorem dX8_part_411 : decode cX8_part 411 = .ok (.land, 1) := by decide +kernel
theorem dX8_part_412 : decode cX8_part 412 = .ok (.lload 12, 2) := by decide +kernel
theorem dX8_part_414 : decode cX8_part 414 = .ok (.lload 16, 2) := by decide +kernel
theorem dX8_part_416 : decode cX8_part 416 = .ok (.land, 1) := by decide +kernel
theorem dX8_part_417 : decode cX8_part 417 = .ok (.lor, 1) := by decide +kernel
theorem dX8_part_418 : decode cX8_part 418 = .ok (.lload 14, 2) := by decide +kernel
theorem dX8_part_420 : decode cX8_part 420 = .ok (.lload 16, 2) := by decide +kernel
theorem dX8_part_422 : decode cX8_part 422 = .ok (.land, 1) := by decide +kernel
theorem dX8_part_423 : decode cX8_part 423 = .ok (.lor, 1) := by decide +kernel
theorem dX8_part_424 : decode cX8_part 424 = .ok (.ladd, 1) := by decide +kernel
theorem dX8_part_425 : decode cX8_part 425 = .ok (.lstore 18, 2) := by decide +kernel
theorem dX8_part_427 : decode cX8_part 427 = .ok (.aload_n 0, 1) := by decide +kernel
theorem dX8_part_428 : decode cX8_part 428 = .ok (.getfield 59, 3) := by decide +kernel
theorem dX8_part_431 : decode cX8_part 431 = .ok (.iload_n 3, 1) := by decide +kernel
theorem dX8_part_432 : decode cX8_part 432 = .ok (.iconst 3, 1) := by decide +kernel
theorem dX8_part_433 : decode cX8_part 433 = .ok (.iadd, 1) := by decide +kernel
theorem dX8_part_434 : decode cX8_part 434 = .ok (.bipush 7, 2) := by decide +kernel
theorem dX8_part_436 : decode cX8_part 436 = .ok (.iand, 1) := by decide +kernel
theorem dX8_part_437 : decode cX8_part 437 = .ok (.aload_n 0, 1) := by decide +kernel
theorem dX8_part_438 : decode cX8_part 438 = .ok (.getfield 59, 3) := by decide +kernel
theorem dX8_part_441 : decode cX8_part 441 = .ok (.iload_n 3, 1) := by decide +kernel
theorem dX8_part_442 : decode cX8_part 442 = .ok (.iconst 3, 1) := by decide +kernel
theorem dX8_part_443 : decode cX8_part 443 = .ok (.iadd, 1) := by decide +kernel
theorem dX8_part_444 : decode cX8_part 444 = .ok (.bipush 7, 2) := by decide +kernel
theorem dX8_part_446 : decode cX8_part 446 = .ok (.iand, 1) := by decide +kernel
theorem dX8_part_447 : decode cX8_part 447 = .ok (.laload, 1) := by decide +kernel
theorem dX8_part_448 : decode cX8_part 448 = .ok (.lload 10, 2) := by decide +kernel
theorem dX8_part_450 : decode cX8_part 450 = .ok (.ladd, 1) := by decide +kernel
theorem dX8_part_451 : decode cX8_part 451 = .ok (.ldc2_w 123, 3) := by decide +kernel
theorem dX8_part_454 : decode cX8_part 454 = .ok (.land, 1) := by decide +kernel
theorem dX8_part_455 : decode cX8_part 455 = .ok (.lastore, 1) := by decide +kernel
theorem dX8_part_456 : decode cX8_part 456 = .ok (.aload_n 0, 1) := by decide +kernel
theorem dX8_part_457 : decode cX8_part 457 = .ok (.getfield 59, 3) := by decide +kernel
theorem dX8_part_460 : decode cX8_part 460 = .ok (.iload_n 3, 1) := by decide +kernel
theorem dX8_part_461 : decode cX8_part 461 = .ok (.bipush 7, 2) := by decide +kernel
theorem dX8_part_463 : decode cX8_part 463 = .ok (.iadd, 1) := by decide +kernel
theorem dX8_part_464 : decode cX8_part 464 = .ok (.bipush 7, 2) := by decide +kernel
theorem dX8_part_466 : decode cX8_part 466 = .ok (.iand, 1) := by decide +kernel
theorem dX8_part_467 : decode cX8_part 467 = .ok (.lload 10, 2) := by decide +kernel
theorem dX8_part_469 : decode cX8_part 469 = .ok (.lload 18, 2) := by decide +kernel
theorem dX8_part_471 : decode cX8_part 471 = .ok (.ladd, 1) := by decide +kernel
theorem dX8_part_472 : decode cX8_part 472 = .ok (.ldc2_w 123, 3) := by decide +kernel
theorem dX8_part_475 : decode cX8_part 475 = .ok (.land, 1) := by decide +kernel
theorem dX8_part_476 : decode cX8_part 476 = .ok (.lastore, 1) := by decide +kernel
theorem dX8_part_477 : decode cX8_part 477 = .ok (.iinc 2 1, 3) := by decide +kernel
theorem dX8_part_480 : decode cX8_part 480 = .ok (.goto (-251), 3) := by decide +kernel
theorem dX8_part_483 : decode cX8_part 483 = .ok (.iconst 0, 1) := by decide +kernel
theorem dX8_part_484 : decode cX8_part 484 = .ok (.istore_n 2, 1) := by decide +kernel
theorem dX8_part_485 : decode cX8_part 485 = .ok (.iload_n 2, 1) := by decide +kernel
theorem dX8_part_486 : decode cX8_part 486 = .ok (.bipush 8, 2) := by decide +kernel
theorem dX8_part_488 : decode cX8_part 488 = .ok (.if_icmp .ge 32, 3) := by decide +kernel
theorem dX8_part_491 : decode cX8_part 491 = .ok (.aload_n 0, 1) := by decide +kernel
theorem dX8_part_492 : decode cX8_part 492 = .ok (.getfield 56, 3) := by decide +kernel
theorem dX8_part_495 : decode cX8_part 495 = .ok (.iload_n 2, 1) := by decide +kernel
theorem dX8_part_496 : decode cX8_part 496 = .ok (.aload_n 0, 1) := by decide +kernel
theorem dX8_part_497 : decode cX8_part 497 = .ok (.getfield 56, 3) := by decide +kernel
theorem dX8_part_500 : decode cX8_part 500 = .ok (.iload_n 2, 1) := by decide +kernel
theorem dX8_part_501 : decode cX8_part 501 = .ok (.laload, 1) := by decide +kernel
theorem dX8_part_502 : decode cX8_part 502 = .ok (.aload_n 0, 1) := by decide +kernel
theorem dX8_part_503 : decode cX8_part 503 = .ok (.getfield 59, 3) := by decide +kernel
theorem dX8_part_506 : decode cX8_part 506 = .ok (.iload_n 2, 1) := by decide +kernel
theorem dX8_part_507 : decode cX8_part 507 = .ok (.laload, 1) := by decide +kernel
theorem dX8_part_508 : decode cX8_part 508 = .ok (.ladd, 1) := by decide +kernel
theorem dX8_part_509 : decode cX8_part 509 = .ok (.ldc2_w 123, 3) := by decide +kernel
theorem dX8_part_512 : decode cX8_part 512 = .ok (.land, 1) := by decide +kernel
theorem dX8_part_513 : decode cX8_part 513 = .ok (.lastore, 1) := by decide +kernel
theorem dX8_part_514 : decode cX8_part 514 = .ok (.iinc 2 1, 3) := by decide +kernel
theorem dX8_part_517 : decode cX8_part 517 = .ok (.goto (-32), 3) := by decide +kernel
theorem dX8_part_520 : decode cX8_part 520 = .ok (.return_, 1) := by decide +kernel
set_option maxHeartbeats 4000000 in
set_option maxRecDepth 100000 in
theorem c_R_part (l : Launch) (D : va_G) (a0 : Nat) (p1 : Nat) (v_a0_thrown : Nat) (a0_tape : Nat) (v_a0_taped : Nat) (a0_out : Nat) (v_a0_outs : Nat) (a0_slots : Nat) (a0_kept : Nat) (a0_phase : Nat) (a0_secret : Nat) (a0_key : Nat) (a0_hide : Nat) (a0_iv : Nat) (a0_begin : Nat) (a0_each : Nat) (a0_root : Nat) (a0_power : Nat) (a0_work : Nat) (a0_w : Nat) (a0_h : Nat) (a0_state : Nat) (a0_sum : Nat) (a0_pad : Nat) (a0_text : Nat) (v_a0_texts : Nat) (a0_info : Nat) (v_a0_infos : Nat) (a0_made : Nat) (a0_blockKey : Nat) (a0_nonce : Nat) (a0_x : Nat) (a0_first : Nat) (a0_block : Nat) (a0_a : Nat) (a0_r : Nat) (a0_product : Nat) (a0_tag : Nat) (a0_sealed : Nat) (t_a0_work : Nat → By) (t_a0_w : Nat → Nat) (t_a0_h : Nat → Wd) (t_a0_state : Nat → Wd) (t_a0_each : Nat → Wd)  (h1 : p1 + 64 ≤ 2400) (he : ∀ j, j < 64 → t_a0_each j = shK j) : vM l D yX8_part cX8_part 20 none { frames := 1, cells := 0, slots := 0, locals := 22 } [.ref a0, .int (nI p1)] [(a0, .inr (8, [.int (nI v_a0_thrown), .ref a0_tape, .int (nI v_a0_taped), .ref a0_out, .int (nI v_a0_outs), .ref a0_slots, .ref a0_kept, .ref a0_phase, .ref a0_secret, .ref a0_key, .ref a0_hide, .ref a0_iv, .ref a0_begin, .ref a0_each, .ref a0_root, .ref a0_power, .ref a0_work, .ref a0_w, .ref a0_h, .ref a0_state, .ref a0_sum, .ref a0_pad, .ref a0_text, .int (nI v_a0_texts), .ref a0_info, .int (nI v_a0_infos), .ref a0_made, .ref a0_blockKey, .ref a0_nonce, .ref a0_x, .ref a0_first, .ref a0_block, .ref a0_a, .ref a0_r, .ref a0_product, .ref a0_tag, .ref a0_sealed])), (a0_work, aY D 2400 t_a0_work), (a0_w, aL D 64 t_a0_w), (a0_h, aM D 8 t_a0_h), (a0_state, aM D 8 t_a0_state), (a0_each, aM D 64 t_a0_each)] (fun r wo => ∃ (w1 : Nat → Nat) (th : Nat → Wd) (s1 : Nat → Wd), r = none ∧ wo = [(a0, .inr (8, [.int (nI v_a0_thrown), .ref a0_tape, .int (nI v_a0_taped), .ref a0_out, .int (nI v_a0_outs), .ref a0_slots, .ref a0_kept, .ref a0_phase, .ref a0_secret, .ref a0_key, .ref a0_hide, .ref a0_iv, .ref a0_begin, .ref a0_each, .ref a0_root, .ref a0_power, .ref a0_work, .ref a0_w, .ref a0_h, .ref a0_state, .ref a0_sum, .ref a0_pad, .ref a0_text, .int (nI v_a0_texts), .ref a0_info, .int (nI v_a0_infos), .ref a0_made, .ref a0_blockKey, .ref a0_nonce, .ref a0_x, .ref a0_first, .ref a0_block, .ref a0_a, .ref a0_r, .ref a0_product, .ref a0_tag, .ref a0_sealed])), (a0_work, aY D 2400 t_a0_work), (a0_w, aL D 64 w1), (a0_h, aM D 8 th), (a0_state, aM D 8 s1), (a0_each, aM D 64 t_a0_each)] ∧ (∀ j, j < 8 → th j = sh_c t_a0_h (fun j => t_a0_work (p1 + j)) j)) := by
  refine vM.of (by decide) (Nat.le_of_ble_eq_true rfl) (fun C hCl hCD g R => ?_)
  subst hCl; subst hCD
  show VJ C 0 0 0 [(0, .ref a0), (1, .int (nI p1))] [] [(a0, .inr (8, [.int (nI v_a0_thrown), .ref a0_tape, .int (nI v_a0_taped), .ref a0_out, .int (nI v_a0_outs), .ref a0_slots, .ref a0_kept, .ref a0_phase, .ref a0_secret, .ref a0_key, .ref a0_hide, .ref a0_iv, .ref a0_begin, .ref a0_each, .ref a0_root, .ref a0_power, .ref a0_work, .ref a0_w, .ref a0_h, .ref a0_state, .ref a0_sum, .ref a0_pad, .ref a0_text, .int (nI v_a0_texts), .ref a0_info, .int (nI v_a0_infos), .ref a0_made, .ref a0_blockKey, .ref a0_nonce, .ref a0_x, .ref a0_first, .ref a0_block, .ref a0_a, .ref a0_r, .ref a0_product, .ref a0_tag, .ref a0_sealed])), (a0_work, aY C.D 2400 t_a0_work), (a0_w, aL C.D 64 t_a0_w), (a0_h, aM C.D 8 t_a0_h), (a0_state, aM C.D 8 t_a0_state), (a0_each, aM C.D 64 t_a0_each)]
  refine v_iconst g dX8_part_0 (v := nI 0) (by decide +kernel) ?_
  refine v_istore_n g [(2, .int (nI 0)), (0, .ref a0), (1, .int (nI p1))] dX8_part_1 2 rfl (by decide) rfl ?_
  have L2_0 : ∀ t : Nat, t ≤ 64 → ∀ (wa : Nat → Nat), (∀ j, j < t → wa j = (sh_w (fun j => t_a0_work (p1 + j)) 48 j).toNat) → VJ C 0 0 2 [(2, .int (nI t)), (0, .ref a0), (1, .int (nI p1))] [] [(a0, .inr (8, [.int (nI v_a0_thrown), .ref a0_tape, .int (nI v_a0_taped), .ref a0_out, .int (nI v_a0_outs), .ref a0_slots, .ref a0_kept, .ref a0_phase, .ref a0_secret, .ref a0_key, .ref a0_hide, .ref a0_iv, .ref a0_begin, .ref a0_each, .ref a0_root, .ref a0_power, .ref a0_work, .ref a0_w, .ref a0_h, .ref a0_state, .ref a0_sum, .ref a0_pad, .ref a0_text, .int (nI v_a0_texts), .ref a0_info, .int (nI v_a0_infos), .ref a0_made, .ref a0_blockKey, .ref a0_nonce, .ref a0_x, .ref a0_first, .ref a0_block, .ref a0_a, .ref a0_r, .ref a0_product, .ref a0_tag, .ref a0_sealed])), (a0_work, aY C.D 2400 t_a0_work), (a0_w, aL C.D 64 wa), (a0_h, aM C.D 8 t_a0_h), (a0_state, aM C.D 8 t_a0_state), (a0_each, aM C.D 64 t_a0_each)] := by
    refine v_for (64) ?_ ?_
    · skip
      intro t hit ih wa hv0
      refine v_iload_n g dX8_part_2 2 rfl 0 rfl ?_
      refine v_bipush g dX8_part_3 (v := nI 64) (by decide +kernel) ?_
      refine v_icmp_geN g 201 dX8_part_5 (by decide) (by omega) (by omega) (fun h2 => ?_) (fun h2 => ?_)
      · skip
        exact absurd h2 (by omega)
      · skip
        refine v_iload_n g dX8_part_8 2 rfl 0 rfl ?_
        refine v_bipush g dX8_part_9 (v := nI 16) (by decide +kernel) ?_
        refine v_icmp_geN g 78 dX8_part_11 (by decide) (by omega) (by omega) (fun h3 => ?_) (fun h3 => ?_)
        · skip
          refine v_aload_n g dX8_part_78 0 rfl 1 rfl ?_
          refine gf_X8_53 g dX8_part_79 0 rfl rfl ?_
          refine v_iload_n g dX8_part_82 2 rfl 0 rfl ?_
          refine v_bipush g dX8_part_83 (v := nI 15) (by decide +kernel) ?_
          refine v_isubN g dX8_part_85 (by omega) ?_
          refine v_laldL g 2 rfl (by omega) (by decide) dX8_part_86 ?_
          refine v_tol (lN (sh_w (fun j => t_a0_work (p1 + j)) 48 (t - 15)).toNat) (congrArg lN (hv0 _ (by omega))) ?_
          refine v_bipush g dX8_part_87 (v := nI 7) (by decide +kernel) ?_
          refine v_callS (As := [.long (lN (sh_w (fun j => t_a0_work (p1 + j)) 48 (t - 15)).toNat), .int (nI 7)]) (rest := []) (wr := [(a0, .inr (8, [.int (nI v_a0_thrown), .ref a0_tape, .int (nI v_a0_taped), .ref a0_out, .int (nI v_a0_outs), .ref a0_slots, .ref a0_kept, .ref a0_phase, .ref a0_secret, .ref a0_key, .ref a0_hide, .ref a0_iv, .ref a0_begin, .ref a0_each, .ref a0_root, .ref a0_power, .ref a0_work, .ref a0_w, .ref a0_h, .ref a0_state, .ref a0_sum, .ref a0_pad, .ref a0_text, .int (nI v_a0_texts), .ref a0_info, .int (nI v_a0_infos), .ref a0_made, .ref a0_blockKey, .ref a0_nonce, .ref a0_x, .ref a0_first, .ref a0_block, .ref a0_a, .ref a0_r, .ref a0_product, .ref a0_tag, .ref a0_sealed])), (a0_work, aY C.D 2400 t_a0_work), (a0_w, aL C.D 64 wa), (a0_h, aM C.D 8 t_a0_h), (a0_state, aM C.D 8 t_a0_state), (a0_each, aM C.D 64 t_a0_each)]) cw_X8_138 (hy_X8_right) g (c_right C.l C.D (sh_w (fun j => t_a0_work (p1 + j)) 48 (t - 15)) 7 (by decide)) dX8_part_89 rfl (by decide) (by decide) (Nat.le_of_ble_eq_true rfl) [] [0, 1, 2, 3, 4, 5] rfl rfl (by decide) rfl (by decide) (by decide) _ rfl (fun r wo hp4 => ?_)
          obtain ⟨rfl, rfl⟩ := hp4
          show VJ C 0 0 92 [(2, .int (nI t)), (0, .ref a0), (1, .int (nI p1))] [.long (lN (rotr (sh_w (fun j => t_a0_work (p1 + j)) 48 (t - 15)) 7).toNat)] [(a0, .inr (8, [.int (nI v_a0_thrown), .ref a0_tape, .int (nI v_a0_taped), .ref a0_out, .int (nI v_a0_outs), .ref a0_slots, .ref a0_kept, .ref a0_phase, .ref a0_secret, .ref a0_key, .ref a0_hide, .ref a0_iv, .ref a0_begin, .ref a0_each, .ref a0_root, .ref a0_power, .ref a0_work, .ref a0_w, .ref a0_h, .ref a0_state, .ref a0_sum, .ref a0_pad, .ref a0_text, .int (nI v_a0_texts), .ref a0_info, .int (nI v_a0_infos), .ref a0_made, .ref a0_blockKey, .ref a0_nonce, .ref a0_x, .ref a0_first, .ref a0_block, .ref a0_a, .ref a0_r, .ref a0_product, .ref a0_tag, .ref a0_sealed])), (a0_work, aY C.D 2400 t_a0_work), (a0_w, aL C.D 64 wa), (a0_h, aM C.D 8 t_a0_h), (a0_state, aM C.D 8 t_a0_state), (a0_each, aM C.D 64 t_a0_each)]
          refine v_aload_n g dX8_part_92 0 rfl 1 rfl ?_
          refine gf_X8_53 g dX8_part_93 0 rfl rfl ?_
          refine v_iload_n g dX8_part_96 2 rfl 0 rfl ?_
          refine v_bipush g dX8_part_97 (v := nI 15) (by decide +kernel) ?_
          refine v_isubN g dX8_part_99 (by omega) ?_
          refine v_laldL g 2 rfl (by omega) (by decide) dX8_part_100 ?_
          refine v_tol (lN (sh_w (fun j => t_a0_work (p1 + j)) 48 (t - 15)).toNat) (congrArg lN (hv0 _ (by omega))) ?_
          refine v_bipush g dX8_part_101 (v := nI 18) (by decide +kernel) ?_
          refine v_callS (As := [.long (lN (sh_w (fun j => t_a0_work (p1 + j)) 48 (t - 15)).toNat), .int (nI 18)]) (rest := [.long (lN (rotr (sh_w (fun j => t_a0_work (p1 + j)) 48 (t - 15)) 7).toNat)]) (wr := [(a0, .inr (8, [.int (nI v_a0_thrown), .ref a0_tape, .int (nI v_a0_taped), .ref a0_out, .int (nI v_a0_outs), .ref a0_slots, .ref a0_kept, .ref a0_phase, .ref a0_secret, .ref a0_key, .ref a0_hide, .ref a0_iv, .ref a0_begin, .ref a0_each, .ref a0_root, .ref a0_power, .ref a0_work, .ref a0_w, .ref a0_h, .ref a0_state, .ref a0_sum, .ref a0_pad, .ref a0_text, .int (nI v_a0_texts), .ref a0_info, .int (nI v_a0_infos), .ref a0_made, .ref a0_blockKey, .ref a0_nonce, .ref a0_x, .ref a0_first, .ref a0_block, .ref a0_a, .ref a0_r, .ref a0_product, .ref a0_tag, .ref a0_sealed])), (a0_work, aY C.D 2400 t_a0_work), (a0_w, aL C.D 64 wa), (a0_h, aM C.D 8 t_a0_h), (a0_state, aM C.D 8 t_a0_state), (a0_each, aM C.D 64 t_a0_each)]) cw_X8_138 (hy_X8_right) g (c_right C.l C.D (sh_w (fun j => t_a0_work (p1 + j)) 48 (t - 15)) 18 (by decide)) dX8_part_103 rfl (by decide) (by decide) (Nat.le_of_ble_eq_true rfl) [] [0, 1, 2, 3, 4, 5] rfl rfl (by decide) rfl (by decide) (by decide) _ rfl (fun r wo hp5 => ?_)
          obtain ⟨rfl, rfl⟩ := hp5
          show VJ C 0 0 106 [(2, .int (nI t)), (0, .ref a0), (1, .int (nI p1))] [.long (lN (rotr (sh_w (fun j => t_a0_work (p1 + j)) 48 (t - 15)) 18).toNat), .long (lN (rotr (sh_w (fun j => t_a0_work (p1 + j)) 48 (t - 15)) 7).toNat)] [(a0, .inr (8, [.int (nI v_a0_thrown), .ref a0_tape, .int (nI v_a0_taped), .ref a0_out, .int (nI v_a0_outs), .ref a0_slots, .ref a0_kept, .ref a0_phase, .ref a0_secret, .ref a0_key, .ref a0_hide, .ref a0_iv, .ref a0_begin, .ref a0_each, .ref a0_root, .ref a0_power, .ref a0_work, .ref a0_w, .ref a0_h, .ref a0_state, .ref a0_sum, .ref a0_pad, .ref a0_text, .int (nI v_a0_texts), .ref a0_info, .int (nI v_a0_infos), .ref a0_made, .ref a0_blockKey, .ref a0_nonce, .ref a0_x, .ref a0_first, .ref a0_block, .ref a0_a, .ref a0_r, .ref a0_product, .ref a0_tag, .ref a0_sealed])), (a0_work, aY C.D 2400 t_a0_work), (a0_w, aL C.D 64 wa), (a0_h, aM C.D 8 t_a0_h), (a0_state, aM C.D 8 t_a0_state), (a0_each, aM C.D 64 t_a0_each)]
          refine v_lxorQ g (rotr (sh_w (fun j => t_a0_work (p1 + j)) 48 (t - 15)) 7) (rotr (sh_w (fun j => t_a0_work (p1 + j)) 48 (t - 15)) 18) rfl rfl dX8_part_106 ?_
          refine v_aload_n g dX8_part_107 0 rfl 1 rfl ?_
          refine gf_X8_53 g dX8_part_108 0 rfl rfl ?_
          refine v_iload_n g dX8_part_111 2 rfl 0 rfl ?_
          refine v_bipush g dX8_part_112 (v := nI 15) (by decide +kernel) ?_
          refine v_isubN g dX8_part_114 (by omega) ?_
          refine v_laldL g 2 rfl (by omega) (by decide) dX8_part_115 ?_
          refine v_tol (lN (sh_w (fun j => t_a0_work (p1 + j)) 48 (t - 15)).toNat) (congrArg lN (hv0 _ (by omega))) ?_
          refine v_iconst g dX8_part_116 (v := nI 3) (by decide +kernel) ?_
          refine v_lshrQ g (by decide) dX8_part_117 ?_
          refine v_lxorQ g ((rotr (sh_w (fun j => t_a0_work (p1 + j)) 48 (t - 15)) 7) ^^^ (rotr (sh_w (fun j => t_a0_work (p1 + j)) 48 (t - 15)) 18)) ((sh_w (fun j => t_a0_work (p1 + j)) 48 (t - 15)) >>> 3) rfl rfl dX8_part_118 ?_
          refine v_lstore_n g [(3, .long (lN (((rotr (sh_w (fun j => t_a0_work (p1 + j)) 48 (t - 15)) 7) ^^^ (rotr (sh_w (fun j => t_a0_work (p1 + j)) 48 (t - 15)) 18)) ^^^ ((sh_w (fun j => t_a0_work (p1 + j)) 48 (t - 15)) >>> 3)).toNat)), (2, .int (nI t)), (0, .ref a0), (1, .int (nI p1))] dX8_part_119 3 rfl (by decide) rfl ?_
          refine v_aload_n g dX8_part_120 0 rfl 2 rfl ?_
          refine gf_X8_53 g dX8_part_121 0 rfl rfl ?_
          refine v_iload_n g dX8_part_124 2 rfl 1 rfl ?_
          refine v_iconst g dX8_part_125 (v := nI 2) (by decide +kernel) ?_
          refine v_isubN g dX8_part_126 (by omega) ?_
          refine v_laldL g 2 rfl (by omega) (by decide) dX8_part_127 ?_
          refine v_tol (lN (sh_w (fun j => t_a0_work (p1 + j)) 48 (t - 2)).toNat) (congrArg lN (hv0 _ (by omega))) ?_
          refine v_bipush g dX8_part_128 (v := nI 17) (by decide +kernel) ?_
          refine v_callS (As := [.long (lN (sh_w (fun j => t_a0_work (p1 + j)) 48 (t - 2)).toNat), .int (nI 17)]) (rest := []) (wr := [(a0, .inr (8, [.int (nI v_a0_thrown), .ref a0_tape, .int (nI v_a0_taped), .ref a0_out, .int (nI v_a0_outs), .ref a0_slots, .ref a0_kept, .ref a0_phase, .ref a0_secret, .ref a0_key, .ref a0_hide, .ref a0_iv, .ref a0_begin, .ref a0_each, .ref a0_root, .ref a0_power, .ref a0_work, .ref a0_w, .ref a0_h, .ref a0_state, .ref a0_sum, .ref a0_pad, .ref a0_text, .int (nI v_a0_texts), .ref a0_info, .int (nI v_a0_infos), .ref a0_made, .ref a0_blockKey, .ref a0_nonce, .ref a0_x, .ref a0_first, .ref a0_block, .ref a0_a, .ref a0_r, .ref a0_product, .ref a0_tag, .ref a0_sealed])), (a0_work, aY C.D 2400 t_a0_work), (a0_w, aL C.D 64 wa), (a0_h, aM C.D 8 t_a0_h), (a0_state, aM C.D 8 t_a0_state), (a0_each, aM C.D 64 t_a0_each)]) cw_X8_138 (hy_X8_right) g (c_right C.l C.D (sh_w (fun j => t_a0_work (p1 + j)) 48 (t - 2)) 17 (by decide)) dX8_part_130 rfl (by decide) (by decide) (Nat.le_of_ble_eq_true rfl) [] [0, 1, 2, 3, 4, 5] rfl rfl (by decide) rfl (by decide) (by decide) _ rfl (fun r wo hp6 => ?_)
          obtain ⟨rfl, rfl⟩ := hp6
          show VJ C 0 0 133 [(3, .long (lN (((rotr (sh_w (fun j => t_a0_work (p1 + j)) 48 (t - 15)) 7) ^^^ (rotr (sh_w (fun j => t_a0_work (p1 + j)) 48 (t - 15)) 18)) ^^^ ((sh_w (fun j => t_a0_work (p1 + j)) 48 (t - 15)) >>> 3)).toNat)), (2, .int (nI t)), (0, .ref a0), (1, .int (nI p1))] [.long (lN (rotr (sh_w (fun j => t_a0_work (p1 + j)) 48 (t - 2)) 17).toNat)] [(a0, .inr (8, [.int (nI v_a0_thrown), .ref a0_tape, .int (nI v_a0_taped), .ref a0_out, .int (nI v_a0_outs), .ref a0_slots, .ref a0_kept, .ref a0_phase, .ref a0_secret, .ref a0_key, .ref a0_hide, .ref a0_iv, .ref a0_begin, .ref a0_each, .ref a0_root, .ref a0_power, .ref a0_work, .ref a0_w, .ref a0_h, .ref a0_state, .ref a0_sum, .ref a0_pad, .ref a0_text, .int (nI v_a0_texts), .ref a0_info, .int (nI v_a0_infos), .ref a0_made, .ref a0_blockKey, .ref a0_nonce, .ref a0_x, .ref a0_first, .ref a0_block, .ref a0_a, .ref a0_r, .ref a0_product, .ref a0_tag, .ref a0_sealed])), (a0_work, aY C.D 2400 t_a0_work), (a0_w, aL C.D 64 wa), (a0_h, aM C.D 8 t_a0_h), (a0_state, aM C.D 8 t_a0_state), (a0_each, aM C.D 64 t_a0_each)]
          refine v_aload_n g dX8_part_133 0 rfl 2 rfl ?_
          refine gf_X8_53 g dX8_part_134 0 rfl rfl ?_
          refine v_iload_n g dX8_part_137 2 rfl 1 rfl ?_
          refine v_iconst g dX8_part_138 (v := nI 2) (by decide +kernel) ?_
          refine v_isubN g dX8_part_139 (by omega) ?_
          refine v_laldL g 2 rfl (by omega) (by decide) dX8_part_140 ?_
          refine v_tol (lN (sh_w (fun j => t_a0_work (p1 + j)) 48 (t - 2)).toNat) (congrArg lN (hv0 _ (by omega))) ?_
          refine v_bipush g dX8_part_141 (v := nI 19) (by decide +kernel) ?_
          refine v_callS (As := [.long (lN (sh_w (fun j => t_a0_work (p1 + j)) 48 (t - 2)).toNat), .int (nI 19)]) (rest := [.long (lN (rotr (sh_w (fun j => t_a0_work (p1 + j)) 48 (t - 2)) 17).toNat)]) (wr := [(a0, .inr (8, [.int (nI v_a0_thrown), .ref a0_tape, .int (nI v_a0_taped), .ref a0_out, .int (nI v_a0_outs), .ref a0_slots, .ref a0_kept, .ref a0_phase, .ref a0_secret, .ref a0_key, .ref a0_hide, .ref a0_iv, .ref a0_begin, .ref a0_each, .ref a0_root, .ref a0_power, .ref a0_work, .ref a0_w, .ref a0_h, .ref a0_state, .ref a0_sum, .ref a0_pad, .ref a0_text, .int (nI v_a0_texts), .ref a0_info, .int (nI v_a0_infos), .ref a0_made, .ref a0_blockKey, .ref a0_nonce, .ref a0_x, .ref a0_first, .ref a0_block, .ref a0_a, .ref a0_r, .ref a0_product, .ref a0_tag, .ref a0_sealed])), (a0_work, aY C.D 2400 t_a0_work), (a0_w, aL C.D 64 wa), (a0_h, aM C.D 8 t_a0_h), (a0_state, aM C.D 8 t_a0_state), (a0_each, aM C.D 64 t_a0_each)]) cw_X8_138 (hy_X8_right) g (c_right C.l C.D (sh_w (fun j => t_a0_work (p1 + j)) 48 (t - 2)) 19 (by decide)) dX8_part_143 rfl (by decide) (by decide) (Nat.le_of_ble_eq_true rfl) [] [0, 1, 2, 3, 4, 5] rfl rfl (by decide) rfl (by decide) (by decide) _ rfl (fun r wo hp7 => ?_)
          obtain ⟨rfl, rfl⟩ := hp7
          show VJ C 0 0 146 [(3, .long (lN (((rotr (sh_w (fun j => t_a0_work (p1 + j)) 48 (t - 15)) 7) ^^^ (rotr (sh_w (fun j => t_a0_work (p1 + j)) 48 (t - 15)) 18)) ^^^ ((sh_w (fun j => t_a0_work (p1 + j)) 48 (t - 15)) >>> 3)).toNat)), (2, .int (nI t)), (0, .ref a0), (1, .int (nI p1))] [.long (lN (rotr (sh_w (fun j => t_a0_work (p1 + j)) 48 (t - 2)) 19).toNat), .long (lN (rotr (sh_w (fun j => t_a0_work (p1 + j)) 48 (t - 2)) 17).toNat)] [(a0, .inr (8, [.int (nI v_a0_thrown), .ref a0_tape, .int (nI v_a0_taped), .ref a0_out, .int (nI v_a0_outs), .ref a0_slots, .ref a0_kept, .ref a0_phase, .ref a0_secret, .ref a0_key, .ref a0_hide, .ref a0_iv, .ref a0_begin, .ref a0_each, .ref a0_root, .ref a0_power, .ref a0_work, .ref a0_w, .ref a0_h, .ref a0_state, .ref a0_sum, .ref a0_pad, .ref a0_text, .int (nI v_a0_texts), .ref a0_info, .int (nI v_a0_infos), .ref a0_made, .ref a0_blockKey, .ref a0_nonce, .ref a0_x, .ref a0_first, .ref a0_block, .ref a0_a, .ref a0_r, .ref a0_product, .ref a0_tag, .ref a0_sealed])), (a0_work, aY C.D 2400 t_a0_work), (a0_w, aL C.D 64 wa), (a0_h, aM C.D 8 t_a0_h), (a0_state, aM C.D 8 t_a0_state), (a0_each, aM C.D 64 t_a0_each)]
          refine v_lxorQ g (rotr (sh_w (fun j => t_a0_work (p1 + j)) 48 (t - 2)) 17) (rotr (sh_w (fun j => t_a0_work (p1 + j)) 48 (t - 2)) 19) rfl rfl dX8_part_146 ?_
          refine v_aload_n g dX8_part_147 0 rfl 2 rfl ?_
          refine gf_X8_53 g dX8_part_148 0 rfl rfl ?_
          refine v_iload_n g dX8_part_151 2 rfl 1 rfl ?_
          refine v_iconst g dX8_part_152 (v := nI 2) (by decide +kernel) ?_
          refine v_isubN g dX8_part_153 (by omega) ?_
          refine v_laldL g 2 rfl (by omega) (by decide) dX8_part_154 ?_
          refine v_tol (lN (sh_w (fun j => t_a0_work (p1 + j)) 48 (t - 2)).toNat) (congrArg lN (hv0 _ (by omega))) ?_
          refine v_bipush g dX8_part_155 (v := nI 10) (by decide +kernel) ?_
          refine v_lshrQ g (by decide) dX8_part_157 ?_
          refine v_lxorQ g ((rotr (sh_w (fun j => t_a0_work (p1 + j)) 48 (t - 2)) 17) ^^^ (rotr (sh_w (fun j => t_a0_work (p1 + j)) 48 (t - 2)) 19)) ((sh_w (fun j => t_a0_work (p1 + j)) 48 (t - 2)) >>> 10) rfl rfl dX8_part_158 ?_
          refine v_lstore g [(5, .long (lN (((rotr (sh_w (fun j => t_a0_work (p1 + j)) 48 (t - 2)) 17) ^^^ (rotr (sh_w (fun j => t_a0_work (p1 + j)) 48 (t - 2)) 19)) ^^^ ((sh_w (fun j => t_a0_work (p1 + j)) 48 (t - 2)) >>> 10)).toNat)), (3, .long (lN (((rotr (sh_w (fun j => t_a0_work (p1 + j)) 48 (t - 15)) 7) ^^^ (rotr (sh_w (fun j => t_a0_work (p1 + j)) 48 (t - 15)) 18)) ^^^ ((sh_w (fun j => t_a0_work (p1 + j)) 48 (t - 15)) >>> 3)).toNat)), (2, .int (nI t)), (0, .ref a0), (1, .int (nI p1))] dX8_part_159 (by decide) rfl ?_
          refine v_aload_n g dX8_part_161 0 rfl 3 rfl ?_
          refine gf_X8_53 g dX8_part_162 0 rfl rfl ?_
          refine v_iload_n g dX8_part_165 2 rfl 2 rfl ?_
          refine v_aload_n g dX8_part_166 0 rfl 3 rfl ?_
          refine gf_X8_53 g dX8_part_167 0 rfl rfl ?_
          refine v_iload_n g dX8_part_170 2 rfl 2 rfl ?_
          refine v_bipush g dX8_part_171 (v := nI 16) (by decide +kernel) ?_
          refine v_isubN g dX8_part_173 (by omega) ?_
          refine v_laldL g 2 rfl (by omega) (by decide) dX8_part_174 ?_
          refine v_tol (lN (sh_w (fun j => t_a0_work (p1 + j)) 48 (t - 16)).toNat) (congrArg lN (hv0 _ (by omega))) ?_
          refine v_lload_n g dX8_part_175 3 rfl 1 rfl ?_
          refine v_laddN g dX8_part_176 ?_
          refine v_aload_n g dX8_part_177 0 rfl 3 rfl ?_
          refine gf_X8_53 g dX8_part_178 0 rfl rfl ?_
          refine v_iload_n g dX8_part_181 2 rfl 2 rfl ?_
          refine v_bipush g dX8_part_182 (v := nI 7) (by decide +kernel) ?_
          refine v_isubN g dX8_part_184 (by omega) ?_
          refine v_laldL g 2 rfl (by omega) (by decide) dX8_part_185 ?_
          refine v_tol (lN (sh_w (fun j => t_a0_work (p1 + j)) 48 (t - 7)).toNat) (congrArg lN (hv0 _ (by omega))) ?_
          refine v_laddN g dX8_part_186 ?_
          refine v_lload g dX8_part_187 0 rfl ?_
          refine v_laddN g dX8_part_189 ?_
          refine v_ldc2 g dX8_part_190 kl_X8_123 ?_
          refine v_landM g 32 (by decide) dX8_part_193 ?_
          refine v_tol (lN ((sh_w (fun j => t_a0_work (p1 + j)) 48 (t - 16)) + (((rotr (sh_w (fun j => t_a0_work (p1 + j)) 48 (t - 15)) 7) ^^^ (rotr (sh_w (fun j => t_a0_work (p1 + j)) 48 (t - 15)) 18)) ^^^ ((sh_w (fun j => t_a0_work (p1 + j)) 48 (t - 15)) >>> 3)) + (sh_w (fun j => t_a0_work (p1 + j)) 48 (t - 7)) + (((rotr (sh_w (fun j => t_a0_work (p1 + j)) 48 (t - 2)) 17) ^^^ (rotr (sh_w (fun j => t_a0_work (p1 + j)) 48 (t - 2)) 19)) ^^^ ((sh_w (fun j => t_a0_work (p1 + j)) 48 (t - 2)) >>> 10))).toNat) (congrArg lN (sq_add (sq_add (sq_add (sq_b (sh_w (fun j => t_a0_work (p1 + j)) 48 (t - 16))) (sq_b (((rotr (sh_w (fun j => t_a0_work (p1 + j)) 48 (t - 15)) 7) ^^^ (rotr (sh_w (fun j => t_a0_work (p1 + j)) 48 (t - 15)) 18)) ^^^ ((sh_w (fun j => t_a0_work (p1 + j)) 48 (t - 15)) >>> 3)))) (sq_b (sh_w (fun j => t_a0_work (p1 + j)) 48 (t - 7)))) (sq_b (((rotr (sh_w (fun j => t_a0_work (p1 + j)) 48 (t - 2)) 17) ^^^ (rotr (sh_w (fun j => t_a0_work (p1 + j)) 48 (t - 2)) 19)) ^^^ ((sh_w (fun j => t_a0_work (p1 + j)) 48 (t - 2)) >>> 10))))) ?_
          obtain ⟨t8, ht8⟩ : ∃ z : Nat → Nat, z = va_up wa t (((sh_w (fun j => t_a0_work (p1 + j)) 48 (t - 16)) + (((rotr (sh_w (fun j => t_a0_work (p1 + j)) 48 (t - 15)) 7) ^^^ (rotr (sh_w (fun j => t_a0_work (p1 + j)) 48 (t - 15)) 18)) ^^^ ((sh_w (fun j => t_a0_work (p1 + j)) 48 (t - 15)) >>> 3)) + (sh_w (fun j => t_a0_work (p1 + j)) 48 (t - 7)) + (((rotr (sh_w (fun j => t_a0_work (p1 + j)) 48 (t - 2)) 17) ^^^ (rotr (sh_w (fun j => t_a0_work (p1 + j)) 48 (t - 2)) 19)) ^^^ ((sh_w (fun j => t_a0_work (p1 + j)) 48 (t - 2)) >>> 10))).toNat) := ⟨_, rfl⟩
          refine v_lastL g (((sh_w (fun j => t_a0_work (p1 + j)) 48 (t - 16)) + (((rotr (sh_w (fun j => t_a0_work (p1 + j)) 48 (t - 15)) 7) ^^^ (rotr (sh_w (fun j => t_a0_work (p1 + j)) 48 (t - 15)) 18)) ^^^ ((sh_w (fun j => t_a0_work (p1 + j)) 48 (t - 15)) >>> 3)) + (sh_w (fun j => t_a0_work (p1 + j)) 48 (t - 7)) + (((rotr (sh_w (fun j => t_a0_work (p1 + j)) 48 (t - 2)) 17) ^^^ (rotr (sh_w (fun j => t_a0_work (p1 + j)) 48 (t - 2)) 19)) ^^^ ((sh_w (fun j => t_a0_work (p1 + j)) 48 (t - 2)) >>> 10))).toNat) rfl t8 ht8 2 [(a0, .inr (8, [.int (nI v_a0_thrown), .ref a0_tape, .int (nI v_a0_taped), .ref a0_out, .int (nI v_a0_outs), .ref a0_slots, .ref a0_kept, .ref a0_phase, .ref a0_secret, .ref a0_key, .ref a0_hide, .ref a0_iv, .ref a0_begin, .ref a0_each, .ref a0_root, .ref a0_power, .ref a0_work, .ref a0_w, .ref a0_h, .ref a0_state, .ref a0_sum, .ref a0_pad, .ref a0_text, .int (nI v_a0_texts), .ref a0_info, .int (nI v_a0_infos), .ref a0_made, .ref a0_blockKey, .ref a0_nonce, .ref a0_x, .ref a0_first, .ref a0_block, .ref a0_a, .ref a0_r, .ref a0_product, .ref a0_tag, .ref a0_sealed])), (a0_work, aY C.D 2400 t_a0_work), (a0_w, aL C.D 64 t8), (a0_h, aM C.D 8 t_a0_h), (a0_state, aM C.D 8 t_a0_state), (a0_each, aM C.D 64 t_a0_each)] rfl (by omega) (by decide) dX8_part_194 rfl ?_
          refine v_iincN g 1 [(2, .int (nI (t + 1))), (5, .long (lN (((rotr (sh_w (fun j => t_a0_work (p1 + j)) 48 (t - 2)) 17) ^^^ (rotr (sh_w (fun j => t_a0_work (p1 + j)) 48 (t - 2)) 19)) ^^^ ((sh_w (fun j => t_a0_work (p1 + j)) 48 (t - 2)) >>> 10)).toNat)), (3, .long (lN (((rotr (sh_w (fun j => t_a0_work (p1 + j)) 48 (t - 15)) 7) ^^^ (rotr (sh_w (fun j => t_a0_work (p1 + j)) 48 (t - 15)) 18)) ^^^ ((sh_w (fun j => t_a0_work (p1 + j)) 48 (t - 15)) >>> 3)).toNat)), (0, .ref a0), (1, .int (nI p1))] dX8_part_195 2 rfl (by decide +kernel) (by decide) rfl ?_
          refine v_goto g 2 dX8_part_198 (by decide) ?_
          refine v_lpick [0, 3, 4] [(2, .int (nI (t + 1))), (0, .ref a0), (1, .int (nI p1))] rfl ?_
          exact ih t8 (up_lt (m := t) hv0 (congrArg BitVec.toNat (shw_hi (fun j => t_a0_work (p1 + j)) h3 (by omega)).symm) ht8)
        · skip
          have b0 := (t_a0_work (p1 + 4 * t)).isLt
          have b1 := (t_a0_work (p1 + 4 * t + 1)).isLt
          have b2 := (t_a0_work (p1 + 4 * t + 2)).isLt
          have b3 := (t_a0_work (p1 + 4 * t + 3)).isLt
          refine v_iload_n g dX8_part_14 1 rfl 2 rfl ?_
          refine v_iconst g dX8_part_15 (v := nI 4) (by decide +kernel) ?_
          refine v_iload_n g dX8_part_16 2 rfl 0 rfl ?_
          refine v_imulN g dX8_part_17 ?_
          refine v_iaddN g dX8_part_18 ?_
          refine v_istore_n g [(3, .int (nI (p1 + (4 * t)))), (2, .int (nI t)), (0, .ref a0), (1, .int (nI p1))] dX8_part_19 3 rfl (by decide) rfl ?_
          refine v_aload_n g dX8_part_20 0 rfl 2 rfl ?_
          refine gf_X8_53 g dX8_part_21 0 rfl rfl ?_
          refine v_iload_n g dX8_part_24 2 rfl 1 rfl ?_
          refine v_aload_n g dX8_part_25 0 rfl 2 rfl ?_
          refine gf_X8_50 g dX8_part_26 0 rfl rfl ?_
          refine v_iload_n g dX8_part_29 3 rfl 0 rfl ?_
          refine v_ialdY g 1 rfl (by omega) (by decide) dX8_part_30 ?_
          refine v_i2lN g (by omega) dX8_part_31 ?_
          refine v_ldc2 g dX8_part_32 kl_X8_136 ?_
          refine v_lmulN g dX8_part_35 ?_
          refine v_aload_n g dX8_part_36 0 rfl 2 rfl ?_
          refine gf_X8_50 g dX8_part_37 0 rfl rfl ?_
          refine v_iload_n g dX8_part_40 3 rfl 0 rfl ?_
          refine v_iconst g dX8_part_41 (v := nI 1) (by decide +kernel) ?_
          refine v_iaddN g dX8_part_42 ?_
          refine v_ialdY g 1 rfl (by omega) (by decide) dX8_part_43 ?_
          refine v_i2lN g (by omega) dX8_part_44 ?_
          refine v_laddN g dX8_part_45 ?_
          refine v_ldc2 g dX8_part_46 kl_X8_136 ?_
          refine v_lmulN g dX8_part_49 ?_
          refine v_aload_n g dX8_part_50 0 rfl 2 rfl ?_
          refine gf_X8_50 g dX8_part_51 0 rfl rfl ?_
          refine v_iload_n g dX8_part_54 3 rfl 0 rfl ?_
          refine v_iconst g dX8_part_55 (v := nI 2) (by decide +kernel) ?_
          refine v_iaddN g dX8_part_56 ?_
          refine v_ialdY g 1 rfl (by omega) (by decide) dX8_part_57 ?_
          refine v_i2lN g (by omega) dX8_part_58 ?_
          refine v_laddN g dX8_part_59 ?_
          refine v_ldc2 g dX8_part_60 kl_X8_136 ?_
          refine v_lmulN g dX8_part_63 ?_
          refine v_aload_n g dX8_part_64 0 rfl 2 rfl ?_
          refine gf_X8_50 g dX8_part_65 0 rfl rfl ?_
          refine v_iload_n g dX8_part_68 3 rfl 0 rfl ?_
          refine v_iconst g dX8_part_69 (v := nI 3) (by decide +kernel) ?_
          refine v_iaddN g dX8_part_70 ?_
          refine v_ialdY g 1 rfl (by omega) (by decide) dX8_part_71 ?_
          refine v_i2lN g (by omega) dX8_part_72 ?_
          refine v_laddN g dX8_part_73 ?_
          obtain ⟨t9, ht9⟩ : ∃ z : Nat → Nat, z = va_up wa t ((((((((t_a0_work (p1 + (4 * t))).toNat) * 256) + ((t_a0_work ((p1 + (4 * t)) + 1)).toNat)) * 256) + ((t_a0_work ((p1 + (4 * t)) + 2)).toNat)) * 256) + ((t_a0_work ((p1 + (4 * t)) + 3)).toNat)) := ⟨_, rfl⟩
          refine v_lastL g ((((((((t_a0_work (p1 + (4 * t))).toNat) * 256) + ((t_a0_work ((p1 + (4 * t)) + 1)).toNat)) * 256) + ((t_a0_work ((p1 + (4 * t)) + 2)).toNat)) * 256) + ((t_a0_work ((p1 + (4 * t)) + 3)).toNat)) rfl t9 ht9 2 [(a0, .inr (8, [.int (nI v_a0_thrown), .ref a0_tape, .int (nI v_a0_taped), .ref a0_out, .int (nI v_a0_outs), .ref a0_slots, .ref a0_kept, .ref a0_phase, .ref a0_secret, .ref a0_key, .ref a0_hide, .ref a0_iv, .ref a0_begin, .ref a0_each, .ref a0_root, .ref a0_power, .ref a0_work, .ref a0_w, .ref a0_h, .ref a0_state, .ref a0_sum, .ref a0_pad, .ref a0_text, .int (nI v_a0_texts), .ref a0_info, .int (nI v_a0_infos), .ref a0_made, .ref a0_blockKey, .ref a0_nonce, .ref a0_x, .ref a0_first, .ref a0_block, .ref a0_a, .ref a0_r, .ref a0_product, .ref a0_tag, .ref a0_sealed])), (a0_work, aY C.D 2400 t_a0_work), (a0_w, aL C.D 64 t9), (a0_h, aM C.D 8 t_a0_h), (a0_state, aM C.D 8 t_a0_state), (a0_each, aM C.D 64 t_a0_each)] rfl (by omega) (by decide) dX8_part_74 rfl ?_
          refine v_goto g 195 dX8_part_75 (by decide) ?_
          refine v_iincN g 1 [(2, .int (nI (t + 1))), (3, .int (nI (p1 + (4 * t)))), (0, .ref a0), (1, .int (nI p1))] dX8_part_195 1 rfl (by decide +kernel) (by decide) rfl ?_
          refine v_goto g 2 dX8_part_198 (by decide) ?_
          refine v_lpick [0, 2, 3] [(2, .int (nI (t + 1))), (0, .ref a0), (1, .int (nI p1))] rfl ?_
          exact ih t9 (up_lt (m := t) hv0 ((be_nat (fun j => t_a0_work (p1 + j)) t).trans (congrArg BitVec.toNat (shw_lo (fun j => t_a0_work (p1 + j)) h3).symm)) ht9)
    · skip
      intro wa hv0
      refine v_iload_n g dX8_part_2 2 rfl 0 rfl ?_
      refine v_bipush g dX8_part_3 (v := nI 64) (by decide +kernel) ?_
      refine v_icmp_geN g 201 dX8_part_5 (by decide) (by omega) (by omega) (fun h10 => ?_) (fun h10 => ?_)
      · skip
        have hwa := hv0
        refine v_iconst g dX8_part_201 (v := nI 0) (by decide +kernel) ?_
        refine v_istore_n g [(2, .int (nI 0)), (0, .ref a0), (1, .int (nI p1))] dX8_part_202 2 rfl (by decide) rfl ?_
        have L203_10 : ∀ i : Nat, i ≤ 8 → ∀ (sa : Nat → Wd), (∀ j, j < i → sa j = t_a0_h j) → VJ C 0 0 203 [(2, .int (nI i)), (0, .ref a0), (1, .int (nI p1))] [] [(a0, .inr (8, [.int (nI v_a0_thrown), .ref a0_tape, .int (nI v_a0_taped), .ref a0_out, .int (nI v_a0_outs), .ref a0_slots, .ref a0_kept, .ref a0_phase, .ref a0_secret, .ref a0_key, .ref a0_hide, .ref a0_iv, .ref a0_begin, .ref a0_each, .ref a0_root, .ref a0_power, .ref a0_work, .ref a0_w, .ref a0_h, .ref a0_state, .ref a0_sum, .ref a0_pad, .ref a0_text, .int (nI v_a0_texts), .ref a0_info, .int (nI v_a0_infos), .ref a0_made, .ref a0_blockKey, .ref a0_nonce, .ref a0_x, .ref a0_first, .ref a0_block, .ref a0_a, .ref a0_r, .ref a0_product, .ref a0_tag, .ref a0_sealed])), (a0_work, aY C.D 2400 t_a0_work), (a0_w, aL C.D 64 wa), (a0_h, aM C.D 8 t_a0_h), (a0_state, aM C.D 8 sa), (a0_each, aM C.D 64 t_a0_each)] := by
          refine v_for (8) ?_ ?_
          · skip
            intro i hii ih sa hv0
            refine v_iload_n g dX8_part_203 2 rfl 0 rfl ?_
            refine v_bipush g dX8_part_204 (v := nI 8) (by decide +kernel) ?_
            refine v_icmp_geN g 227 dX8_part_206 (by decide) (by omega) (by omega) (fun h11 => ?_) (fun h11 => ?_)
            · skip
              exact absurd h11 (by omega)
            · skip
              refine v_aload_n g dX8_part_209 0 rfl 1 rfl ?_
              refine gf_X8_59 g dX8_part_210 0 rfl rfl ?_
              refine v_iload_n g dX8_part_213 2 rfl 0 rfl ?_
              refine v_aload_n g dX8_part_214 0 rfl 1 rfl ?_
              refine gf_X8_56 g dX8_part_215 0 rfl rfl ?_
              refine v_iload_n g dX8_part_218 2 rfl 0 rfl ?_
              refine v_laldM g 3 rfl (by omega) (by decide) dX8_part_219 ?_
              obtain ⟨t12, ht12⟩ : ∃ z : Nat → Wd, z = va_up sa i (t_a0_h i) := ⟨_, rfl⟩
              refine v_lastM g (t_a0_h i) rfl t12 ht12 4 [(a0, .inr (8, [.int (nI v_a0_thrown), .ref a0_tape, .int (nI v_a0_taped), .ref a0_out, .int (nI v_a0_outs), .ref a0_slots, .ref a0_kept, .ref a0_phase, .ref a0_secret, .ref a0_key, .ref a0_hide, .ref a0_iv, .ref a0_begin, .ref a0_each, .ref a0_root, .ref a0_power, .ref a0_work, .ref a0_w, .ref a0_h, .ref a0_state, .ref a0_sum, .ref a0_pad, .ref a0_text, .int (nI v_a0_texts), .ref a0_info, .int (nI v_a0_infos), .ref a0_made, .ref a0_blockKey, .ref a0_nonce, .ref a0_x, .ref a0_first, .ref a0_block, .ref a0_a, .ref a0_r, .ref a0_product, .ref a0_tag, .ref a0_sealed])), (a0_work, aY C.D 2400 t_a0_work), (a0_w, aL C.D 64 wa), (a0_h, aM C.D 8 t_a0_h), (a0_state, aM C.D 8 t12), (a0_each, aM C.D 64 t_a0_each)] rfl (by omega) (by decide) dX8_part_220 rfl ?_
              refine v_iincN g 1 [(2, .int (nI (i + 1))), (0, .ref a0), (1, .int (nI p1))] dX8_part_221 0 rfl (by decide +kernel) (by decide) rfl ?_
              refine v_goto g 203 dX8_part_224 (by decide) ?_
              exact ih t12 (up_lt (m := i) hv0 rfl ht12)
          · skip
            intro sa hv0
            refine v_iload_n g dX8_part_203 2 rfl 0 rfl ?_
            refine v_bipush g dX8_part_204 (v := nI 8) (by decide +kernel) ?_
            refine v_icmp_geN g 227 dX8_part_206 (by decide) (by omega) (by omega) (fun h13 => ?_) (fun h13 => ?_)
            · skip
              have hsa := hv0
              refine v_iconst g dX8_part_227 (v := nI 0) (by decide +kernel) ?_
              refine v_istore_n g [(2, .int (nI 0)), (0, .ref a0), (1, .int (nI p1))] dX8_part_228 2 rfl (by decide) rfl ?_
              have L229_13 : ∀ t : Nat, t ≤ 64 → ∀ (sb : Nat → Wd), (∀ j, j < 8 → sb ((64 - t + j) % 8) = sh_R (sh_w (fun j => t_a0_work (p1 + j)) 48) t_a0_h t j) → VJ C 0 0 229 [(2, .int (nI t)), (0, .ref a0), (1, .int (nI p1))] [] [(a0, .inr (8, [.int (nI v_a0_thrown), .ref a0_tape, .int (nI v_a0_taped), .ref a0_out, .int (nI v_a0_outs), .ref a0_slots, .ref a0_kept, .ref a0_phase, .ref a0_secret, .ref a0_key, .ref a0_hide, .ref a0_iv, .ref a0_begin, .ref a0_each, .ref a0_root, .ref a0_power, .ref a0_work, .ref a0_w, .ref a0_h, .ref a0_state, .ref a0_sum, .ref a0_pad, .ref a0_text, .int (nI v_a0_texts), .ref a0_info, .int (nI v_a0_infos), .ref a0_made, .ref a0_blockKey, .ref a0_nonce, .ref a0_x, .ref a0_first, .ref a0_block, .ref a0_a, .ref a0_r, .ref a0_product, .ref a0_tag, .ref a0_sealed])), (a0_work, aY C.D 2400 t_a0_work), (a0_w, aL C.D 64 wa), (a0_h, aM C.D 8 t_a0_h), (a0_state, aM C.D 8 sb), (a0_each, aM C.D 64 t_a0_each)] := by
                refine v_for (64) ?_ ?_
                · skip
                  intro t hit ih sb hv0
                  refine v_iload_n g dX8_part_229 2 rfl 0 rfl ?_
                  refine v_bipush g dX8_part_230 (v := nI 64) (by decide +kernel) ?_
                  refine v_icmp_geN g 483 dX8_part_232 (by decide) (by omega) (by omega) (fun h14 => ?_) (fun h14 => ?_)
                  · skip
                    exact absurd h14 (by omega)
                  · skip
                    obtain ⟨R, hR⟩ : ∃ z : Nat → Wd, z = sh_R (sh_w (fun j => t_a0_work (p1 + j)) 48) t_a0_h t := ⟨_, rfl⟩
                    rw [← hR] at hv0
                    refine v_bipush g dX8_part_235 (v := nI 64) (by decide +kernel) ?_
                    refine v_iload_n g dX8_part_237 2 rfl 0 rfl ?_
                    refine v_isubN g dX8_part_238 (by omega) ?_
                    refine v_bipush g dX8_part_239 (v := nI 7) (by decide +kernel) ?_
                    refine v_iandM g 3 (by decide) dX8_part_241 ?_
                    refine v_istore_n g [(3, .int (nI ((64 - t) % 2 ^ 3))), (2, .int (nI t)), (0, .ref a0), (1, .int (nI p1))] dX8_part_242 3 rfl (by decide) rfl ?_
                    refine v_aload_n g dX8_part_243 0 rfl 2 rfl ?_
                    refine gf_X8_59 g dX8_part_244 0 rfl rfl ?_
                    refine v_iload_n g dX8_part_247 3 rfl 0 rfl ?_
                    refine v_iconst g dX8_part_248 (v := nI 4) (by decide +kernel) ?_
                    refine v_iaddN g dX8_part_249 ?_
                    refine v_bipush g dX8_part_250 (v := nI 7) (by decide +kernel) ?_
                    refine v_iandM g 3 (by decide) dX8_part_252 ?_
                    refine v_laldM g 4 rfl (by omega) (by decide) dX8_part_253 ?_
                    refine v_tol (lN (R 4).toNat) (congrArg (fun z : Wd => lN z.toNat) ((congrArg sb (show ((((64 - t) % 2 ^ 3) + 4) % 2 ^ 3) = (64 - t + 4) % 8 by omega)).trans (hv0 4 (by decide)))) ?_
                    refine v_lstore g [(4, .long (lN (R 4).toNat)), (3, .int (nI ((64 - t) % 2 ^ 3))), (2, .int (nI t)), (0, .ref a0), (1, .int (nI p1))] dX8_part_254 (by decide) rfl ?_
                    refine v_aload_n g dX8_part_256 0 rfl 3 rfl ?_
                    refine gf_X8_59 g dX8_part_257 0 rfl rfl ?_
                    refine v_iload_n g dX8_part_260 3 rfl 1 rfl ?_
                    refine v_iconst g dX8_part_261 (v := nI 5) (by decide +kernel) ?_
                    refine v_iaddN g dX8_part_262 ?_
                    refine v_bipush g dX8_part_263 (v := nI 7) (by decide +kernel) ?_
                    refine v_iandM g 3 (by decide) dX8_part_265 ?_
                    refine v_laldM g 4 rfl (by omega) (by decide) dX8_part_266 ?_
                    refine v_tol (lN (R 5).toNat) (congrArg (fun z : Wd => lN z.toNat) ((congrArg sb (show ((((64 - t) % 2 ^ 3) + 5) % 2 ^ 3) = (64 - t + 5) % 8 by omega)).trans (hv0 5 (by decide)))) ?_
                    refine v_lstore g [(6, .long (lN (R 5).toNat)), (4, .long (lN (R 4).toNat)), (3, .int (nI ((64 - t) % 2 ^ 3))), (2, .int (nI t)), (0, .ref a0), (1, .int (nI p1))] dX8_part_267 (by decide) rfl ?_
                    refine v_aload_n g dX8_part_269 0 rfl 4 rfl ?_
                    refine gf_X8_59 g dX8_part_270 0 rfl rfl ?_
                    refine v_iload_n g dX8_part_273 3 rfl 2 rfl ?_
                    refine v_bipush g dX8_part_274 (v := nI 6) (by decide +kernel) ?_
                    refine v_iaddN g dX8_part_276 ?_
                    refine v_bipush g dX8_part_277 (v := nI 7) (by decide +kernel) ?_
                    refine v_iandM g 3 (by decide) dX8_part_279 ?_
                    refine v_laldM g 4 rfl (by omega) (by decide) dX8_part_280 ?_
                    refine v_tol (lN (R 6).toNat) (congrArg (fun z : Wd => lN z.toNat) ((congrArg sb (show ((((64 - t) % 2 ^ 3) + 6) % 2 ^ 3) = (64 - t + 6) % 8 by omega)).trans (hv0 6 (by decide)))) ?_
                    refine v_lstore g [(8, .long (lN (R 6).toNat)), (6, .long (lN (R 5).toNat)), (4, .long (lN (R 4).toNat)), (3, .int (nI ((64 - t) % 2 ^ 3))), (2, .int (nI t)), (0, .ref a0), (1, .int (nI p1))] dX8_part_281 (by decide) rfl ?_
                    refine v_aload_n g dX8_part_283 0 rfl 5 rfl ?_
                    refine gf_X8_59 g dX8_part_284 0 rfl rfl ?_
                    refine v_iload_n g dX8_part_287 3 rfl 3 rfl ?_
                    refine v_bipush g dX8_part_288 (v := nI 7) (by decide +kernel) ?_
                    refine v_iaddN g dX8_part_290 ?_
                    refine v_bipush g dX8_part_291 (v := nI 7) (by decide +kernel) ?_
                    refine v_iandM g 3 (by decide) dX8_part_293 ?_
                    refine v_laldM g 4 rfl (by omega) (by decide) dX8_part_294 ?_
                    refine v_tol (lN (R 7).toNat) (congrArg (fun z : Wd => lN z.toNat) ((congrArg sb (show ((((64 - t) % 2 ^ 3) + 7) % 2 ^ 3) = (64 - t + 7) % 8 by omega)).trans (hv0 7 (by decide)))) ?_
                    refine v_lload g dX8_part_295 2 rfl ?_
                    refine v_bipush g dX8_part_297 (v := nI 6) (by decide +kernel) ?_
                    refine v_callS (As := [.long (lN (R 4).toNat), .int (nI 6)]) (rest := [.long (lN (R 7).toNat)]) (wr := [(a0, .inr (8, [.int (nI v_a0_thrown), .ref a0_tape, .int (nI v_a0_taped), .ref a0_out, .int (nI v_a0_outs), .ref a0_slots, .ref a0_kept, .ref a0_phase, .ref a0_secret, .ref a0_key, .ref a0_hide, .ref a0_iv, .ref a0_begin, .ref a0_each, .ref a0_root, .ref a0_power, .ref a0_work, .ref a0_w, .ref a0_h, .ref a0_state, .ref a0_sum, .ref a0_pad, .ref a0_text, .int (nI v_a0_texts), .ref a0_info, .int (nI v_a0_infos), .ref a0_made, .ref a0_blockKey, .ref a0_nonce, .ref a0_x, .ref a0_first, .ref a0_block, .ref a0_a, .ref a0_r, .ref a0_product, .ref a0_tag, .ref a0_sealed])), (a0_work, aY C.D 2400 t_a0_work), (a0_w, aL C.D 64 wa), (a0_h, aM C.D 8 t_a0_h), (a0_state, aM C.D 8 sb), (a0_each, aM C.D 64 t_a0_each)]) cw_X8_138 (hy_X8_right) g (c_right C.l C.D (R 4) 6 (by decide)) dX8_part_299 rfl (by decide) (by decide) (Nat.le_of_ble_eq_true rfl) [] [0, 1, 2, 3, 4, 5] rfl rfl (by decide) rfl (by decide) (by decide) _ rfl (fun r wo hp15 => ?_)
                    obtain ⟨rfl, rfl⟩ := hp15
                    show VJ C 0 0 302 [(8, .long (lN (R 6).toNat)), (6, .long (lN (R 5).toNat)), (4, .long (lN (R 4).toNat)), (3, .int (nI ((64 - t) % 2 ^ 3))), (2, .int (nI t)), (0, .ref a0), (1, .int (nI p1))] [.long (lN (rotr (R 4) 6).toNat), .long (lN (R 7).toNat)] [(a0, .inr (8, [.int (nI v_a0_thrown), .ref a0_tape, .int (nI v_a0_taped), .ref a0_out, .int (nI v_a0_outs), .ref a0_slots, .ref a0_kept, .ref a0_phase, .ref a0_secret, .ref a0_key, .ref a0_hide, .ref a0_iv, .ref a0_begin, .ref a0_each, .ref a0_root, .ref a0_power, .ref a0_work, .ref a0_w, .ref a0_h, .ref a0_state, .ref a0_sum, .ref a0_pad, .ref a0_text, .int (nI v_a0_texts), .ref a0_info, .int (nI v_a0_infos), .ref a0_made, .ref a0_blockKey, .ref a0_nonce, .ref a0_x, .ref a0_first, .ref a0_block, .ref a0_a, .ref a0_r, .ref a0_product, .ref a0_tag, .ref a0_sealed])), (a0_work, aY C.D 2400 t_a0_work), (a0_w, aL C.D 64 wa), (a0_h, aM C.D 8 t_a0_h), (a0_state, aM C.D 8 sb), (a0_each, aM C.D 64 t_a0_each)]
                    refine v_lload g dX8_part_302 2 rfl ?_
                    refine v_bipush g dX8_part_304 (v := nI 11) (by decide +kernel) ?_
                    refine v_callS (As := [.long (lN (R 4).toNat), .int (nI 11)]) (rest := [.long (lN (rotr (R 4) 6).toNat), .long (lN (R 7).toNat)]) (wr := [(a0, .inr (8, [.int (nI v_a0_thrown), .ref a0_tape, .int (nI v_a0_taped), .ref a0_out, .int (nI v_a0_outs), .ref a0_slots, .ref a0_kept, .ref a0_phase, .ref a0_secret, .ref a0_key, .ref a0_hide, .ref a0_iv, .ref a0_begin, .ref a0_each, .ref a0_root, .ref a0_power, .ref a0_work, .ref a0_w, .ref a0_h, .ref a0_state, .ref a0_sum, .ref a0_pad, .ref a0_text, .int (nI v_a0_texts), .ref a0_info, .int (nI v_a0_infos), .ref a0_made, .ref a0_blockKey, .ref a0_nonce, .ref a0_x, .ref a0_first, .ref a0_block, .ref a0_a, .ref a0_r, .ref a0_product, .ref a0_tag, .ref a0_sealed])), (a0_work, aY C.D 2400 t_a0_work), (a0_w, aL C.D 64 wa), (a0_h, aM C.D 8 t_a0_h), (a0_state, aM C.D 8 sb), (a0_each, aM C.D 64 t_a0_each)]) cw_X8_138 (hy_X8_right) g (c_right C.l C.D (R 4) 11 (by decide)) dX8_part_306 rfl (by decide) (by decide) (Nat.le_of_ble_eq_true rfl) [] [0, 1, 2, 3, 4, 5] rfl rfl (by decide) rfl (by decide) (by decide) _ rfl (fun r wo hp16 => ?_)
                    obtain ⟨rfl, rfl⟩ := hp16
                    show VJ C 0 0 309 [(8, .long (lN (R 6).toNat)), (6, .long (lN (R 5).toNat)), (4, .long (lN (R 4).toNat)), (3, .int (nI ((64 - t) % 2 ^ 3))), (2, .int (nI t)), (0, .ref a0), (1, .int (nI p1))] [.long (lN (rotr (R 4) 11).toNat), .long (lN (rotr (R 4) 6).toNat), .long (lN (R 7).toNat)] [(a0, .inr (8, [.int (nI v_a0_thrown), .ref a0_tape, .int (nI v_a0_taped), .ref a0_out, .int (nI v_a0_outs), .ref a0_slots, .ref a0_kept, .ref a0_phase, .ref a0_secret, .ref a0_key, .ref a0_hide, .ref a0_iv, .ref a0_begin, .ref a0_each, .ref a0_root, .ref a0_power, .ref a0_work, .ref a0_w, .ref a0_h, .ref a0_state, .ref a0_sum, .ref a0_pad, .ref a0_text, .int (nI v_a0_texts), .ref a0_info, .int (nI v_a0_infos), .ref a0_made, .ref a0_blockKey, .ref a0_nonce, .ref a0_x, .ref a0_first, .ref a0_block, .ref a0_a, .ref a0_r, .ref a0_product, .ref a0_tag, .ref a0_sealed])), (a0_work, aY C.D 2400 t_a0_work), (a0_w, aL C.D 64 wa), (a0_h, aM C.D 8 t_a0_h), (a0_state, aM C.D 8 sb), (a0_each, aM C.D 64 t_a0_each)]
                    refine v_lxorQ g (rotr (R 4) 6) (rotr (R 4) 11) rfl rfl dX8_part_309 ?_
                    refine v_lload g dX8_part_310 2 rfl ?_
                    refine v_bipush g dX8_part_312 (v := nI 25) (by decide +kernel) ?_
                    refine v_callS (As := [.long (lN (R 4).toNat), .int (nI 25)]) (rest := [.long (lN ((rotr (R 4) 6) ^^^ (rotr (R 4) 11)).toNat), .long (lN (R 7).toNat)]) (wr := [(a0, .inr (8, [.int (nI v_a0_thrown), .ref a0_tape, .int (nI v_a0_taped), .ref a0_out, .int (nI v_a0_outs), .ref a0_slots, .ref a0_kept, .ref a0_phase, .ref a0_secret, .ref a0_key, .ref a0_hide, .ref a0_iv, .ref a0_begin, .ref a0_each, .ref a0_root, .ref a0_power, .ref a0_work, .ref a0_w, .ref a0_h, .ref a0_state, .ref a0_sum, .ref a0_pad, .ref a0_text, .int (nI v_a0_texts), .ref a0_info, .int (nI v_a0_infos), .ref a0_made, .ref a0_blockKey, .ref a0_nonce, .ref a0_x, .ref a0_first, .ref a0_block, .ref a0_a, .ref a0_r, .ref a0_product, .ref a0_tag, .ref a0_sealed])), (a0_work, aY C.D 2400 t_a0_work), (a0_w, aL C.D 64 wa), (a0_h, aM C.D 8 t_a0_h), (a0_state, aM C.D 8 sb), (a0_each, aM C.D 64 t_a0_each)]) cw_X8_138 (hy_X8_right) g (c_right C.l C.D (R 4) 25 (by decide)) dX8_part_314 rfl (by decide) (by decide) (Nat.le_of_ble_eq_true rfl) [] [0, 1, 2, 3, 4, 5] rfl rfl (by decide) rfl (by decide) (by decide) _ rfl (fun r wo hp17 => ?_)
                    obtain ⟨rfl, rfl⟩ := hp17
                    show VJ C 0 0 317 [(8, .long (lN (R 6).toNat)), (6, .long (lN (R 5).toNat)), (4, .long (lN (R 4).toNat)), (3, .int (nI ((64 - t) % 2 ^ 3))), (2, .int (nI t)), (0, .ref a0), (1, .int (nI p1))] [.long (lN (rotr (R 4) 25).toNat), .long (lN ((rotr (R 4) 6) ^^^ (rotr (R 4) 11)).toNat), .long (lN (R 7).toNat)] [(a0, .inr (8, [.int (nI v_a0_thrown), .ref a0_tape, .int (nI v_a0_taped), .ref a0_out, .int (nI v_a0_outs), .ref a0_slots, .ref a0_kept, .ref a0_phase, .ref a0_secret, .ref a0_key, .ref a0_hide, .ref a0_iv, .ref a0_begin, .ref a0_each, .ref a0_root, .ref a0_power, .ref a0_work, .ref a0_w, .ref a0_h, .ref a0_state, .ref a0_sum, .ref a0_pad, .ref a0_text, .int (nI v_a0_texts), .ref a0_info, .int (nI v_a0_infos), .ref a0_made, .ref a0_blockKey, .ref a0_nonce, .ref a0_x, .ref a0_first, .ref a0_block, .ref a0_a, .ref a0_r, .ref a0_product, .ref a0_tag, .ref a0_sealed])), (a0_work, aY C.D 2400 t_a0_work), (a0_w, aL C.D 64 wa), (a0_h, aM C.D 8 t_a0_h), (a0_state, aM C.D 8 sb), (a0_each, aM C.D 64 t_a0_each)]
                    refine v_lxorQ g ((rotr (R 4) 6) ^^^ (rotr (R 4) 11)) (rotr (R 4) 25) rfl rfl dX8_part_317 ?_
                    refine v_laddN g dX8_part_318 ?_
                    refine v_lload g dX8_part_319 2 rfl ?_
                    refine v_lload g dX8_part_321 1 rfl ?_
                    refine v_landQ g (R 4) (R 5) rfl rfl dX8_part_323 ?_
                    refine v_ldc2 g dX8_part_324 kl_X8_123 ?_
                    refine v_lload g dX8_part_327 2 rfl ?_
                    refine v_lxorQ g (4294967295#32) (R 4) (by decide +kernel) rfl dX8_part_329 ?_
                    refine v_lload g dX8_part_330 0 rfl ?_
                    refine v_landQ g (4294967295#32 ^^^ (R 4)) (R 6) rfl rfl dX8_part_332 ?_
                    refine v_lorQ g ((R 4) &&& (R 5)) ((4294967295#32 ^^^ (R 4)) &&& (R 6)) rfl rfl dX8_part_333 ?_
                    refine v_laddN g dX8_part_334 ?_
                    refine v_aload_n g dX8_part_335 0 rfl 5 rfl ?_
                    refine gf_X8_41 g dX8_part_336 0 rfl rfl ?_
                    refine v_iload_n g dX8_part_339 2 rfl 4 rfl ?_
                    refine v_laldM g 5 rfl (by omega) (by decide) dX8_part_340 ?_
                    refine v_tol (lN (shK t).toNat) (congrArg (fun z : Wd => lN z.toNat) (he _ (by omega))) ?_
                    refine v_laddN g dX8_part_341 ?_
                    refine v_aload_n g dX8_part_342 0 rfl 5 rfl ?_
                    refine gf_X8_53 g dX8_part_343 0 rfl rfl ?_
                    refine v_iload_n g dX8_part_346 2 rfl 4 rfl ?_
                    refine v_laldL g 2 rfl (by omega) (by decide) dX8_part_347 ?_
                    refine v_tol (lN (sh_w (fun j => t_a0_work (p1 + j)) 48 t).toNat) (congrArg lN (hwa _ (by omega))) ?_
                    refine v_laddN g dX8_part_348 ?_
                    refine v_lstore g [(10, .long (lN ((R 7).toNat + (((rotr (R 4) 6) ^^^ (rotr (R 4) 11)) ^^^ (rotr (R 4) 25)).toNat + (((R 4) &&& (R 5)) ||| ((4294967295#32 ^^^ (R 4)) &&& (R 6))).toNat + (shK t).toNat + (sh_w (fun j => t_a0_work (p1 + j)) 48 t).toNat))), (8, .long (lN (R 6).toNat)), (6, .long (lN (R 5).toNat)), (4, .long (lN (R 4).toNat)), (3, .int (nI ((64 - t) % 2 ^ 3))), (2, .int (nI t)), (0, .ref a0), (1, .int (nI p1))] dX8_part_349 (by decide) rfl ?_
                    refine v_aload_n g dX8_part_351 0 rfl 6 rfl ?_
                    refine gf_X8_59 g dX8_part_352 0 rfl rfl ?_
                    refine v_iload_n g dX8_part_355 3 rfl 4 rfl ?_
                    refine v_laldM g 4 rfl (by omega) (by decide) dX8_part_356 ?_
                    refine v_tol (lN (R 0).toNat) (congrArg (fun z : Wd => lN z.toNat) ((congrArg sb (show ((64 - t) % 2 ^ 3) = (64 - t + 0) % 8 by omega)).trans (hv0 0 (by decide)))) ?_
                    refine v_lstore g [(12, .long (lN (R 0).toNat)), (10, .long (lN ((R 7).toNat + (((rotr (R 4) 6) ^^^ (rotr (R 4) 11)) ^^^ (rotr (R 4) 25)).toNat + (((R 4) &&& (R 5)) ||| ((4294967295#32 ^^^ (R 4)) &&& (R 6))).toNat + (shK t).toNat + (sh_w (fun j => t_a0_work (p1 + j)) 48 t).toNat))), (8, .long (lN (R 6).toNat)), (6, .long (lN (R 5).toNat)), (4, .long (lN (R 4).toNat)), (3, .int (nI ((64 - t) % 2 ^ 3))), (2, .int (nI t)), (0, .ref a0), (1, .int (nI p1))] dX8_part_357 (by decide) rfl ?_
                    refine v_aload_n g dX8_part_359 0 rfl 7 rfl ?_
                    refine gf_X8_59 g dX8_part_360 0 rfl rfl ?_
                    refine v_iload_n g dX8_part_363 3 rfl 5 rfl ?_
                    refine v_iconst g dX8_part_364 (v := nI 1) (by decide +kernel) ?_
                    refine v_iaddN g dX8_part_365 ?_
                    refine v_bipush g dX8_part_366 (v := nI 7) (by decide +kernel) ?_
                    refine v_iandM g 3 (by decide) dX8_part_368 ?_
                    refine v_laldM g 4 rfl (by omega) (by decide) dX8_part_369 ?_
                    refine v_tol (lN (R 1).toNat) (congrArg (fun z : Wd => lN z.toNat) ((congrArg sb (show ((((64 - t) % 2 ^ 3) + 1) % 2 ^ 3) = (64 - t + 1) % 8 by omega)).trans (hv0 1 (by decide)))) ?_
                    refine v_lstore g [(14, .long (lN (R 1).toNat)), (12, .long (lN (R 0).toNat)), (10, .long (lN ((R 7).toNat + (((rotr (R 4) 6) ^^^ (rotr (R 4) 11)) ^^^ (rotr (R 4) 25)).toNat + (((R 4) &&& (R 5)) ||| ((4294967295#32 ^^^ (R 4)) &&& (R 6))).toNat + (shK t).toNat + (sh_w (fun j => t_a0_work (p1 + j)) 48 t).toNat))), (8, .long (lN (R 6).toNat)), (6, .long (lN (R 5).toNat)), (4, .long (lN (R 4).toNat)), (3, .int (nI ((64 - t) % 2 ^ 3))), (2, .int (nI t)), (0, .ref a0), (1, .int (nI p1))] dX8_part_370 (by decide) rfl ?_
                    refine v_aload_n g dX8_part_372 0 rfl 8 rfl ?_
                    refine gf_X8_59 g dX8_part_373 0 rfl rfl ?_
                    refine v_iload_n g dX8_part_376 3 rfl 6 rfl ?_
                    refine v_iconst g dX8_part_377 (v := nI 2) (by decide +kernel) ?_
                    refine v_iaddN g dX8_part_378 ?_
                    refine v_bipush g dX8_part_379 (v := nI 7) (by decide +kernel) ?_
                    refine v_iandM g 3 (by decide) dX8_part_381 ?_
                    refine v_laldM g 4 rfl (by omega) (by decide) dX8_part_382 ?_
                    refine v_tol (lN (R 2).toNat) (congrArg (fun z : Wd => lN z.toNat) ((congrArg sb (show ((((64 - t) % 2 ^ 3) + 2) % 2 ^ 3) = (64 - t + 2) % 8 by omega)).trans (hv0 2 (by decide)))) ?_
                    refine v_lstore g [(16, .long (lN (R 2).toNat)), (14, .long (lN (R 1).toNat)), (12, .long (lN (R 0).toNat)), (10, .long (lN ((R 7).toNat + (((rotr (R 4) 6) ^^^ (rotr (R 4) 11)) ^^^ (rotr (R 4) 25)).toNat + (((R 4) &&& (R 5)) ||| ((4294967295#32 ^^^ (R 4)) &&& (R 6))).toNat + (shK t).toNat + (sh_w (fun j => t_a0_work (p1 + j)) 48 t).toNat))), (8, .long (lN (R 6).toNat)), (6, .long (lN (R 5).toNat)), (4, .long (lN (R 4).toNat)), (3, .int (nI ((64 - t) % 2 ^ 3))), (2, .int (nI t)), (0, .ref a0), (1, .int (nI p1))] dX8_part_383 (by decide) rfl ?_
                    refine v_lload g dX8_part_385 2 rfl ?_
                    refine v_iconst g dX8_part_387 (v := nI 2) (by decide +kernel) ?_
                    refine v_callS (As := [.long (lN (R 0).toNat), .int (nI 2)]) (rest := []) (wr := [(a0, .inr (8, [.int (nI v_a0_thrown), .ref a0_tape, .int (nI v_a0_taped), .ref a0_out, .int (nI v_a0_outs), .ref a0_slots, .ref a0_kept, .ref a0_phase, .ref a0_secret, .ref a0_key, .ref a0_hide, .ref a0_iv, .ref a0_begin, .ref a0_each, .ref a0_root, .ref a0_power, .ref a0_work, .ref a0_w, .ref a0_h, .ref a0_state, .ref a0_sum, .ref a0_pad, .ref a0_text, .int (nI v_a0_texts), .ref a0_info, .int (nI v_a0_infos), .ref a0_made, .ref a0_blockKey, .ref a0_nonce, .ref a0_x, .ref a0_first, .ref a0_block, .ref a0_a, .ref a0_r, .ref a0_product, .ref a0_tag, .ref a0_sealed])), (a0_work, aY C.D 2400 t_a0_work), (a0_w, aL C.D 64 wa), (a0_h, aM C.D 8 t_a0_h), (a0_state, aM C.D 8 sb), (a0_each, aM C.D 64 t_a0_each)]) cw_X8_138 (hy_X8_right) g (c_right C.l C.D (R 0) 2 (by decide)) dX8_part_388 rfl (by decide) (by decide) (Nat.le_of_ble_eq_true rfl) [] [0, 1, 2, 3, 4, 5] rfl rfl (by decide) rfl (by decide) (by decide) _ rfl (fun r wo hp18 => ?_)
                    obtain ⟨rfl, rfl⟩ := hp18
                    show VJ C 0 0 391 [(16, .long (lN (R 2).toNat)), (14, .long (lN (R 1).toNat)), (12, .long (lN (R 0).toNat)), (10, .long (lN ((R 7).toNat + (((rotr (R 4) 6) ^^^ (rotr (R 4) 11)) ^^^ (rotr (R 4) 25)).toNat + (((R 4) &&& (R 5)) ||| ((4294967295#32 ^^^ (R 4)) &&& (R 6))).toNat + (shK t).toNat + (sh_w (fun j => t_a0_work (p1 + j)) 48 t).toNat))), (8, .long (lN (R 6).toNat)), (6, .long (lN (R 5).toNat)), (4, .long (lN (R 4).toNat)), (3, .int (nI ((64 - t) % 2 ^ 3))), (2, .int (nI t)), (0, .ref a0), (1, .int (nI p1))] [.long (lN (rotr (R 0) 2).toNat)] [(a0, .inr (8, [.int (nI v_a0_thrown), .ref a0_tape, .int (nI v_a0_taped), .ref a0_out, .int (nI v_a0_outs), .ref a0_slots, .ref a0_kept, .ref a0_phase, .ref a0_secret, .ref a0_key, .ref a0_hide, .ref a0_iv, .ref a0_begin, .ref a0_each, .ref a0_root, .ref a0_power, .ref a0_work, .ref a0_w, .ref a0_h, .ref a0_state, .ref a0_sum, .ref a0_pad, .ref a0_text, .int (nI v_a0_texts), .ref a0_info, .int (nI v_a0_infos), .ref a0_made, .ref a0_blockKey, .ref a0_nonce, .ref a0_x, .ref a0_first, .ref a0_block, .ref a0_a, .ref a0_r, .ref a0_product, .ref a0_tag, .ref a0_sealed])), (a0_work, aY C.D 2400 t_a0_work), (a0_w, aL C.D 64 wa), (a0_h, aM C.D 8 t_a0_h), (a0_state, aM C.D 8 sb), (a0_each, aM C.D 64 t_a0_each)]
                    refine v_lload g dX8_part_391 2 rfl ?_
                    refine v_bipush g dX8_part_393 (v := nI 13) (by decide +kernel) ?_
                    refine v_callS (As := [.long (lN (R 0).toNat), .int (nI 13)]) (rest := [.long (lN (rotr (R 0) 2).toNat)]) (wr := [(a0, .inr (8, [.int (nI v_a0_thrown), .ref a0_tape, .int (nI v_a0_taped), .ref a0_out, .int (nI v_a0_outs), .ref a0_slots, .ref a0_kept, .ref a0_phase, .ref a0_secret, .ref a0_key, .ref a0_hide, .ref a0_iv, .ref a0_begin, .ref a0_each, .ref a0_root, .ref a0_power, .ref a0_work, .ref a0_w, .ref a0_h, .ref a0_state, .ref a0_sum, .ref a0_pad, .ref a0_text, .int (nI v_a0_texts), .ref a0_info, .int (nI v_a0_infos), .ref a0_made, .ref a0_blockKey, .ref a0_nonce, .ref a0_x, .ref a0_first, .ref a0_block, .ref a0_a, .ref a0_r, .ref a0_product, .ref a0_tag, .ref a0_sealed])), (a0_work, aY C.D 2400 t_a0_work), (a0_w, aL C.D 64 wa), (a0_h, aM C.D 8 t_a0_h), (a0_state, aM C.D 8 sb), (a0_each, aM C.D 64 t_a0_each)]) cw_X8_138 (hy_X8_right) g (c_right C.l C.D (R 0) 13 (by decide)) dX8_part_395 rfl (by decide) (by decide) (Nat.le_of_ble_eq_true rfl) [] [0, 1, 2, 3, 4, 5] rfl rfl (by decide) rfl (by decide) (by decide) _ rfl (fun r wo hp19 => ?_)
                    obtain ⟨rfl, rfl⟩ := hp19
                    show VJ C 0 0 398 [(16, .long (lN (R 2).toNat)), (14, .long (lN (R 1).toNat)), (12, .long (lN (R 0).toNat)), (10, .long (lN ((R 7).toNat + (((rotr (R 4) 6) ^^^ (rotr (R 4) 11)) ^^^ (rotr (R 4) 25)).toNat + (((R 4) &&& (R 5)) ||| ((4294967295#32 ^^^ (R 4)) &&& (R 6))).toNat + (shK t).toNat + (sh_w (fun j => t_a0_work (p1 + j)) 48 t).toNat))), (8, .long (lN (R 6).toNat)), (6, .long (lN (R 5).toNat)), (4, .long (lN (R 4).toNat)), (3, .int (nI ((64 - t) % 2 ^ 3))), (2, .int (nI t)), (0, .ref a0), (1, .int (nI p1))] [.long (lN (rotr (R 0) 13).toNat), .long (lN (rotr (R 0) 2).toNat)] [(a0, .inr (8, [.int (nI v_a0_thrown), .ref a0_tape, .int (nI v_a0_taped), .ref a0_out, .int (nI v_a0_outs), .ref a0_slots, .ref a0_kept, .ref a0_phase, .ref a0_secret, .ref a0_key, .ref a0_hide, .ref a0_iv, .ref a0_begin, .ref a0_each, .ref a0_root, .ref a0_power, .ref a0_work, .ref a0_w, .ref a0_h, .ref a0_state, .ref a0_sum, .ref a0_pad, .ref a0_text, .int (nI v_a0_texts), .ref a0_info, .int (nI v_a0_infos), .ref a0_made, .ref a0_blockKey, .ref a0_nonce, .ref a0_x, .ref a0_first, .ref a0_block, .ref a0_a, .ref a0_r, .ref a0_product, .ref a0_tag, .ref a0_sealed])), (a0_work, aY C.D 2400 t_a0_work), (a0_w, aL C.D 64 wa), (a0_h, aM C.D 8 t_a0_h), (a0_state, aM C.D 8 sb), (a0_each, aM C.D 64 t_a0_each)]
                    refine v_lxorQ g (rotr (R 0) 2) (rotr (R 0) 13) rfl rfl dX8_part_398 ?_
                    refine v_lload g dX8_part_399 2 rfl ?_
                    refine v_bipush g dX8_part_401 (v := nI 22) (by decide +kernel) ?_
                    refine v_callS (As := [.long (lN (R 0).toNat), .int (nI 22)]) (rest := [.long (lN ((rotr (R 0) 2) ^^^ (rotr (R 0) 13)).toNat)]) (wr := [(a0, .inr (8, [.int (nI v_a0_thrown), .ref a0_tape, .int (nI v_a0_taped), .ref a0_out, .int (nI v_a0_outs), .ref a0_slots, .ref a0_kept, .ref a0_phase, .ref a0_secret, .ref a0_key, .ref a0_hide, .ref a0_iv, .ref a0_begin, .ref a0_each, .ref a0_root, .ref a0_power, .ref a0_work, .ref a0_w, .ref a0_h, .ref a0_state, .ref a0_sum, .ref a0_pad, .ref a0_text, .int (nI v_a0_texts), .ref a0_info, .int (nI v_a0_infos), .ref a0_made, .ref a0_blockKey, .ref a0_nonce, .ref a0_x, .ref a0_first, .ref a0_block, .ref a0_a, .ref a0_r, .ref a0_product, .ref a0_tag, .ref a0_sealed])), (a0_work, aY C.D 2400 t_a0_work), (a0_w, aL C.D 64 wa), (a0_h, aM C.D 8 t_a0_h), (a0_state, aM C.D 8 sb), (a0_each, aM C.D 64 t_a0_each)]) cw_X8_138 (hy_X8_right) g (c_right C.l C.D (R 0) 22 (by decide)) dX8_part_403 rfl (by decide) (by decide) (Nat.le_of_ble_eq_true rfl) [] [0, 1, 2, 3, 4, 5] rfl rfl (by decide) rfl (by decide) (by decide) _ rfl (fun r wo hp20 => ?_)
                    obtain ⟨rfl, rfl⟩ := hp20
                    show VJ C 0 0 406 [(16, .long (lN (R 2).toNat)), (14, .long (lN (R 1).toNat)), (12, .long (lN (R 0).toNat)), (10, .long (lN ((R 7).toNat + (((rotr (R 4) 6) ^^^ (rotr (R 4) 11)) ^^^ (rotr (R 4) 25)).toNat + (((R 4) &&& (R 5)) ||| ((4294967295#32 ^^^ (R 4)) &&& (R 6))).toNat + (shK t).toNat + (sh_w (fun j => t_a0_work (p1 + j)) 48 t).toNat))), (8, .long (lN (R 6).toNat)), (6, .long (lN (R 5).toNat)), (4, .long (lN (R 4).toNat)), (3, .int (nI ((64 - t) % 2 ^ 3))), (2, .int (nI t)), (0, .ref a0), (1, .int (nI p1))] [.long (lN (rotr (R 0) 22).toNat), .long (lN ((rotr (R 0) 2) ^^^ (rotr (R 0) 13)).toNat)] [(a0, .inr (8, [.int (nI v_a0_thrown), .ref a0_tape, .int (nI v_a0_taped), .ref a0_out, .int (nI v_a0_outs), .ref a0_slots, .ref a0_kept, .ref a0_phase, .ref a0_secret, .ref a0_key, .ref a0_hide, .ref a0_iv, .ref a0_begin, .ref a0_each, .ref a0_root, .ref a0_power, .ref a0_work, .ref a0_w, .ref a0_h, .ref a0_state, .ref a0_sum, .ref a0_pad, .ref a0_text, .int (nI v_a0_texts), .ref a0_info, .int (nI v_a0_infos), .ref a0_made, .ref a0_blockKey, .ref a0_nonce, .ref a0_x, .ref a0_first, .ref a0_block, .ref a0_a, .ref a0_r, .ref a0_product, .ref a0_tag, .ref a0_sealed])), (a0_work, aY C.D 2400 t_a0_work), (a0_w, aL C.D 64 wa), (a0_h, aM C.D 8 t_a0_h), (a0_state, aM C.D 8 sb), (a0_each, aM C.D 64 t_a0_each)]
                    refine v_lxorQ g ((rotr (R 0) 2) ^^^ (rotr (R 0) 13)) (rotr (R 0) 22) rfl rfl dX8_part_406 ?_
                    refine v_lload g dX8_part_407 2 rfl ?_
                    refine v_lload g dX8_part_409 1 rfl ?_
                    refine v_landQ g (R 0) (R 1) rfl rfl dX8_part_411 ?_
                    refine v_lload g dX8_part_412 2 rfl ?_
                    refine v_lload g dX8_part_414 0 rfl ?_
                    refine v_landQ g (R 0) (R 2) rfl rfl dX8_part_416 ?_
                    refine v_lorQ g ((R 0) &&& (R 1)) ((R 0) &&& (R 2)) rfl rfl dX8_part_417 ?_
                    refine v_lload g dX8_part_418 1 rfl ?_
                    refine v_lload g dX8_part_420 0 rfl ?_
                    refine v_landQ g (R 1) (R 2) rfl rfl dX8_part_422 ?_
                    refine v_lorQ g (((R 0) &&& (R 1)) ||| ((R 0) &&& (R 2))) ((R 1) &&& (R 2)) rfl rfl dX8_part_423 ?_
                    refine v_laddN g dX8_part_424 ?_
                    refine v_lstore g [(18, .long (lN ((((rotr (R 0) 2) ^^^ (rotr (R 0) 13)) ^^^ (rotr (R 0) 22)).toNat + ((((R 0) &&& (R 1)) ||| ((R 0) &&& (R 2))) ||| ((R 1) &&& (R 2))).toNat))), (16, .long (lN (R 2).toNat)), (14, .long (lN (R 1).toNat)), (12, .long (lN (R 0).toNat)), (10, .long (lN ((R 7).toNat + (((rotr (R 4) 6) ^^^ (rotr (R 4) 11)) ^^^ (rotr (R 4) 25)).toNat + (((R 4) &&& (R 5)) ||| ((4294967295#32 ^^^ (R 4)) &&& (R 6))).toNat + (shK t).toNat + (sh_w (fun j => t_a0_work (p1 + j)) 48 t).toNat))), (8, .long (lN (R 6).toNat)), (6, .long (lN (R 5).toNat)), (4, .long (lN (R 4).toNat)), (3, .int (nI ((64 - t) % 2 ^ 3))), (2, .int (nI t)), (0, .ref a0), (1, .int (nI p1))] dX8_part_425 (by decide) rfl ?_
                    refine v_aload_n g dX8_part_427 0 rfl 10 rfl ?_
                    refine gf_X8_59 g dX8_part_428 0 rfl rfl ?_
                    refine v_iload_n g dX8_part_431 3 rfl 8 rfl ?_
                    refine v_iconst g dX8_part_432 (v := nI 3) (by decide +kernel) ?_
                    refine v_iaddN g dX8_part_433 ?_
                    refine v_bipush g dX8_part_434 (v := nI 7) (by decide +kernel) ?_
                    refine v_iandM g 3 (by decide) dX8_part_436 ?_
                    refine v_aload_n g dX8_part_437 0 rfl 10 rfl ?_
                    refine gf_X8_59 g dX8_part_438 0 rfl rfl ?_
                    refine v_iload_n g dX8_part_441 3 rfl 8 rfl ?_
                    refine v_iconst g dX8_part_442 (v := nI 3) (by decide +kernel) ?_
                    refine v_iaddN g dX8_part_443 ?_
                    refine v_bipush g dX8_part_444 (v := nI 7) (by decide +kernel) ?_
                    refine v_iandM g 3 (by decide) dX8_part_446 ?_
                    refine v_laldM g 4 rfl (by omega) (by decide) dX8_part_447 ?_
                    refine v_tol (lN (R 3).toNat) (congrArg (fun z : Wd => lN z.toNat) ((congrArg sb (show ((((64 - t) % 2 ^ 3) + 3) % 2 ^ 3) = (64 - t + 3) % 8 by omega)).trans (hv0 3 (by decide)))) ?_
                    refine v_lload g dX8_part_448 4 rfl ?_
                    refine v_laddN g dX8_part_450 ?_
                    refine v_ldc2 g dX8_part_451 kl_X8_123 ?_
                    refine v_landM g 32 (by decide) dX8_part_454 ?_
                    refine v_tol (lN ((R 3) + ((R 7) + (((rotr (R 4) 6) ^^^ (rotr (R 4) 11)) ^^^ (rotr (R 4) 25)) + (((R 4) &&& (R 5)) ||| ((4294967295#32 ^^^ (R 4)) &&& (R 6))) + (shK t) + (sh_w (fun j => t_a0_work (p1 + j)) 48 t))).toNat) (congrArg lN (sq_add (sq_b (R 3)) (sq_add (sq_add (sq_add (sq_add (sq_b (R 7)) (sq_b (((rotr (R 4) 6) ^^^ (rotr (R 4) 11)) ^^^ (rotr (R 4) 25)))) (sq_b (((R 4) &&& (R 5)) ||| ((4294967295#32 ^^^ (R 4)) &&& (R 6))))) (sq_b (shK t))) (sq_b (sh_w (fun j => t_a0_work (p1 + j)) 48 t))))) ?_
                    obtain ⟨t21, ht21⟩ : ∃ z : Nat → Wd, z = va_up sb ((((64 - t) % 2 ^ 3) + 3) % 2 ^ 3) ((R 3) + ((R 7) + (((rotr (R 4) 6) ^^^ (rotr (R 4) 11)) ^^^ (rotr (R 4) 25)) + (((R 4) &&& (R 5)) ||| ((4294967295#32 ^^^ (R 4)) &&& (R 6))) + (shK t) + (sh_w (fun j => t_a0_work (p1 + j)) 48 t))) := ⟨_, rfl⟩
                    refine v_lastM g ((R 3) + ((R 7) + (((rotr (R 4) 6) ^^^ (rotr (R 4) 11)) ^^^ (rotr (R 4) 25)) + (((R 4) &&& (R 5)) ||| ((4294967295#32 ^^^ (R 4)) &&& (R 6))) + (shK t) + (sh_w (fun j => t_a0_work (p1 + j)) 48 t))) rfl t21 ht21 4 [(a0, .inr (8, [.int (nI v_a0_thrown), .ref a0_tape, .int (nI v_a0_taped), .ref a0_out, .int (nI v_a0_outs), .ref a0_slots, .ref a0_kept, .ref a0_phase, .ref a0_secret, .ref a0_key, .ref a0_hide, .ref a0_iv, .ref a0_begin, .ref a0_each, .ref a0_root, .ref a0_power, .ref a0_work, .ref a0_w, .ref a0_h, .ref a0_state, .ref a0_sum, .ref a0_pad, .ref a0_text, .int (nI v_a0_texts), .ref a0_info, .int (nI v_a0_infos), .ref a0_made, .ref a0_blockKey, .ref a0_nonce, .ref a0_x, .ref a0_first, .ref a0_block, .ref a0_a, .ref a0_r, .ref a0_product, .ref a0_tag, .ref a0_sealed])), (a0_work, aY C.D 2400 t_a0_work), (a0_w, aL C.D 64 wa), (a0_h, aM C.D 8 t_a0_h), (a0_state, aM C.D 8 t21), (a0_each, aM C.D 64 t_a0_each)] rfl (by omega) (by decide) dX8_part_455 rfl ?_
                    refine v_aload_n g dX8_part_456 0 rfl 10 rfl ?_
                    refine gf_X8_59 g dX8_part_457 0 rfl rfl ?_
                    refine v_iload_n g dX8_part_460 3 rfl 8 rfl ?_
                    refine v_bipush g dX8_part_461 (v := nI 7) (by decide +kernel) ?_
                    refine v_iaddN g dX8_part_463 ?_
                    refine v_bipush g dX8_part_464 (v := nI 7) (by decide +kernel) ?_
                    refine v_iandM g 3 (by decide) dX8_part_466 ?_
                    refine v_lload g dX8_part_467 4 rfl ?_
                    refine v_lload g dX8_part_469 0 rfl ?_
                    refine v_laddN g dX8_part_471 ?_
                    refine v_ldc2 g dX8_part_472 kl_X8_123 ?_
                    refine v_landM g 32 (by decide) dX8_part_475 ?_
                    refine v_tol (lN ((R 7) + (((rotr (R 4) 6) ^^^ (rotr (R 4) 11)) ^^^ (rotr (R 4) 25)) + (((R 4) &&& (R 5)) ||| ((4294967295#32 ^^^ (R 4)) &&& (R 6))) + (shK t) + (sh_w (fun j => t_a0_work (p1 + j)) 48 t) + ((((rotr (R 0) 2) ^^^ (rotr (R 0) 13)) ^^^ (rotr (R 0) 22)) + ((((R 0) &&& (R 1)) ||| ((R 0) &&& (R 2))) ||| ((R 1) &&& (R 2))))).toNat) (congrArg lN (sq_add (sq_add (sq_add (sq_add (sq_add (sq_b (R 7)) (sq_b (((rotr (R 4) 6) ^^^ (rotr (R 4) 11)) ^^^ (rotr (R 4) 25)))) (sq_b (((R 4) &&& (R 5)) ||| ((4294967295#32 ^^^ (R 4)) &&& (R 6))))) (sq_b (shK t))) (sq_b (sh_w (fun j => t_a0_work (p1 + j)) 48 t))) (sq_add (sq_b (((rotr (R 0) 2) ^^^ (rotr (R 0) 13)) ^^^ (rotr (R 0) 22))) (sq_b ((((R 0) &&& (R 1)) ||| ((R 0) &&& (R 2))) ||| ((R 1) &&& (R 2))))))) ?_
                    obtain ⟨t22, ht22⟩ : ∃ z : Nat → Wd, z = va_up t21 ((((64 - t) % 2 ^ 3) + 7) % 2 ^ 3) ((R 7) + (((rotr (R 4) 6) ^^^ (rotr (R 4) 11)) ^^^ (rotr (R 4) 25)) + (((R 4) &&& (R 5)) ||| ((4294967295#32 ^^^ (R 4)) &&& (R 6))) + (shK t) + (sh_w (fun j => t_a0_work (p1 + j)) 48 t) + ((((rotr (R 0) 2) ^^^ (rotr (R 0) 13)) ^^^ (rotr (R 0) 22)) + ((((R 0) &&& (R 1)) ||| ((R 0) &&& (R 2))) ||| ((R 1) &&& (R 2))))) := ⟨_, rfl⟩
                    refine v_lastM g ((R 7) + (((rotr (R 4) 6) ^^^ (rotr (R 4) 11)) ^^^ (rotr (R 4) 25)) + (((R 4) &&& (R 5)) ||| ((4294967295#32 ^^^ (R 4)) &&& (R 6))) + (shK t) + (sh_w (fun j => t_a0_work (p1 + j)) 48 t) + ((((rotr (R 0) 2) ^^^ (rotr (R 0) 13)) ^^^ (rotr (R 0) 22)) + ((((R 0) &&& (R 1)) ||| ((R 0) &&& (R 2))) ||| ((R 1) &&& (R 2))))) rfl t22 ht22 4 [(a0, .inr (8, [.int (nI v_a0_thrown), .ref a0_tape, .int (nI v_a0_taped), .ref a0_out, .int (nI v_a0_outs), .ref a0_slots, .ref a0_kept, .ref a0_phase, .ref a0_secret, .ref a0_key, .ref a0_hide, .ref a0_iv, .ref a0_begin, .ref a0_each, .ref a0_root, .ref a0_power, .ref a0_work, .ref a0_w, .ref a0_h, .ref a0_state, .ref a0_sum, .ref a0_pad, .ref a0_text, .int (nI v_a0_texts), .ref a0_info, .int (nI v_a0_infos), .ref a0_made, .ref a0_blockKey, .ref a0_nonce, .ref a0_x, .ref a0_first, .ref a0_block, .ref a0_a, .ref a0_r, .ref a0_product, .ref a0_tag, .ref a0_sealed])), (a0_work, aY C.D 2400 t_a0_work), (a0_w, aL C.D 64 wa), (a0_h, aM C.D 8 t_a0_h), (a0_state, aM C.D 8 t22), (a0_each, aM C.D 64 t_a0_each)] rfl (by omega) (by decide) dX8_part_476 rfl ?_
                    refine v_iincN g 1 [(2, .int (nI (t + 1))), (18, .long (lN ((((rotr (R 0) 2) ^^^ (rotr (R 0) 13)) ^^^ (rotr (R 0) 22)).toNat + ((((R 0) &&& (R 1)) ||| ((R 0) &&& (R 2))) ||| ((R 1) &&& (R 2))).toNat))), (16, .long (lN (R 2).toNat)), (14, .long (lN (R 1).toNat)), (12, .long (lN (R 0).toNat)), (10, .long (lN ((R 7).toNat + (((rotr (R 4) 6) ^^^ (rotr (R 4) 11)) ^^^ (rotr (R 4) 25)).toNat + (((R 4) &&& (R 5)) ||| ((4294967295#32 ^^^ (R 4)) &&& (R 6))).toNat + (shK t).toNat + (sh_w (fun j => t_a0_work (p1 + j)) 48 t).toNat))), (8, .long (lN (R 6).toNat)), (6, .long (lN (R 5).toNat)), (4, .long (lN (R 4).toNat)), (3, .int (nI ((64 - t) % 2 ^ 3))), (0, .ref a0), (1, .int (nI p1))] dX8_part_477 9 rfl (by decide +kernel) (by decide) rfl ?_
                    refine v_goto g 229 dX8_part_480 (by decide) ?_
                    refine v_lpick [0, 10, 11] [(2, .int (nI (t + 1))), (0, .ref a0), (1, .int (nI p1))] rfl ?_
                    exact ih t22 (by have z := rot_s (k := shK t) (w := sh_w (fun j => t_a0_work (p1 + j)) 48 t) (by omega) hv0 ht21 ht22 (by rw [ch_eq]; rfl) (by rw [ch_eq, maj_eq]; rfl); rw [hR] at z; exact z)
                · skip
                  intro sb hv0
                  refine v_iload_n g dX8_part_229 2 rfl 0 rfl ?_
                  refine v_bipush g dX8_part_230 (v := nI 64) (by decide +kernel) ?_
                  refine v_icmp_geN g 483 dX8_part_232 (by decide) (by omega) (by omega) (fun h23 => ?_) (fun h23 => ?_)
                  · skip
                    have hsb := hv0
                    refine v_iconst g dX8_part_483 (v := nI 0) (by decide +kernel) ?_
                    refine v_istore_n g [(2, .int (nI 0)), (0, .ref a0), (1, .int (nI p1))] dX8_part_484 2 rfl (by decide) rfl ?_
                    have L485_23 : ∀ i : Nat, i ≤ 8 → ∀ (ha : Nat → Wd), (∀ j, j < i → ha j = sh_c t_a0_h (fun j => t_a0_work (p1 + j)) j) → (∀ j, i ≤ j → ha j = t_a0_h j) → VJ C 0 0 485 [(2, .int (nI i)), (0, .ref a0), (1, .int (nI p1))] [] [(a0, .inr (8, [.int (nI v_a0_thrown), .ref a0_tape, .int (nI v_a0_taped), .ref a0_out, .int (nI v_a0_outs), .ref a0_slots, .ref a0_kept, .ref a0_phase, .ref a0_secret, .ref a0_key, .ref a0_hide, .ref a0_iv, .ref a0_begin, .ref a0_each, .ref a0_root, .ref a0_power, .ref a0_work, .ref a0_w, .ref a0_h, .ref a0_state, .ref a0_sum, .ref a0_pad, .ref a0_text, .int (nI v_a0_texts), .ref a0_info, .int (nI v_a0_infos), .ref a0_made, .ref a0_blockKey, .ref a0_nonce, .ref a0_x, .ref a0_first, .ref a0_block, .ref a0_a, .ref a0_r, .ref a0_product, .ref a0_tag, .ref a0_sealed])), (a0_work, aY C.D 2400 t_a0_work), (a0_w, aL C.D 64 wa), (a0_h, aM C.D 8 ha), (a0_state, aM C.D 8 sb), (a0_each, aM C.D 64 t_a0_each)] := by
                      refine v_for (8) ?_ ?_
                      · skip
                        intro i hii ih ha hv0 hv1
                        refine v_iload_n g dX8_part_485 2 rfl 0 rfl ?_
                        refine v_bipush g dX8_part_486 (v := nI 8) (by decide +kernel) ?_
                        refine v_icmp_geN g 520 dX8_part_488 (by decide) (by omega) (by omega) (fun h24 => ?_) (fun h24 => ?_)
                        · skip
                          exact absurd h24 (by omega)
                        · skip
                          refine v_aload_n g dX8_part_491 0 rfl 1 rfl ?_
                          refine gf_X8_56 g dX8_part_492 0 rfl rfl ?_
                          refine v_iload_n g dX8_part_495 2 rfl 0 rfl ?_
                          refine v_aload_n g dX8_part_496 0 rfl 1 rfl ?_
                          refine gf_X8_56 g dX8_part_497 0 rfl rfl ?_
                          refine v_iload_n g dX8_part_500 2 rfl 0 rfl ?_
                          refine v_laldM g 3 rfl (by omega) (by decide) dX8_part_501 ?_
                          refine v_aload_n g dX8_part_502 0 rfl 1 rfl ?_
                          refine gf_X8_59 g dX8_part_503 0 rfl rfl ?_
                          refine v_iload_n g dX8_part_506 2 rfl 0 rfl ?_
                          refine v_laldM g 4 rfl (by omega) (by decide) dX8_part_507 ?_
                          refine v_laddN g dX8_part_508 ?_
                          refine v_ldc2 g dX8_part_509 kl_X8_123 ?_
                          refine v_landM g 32 (by decide) dX8_part_512 ?_
                          refine v_tol (lN ((ha i) + (sb i)).toNat) (congrArg lN (sq_add (sq_b (ha i)) (sq_b (sb i)))) ?_
                          obtain ⟨t25, ht25⟩ : ∃ z : Nat → Wd, z = va_up ha i ((ha i) + (sb i)) := ⟨_, rfl⟩
                          refine v_lastM g ((ha i) + (sb i)) rfl t25 ht25 3 [(a0, .inr (8, [.int (nI v_a0_thrown), .ref a0_tape, .int (nI v_a0_taped), .ref a0_out, .int (nI v_a0_outs), .ref a0_slots, .ref a0_kept, .ref a0_phase, .ref a0_secret, .ref a0_key, .ref a0_hide, .ref a0_iv, .ref a0_begin, .ref a0_each, .ref a0_root, .ref a0_power, .ref a0_work, .ref a0_w, .ref a0_h, .ref a0_state, .ref a0_sum, .ref a0_pad, .ref a0_text, .int (nI v_a0_texts), .ref a0_info, .int (nI v_a0_infos), .ref a0_made, .ref a0_blockKey, .ref a0_nonce, .ref a0_x, .ref a0_first, .ref a0_block, .ref a0_a, .ref a0_r, .ref a0_product, .ref a0_tag, .ref a0_sealed])), (a0_work, aY C.D 2400 t_a0_work), (a0_w, aL C.D 64 wa), (a0_h, aM C.D 8 t25), (a0_state, aM C.D 8 sb), (a0_each, aM C.D 64 t_a0_each)] rfl (by omega) (by decide) dX8_part_513 rfl ?_
                          refine v_iincN g 1 [(2, .int (nI (i + 1))), (0, .ref a0), (1, .int (nI p1))] dX8_part_514 0 rfl (by decide +kernel) (by decide) rfl ?_
                          refine v_goto g 485 dX8_part_517 (by decide) ?_
                          exact ih t25 (up_lt (m := i) hv0 (by rw [hv1 i (Nat.le_refl _), show sb i = sh_R (sh_w (fun j => t_a0_work (p1 + j)) 48) t_a0_h 64 i from (congrArg sb (show i = (64 - 64 + i) % 8 by omega)).trans (hsb i (by omega))]; rfl) ht25) (fun j hj => by rw [ht25]; unfold va_up; rw [if_neg (by omega)]; exact hv1 j (by omega))
                      · skip
                        intro ha hv0 hv1
                        refine v_iload_n g dX8_part_485 2 rfl 0 rfl ?_
                        refine v_bipush g dX8_part_486 (v := nI 8) (by decide +kernel) ?_
                        refine v_icmp_geN g 520 dX8_part_488 (by decide) (by omega) (by omega) (fun h26 => ?_) (fun h26 => ?_)
                        · skip
                          exact v_ret g R dX8_part_520 (by decide) (by decide) ⟨_, ha, _, rfl, rfl, hv0⟩
                        · skip
                          exact absurd h26 (by omega)
                    exact L485_23 0 (by omega) t_a0_h (fun j hj => absurd hj (by omega)) (fun _ _ => rfl)
                  · skip
                    exact absurd h23 (by omega)
              exact L229_13 0 (by omega) sa (fun j hj => by rw [show (64 - 0 + j) % 8 = j by omega]; exact hsa j hj)
            · skip
              exact absurd h13 (by omega)
        exact L203_10 0 (by omega) t_a0_state (fun j hj => absurd hj (by omega))
      · skip
        exact absurd h10 (by omega)
  exact L2_0 0 (by omega) t_a0_w (fun j hj => absurd hj (by omega))
