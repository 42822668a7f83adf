/-! the tally itself -/
theorem po_it_s (R : Nat) (t : Nat → By) (o n pad acc i : Nat) : po_it R t o n pad acc (i + 1) = (po_it R t o n pad acc i + po_pc t o n pad i) * R % po_p := by simp only [po_it]
theorem tl_cy {L c A P : Nat} (h : L + c * 2 ^ 144 = A + P) (hL : L < 2 ^ 144) (hA : A < 2 ^ 130 + 5) (hP : P < 2 ^ 130) : L = A + P := by omega
theorem tl_lt {L A P : Nat} (h : L = A + P) (hA : A < 2 ^ 130 + 5) (hP : P < 2 ^ 130) : L < 2 ^ 132 := by omega
theorem tl_17 {L c A : Nat} (h : L + c * 2 ^ 136 = A + 5) (hA : A < 2 ^ 130 + 5) : L = A + 5 := by omega
theorem tl_p {A P V q : Nat} (hq : q < 4) (h1 : P = A + 5) (h2 : P = V + q * 2 ^ 128) (hV : V < 2 ^ 128) : A + 5 < 2 ^ 130 := by omega
theorem up_lt2 {α : Type} {t t1 t2 F : Nat → α} {m : Nat} {v x : α} (h : ∀ j, j < m → t j = F j) (h1 : t1 = va_up t m v) (hx : x = F m) (h2 : t2 = va_up t1 m x) : ∀ j, j < m + 1 → t2 j = F j := by
  intro j hj
  rw [h2, h1]
  unfold va_up
  by_cases e : j = m
  · rw [if_pos e, e, hx]
  · rw [if_neg e, if_neg e]; exact h j (by omega)
theorem po_R_124 (k : Nat → By) : po_R k < 2 ^ 124 := by
  unfold po_R
  have h := leN_lt (fun j => po_c j (k j)) 15
  have e : (256 : Nat) ^ 15 = 2 ^ 120 := by decide +kernel
  have b : (po_c 15 (k 15)).toNat < 16 := by
    have : ∀ b : By, (b &&& 15#8).toNat < 16 := by decide +kernel
    exact this (k 15)
  show leN (fun j => po_c j (k j)) 15 + (po_c 15 (k 15)).toNat * 256 ^ 15 < 2 ^ 124
  rw [e] at h ⊢
  omega
theorem leN_0 {t : Nat → By} : ∀ n, (∀ j, j < n → t j = 0#8) → leN t n = 0 := by
  intro n
  induction n with
  | zero => intro _; rfl
  | succ n ih => intro h; simp only [leN]; rw [ih (fun j hj => h j (by omega)), h n (by omega)]; simp
def bkD (t : Nat → By) (at_ m k : Nat) : Nat := if k < m then (t (at_ + k)).toNat else if k = m then 1 else 0
theorem bk_v (t : Nat → By) (at_ : Nat) {m : Nat} (hm : m ≤ 16) : dsm (bkD t at_ m) 18 = leN (fun j => t (at_ + j)) m + 256 ^ m := by
  rw [show (18 : Nat) = m + 1 + (17 - m) by omega, dsm_st _ (m + 1) (17 - m) (fun j h1 h2 => by unfold bkD; rw [if_neg (by omega), if_neg (by omega)])]
  show dsm (bkD t at_ m) m + bkD t at_ m m * 256 ^ m = _
  rw [dsm_leN (fun j => t (at_ + j)) m (fun j hj => by unfold bkD; rw [if_pos hj])]
  congr 1
  unfold bkD
  rw [if_neg (by omega), if_pos rfl, Nat.one_mul]
theorem po_pc_lt (t : Nat → By) (o n i : Nat) : po_pc t o n 0 i < 2 ^ 130 := by
  unfold po_pc
  have h := leN_lt (fun j => t (o + 16 * i + j)) (min 16 (n - 16 * i))
  have q : (256 : Nat) ^ min 16 (n - 16 * i) ≤ 256 ^ 16 := Nat.pow_le_pow_right (by decide) (by omega)
  have e : (256 : Nat) ^ 16 = 2 ^ 128 := by decide +kernel
  rw [if_pos rfl]
  omega
theorem leN_byte (t : Nat → By) {n j : Nat} (c : Nat) (hj : j < n) : (leN t n + c * 256 ^ n) / 256 ^ j % 256 = (t j).toNat := by
  obtain ⟨d, rfl⟩ : ∃ d, n = j + (1 + d) := ⟨n - j - 1, by omega⟩
  have e1 := leN_split t j (1 + d)
  have e2 := leN_split (fun i => t (j + i)) 1 d
  have e3 : leN (fun i => t (j + i)) 1 = (t j).toNat := by simp [leN]
  have hb := (t j).isLt
  have hl := leN_lt t j
  have e4 : leN t (j + (1 + d)) + c * 256 ^ (j + (1 + d)) = leN t j + 256 ^ j * ((t j).toNat + 256 * (leN (fun i => t (j + (1 + i))) d + c * 256 ^ d)) := by
    rw [e1, e2, e3, Nat.pow_add 256 j, Nat.pow_add 256 1, Nat.pow_one, Nat.mul_add, Nat.mul_add, Nat.mul_add 256, Nat.mul_add (256 ^ j) (256 * _)]
    have : c * (256 ^ j * (256 * 256 ^ d)) = 256 ^ j * (256 * (c * 256 ^ d)) := by
      rw [Nat.mul_left_comm, Nat.mul_left_comm c 256]
    omega
  rw [e4, Nat.add_mul_div_left _ _ (Nat.pow_pos (by decide)), Nat.div_eq_of_lt hl, Nat.zero_add, Nat.add_mul_mod_self_left, Nat.mod_eq_of_lt hb]
theorem tag_b {t : Nat → By} {c V S X : Nat} (h : leN t 16 + c * 256 ^ 16 = V + S) (hX : X % 256 ^ 16 = V) : ∀ j, j < 16 → t j = BitVec.ofNat 8 ((X + S) / 256 ^ j) := by
  intro j hj
  have e : X + S = leN t 16 + (c + X / 256 ^ 16) * 256 ^ 16 := by
    have := Nat.mod_add_div X (256 ^ 16)
    rw [Nat.add_mul, Nat.mul_comm (X / 256 ^ 16)]
    generalize (256 : Nat) ^ 16 = y at *
    omega
  apply BitVec.eq_of_toNat_eq
  rw [BitVec.toNat_ofNat, e]
  exact (leN_byte t (c + X / 256 ^ 16) hj).symm
theorem tagS_le (k : Nat → By) : leN (fun j => k (16 + j)) 16 = tagS k := by
  unfold tagS
  rw [le4_nat, le4_nat, le4_nat, le4_nat]
  simp only [leN, Nat.reduceAdd]
  omega
theorem ab_1 {A P V q : Nat} (hA : A < 2 ^ 130 + 5) (h1 : P = A + 5) (h2 : P = V + q * 2 ^ 128) (hq : 4 ≤ q) (hV : V < 2 ^ 128) : A % po_p % 2 ^ 128 = V := by
  have e : po_p = 2 ^ 130 - 5 := rfl
  rw [e]
  omega
theorem ab_0 {A V q : Nat} (h1 : A + 5 < 2 ^ 130) (h2 : A = V + q * 2 ^ 128) (hV : V < 2 ^ 128) : A % po_p % 2 ^ 128 = V := by
  have e : po_p = 2 ^ 130 - 5 := rfl
  rw [e]
  omega
theorem dX8_tallyOf_0 : decode cX8_tallyOf 0 = .ok (.iconst 0, 1) := by decide +kernel
theorem dX8_tallyOf_1 : decode cX8_tallyOf 1 = .ok (.istore 4, 2) := by decide +kernel
theorem dX8_tallyOf_3 : decode cX8_tallyOf 3 = .ok (.iload 4, 2) := by decide +kernel
theorem dX8_tallyOf_5 : decode cX8_tallyOf 5 = .ok (.bipush 16, 2) := by decide +kernel
theorem dX8_tallyOf_7 : decode cX8_tallyOf 7 = .ok (.if_icmp .ge 77, 3) := by decide +kernel
theorem dX8_tallyOf_10 : decode cX8_tallyOf 10 = .ok (.aload_n 0, 1) := by decide +kernel
theorem dX8_tallyOf_11 : decode cX8_tallyOf 11 = .ok (.getfield 95, 3) := by decide +kernel
theorem dX8_tallyOf_14 : decode cX8_tallyOf 14 = .ok (.iload 4, 2) := by decide +kernel
theorem dX8_tallyOf_16 : decode cX8_tallyOf 16 = .ok (.aload_n 1, 1) := by decide +kernel
theorem dX8_tallyOf_17 : decode cX8_tallyOf 17 = .ok (.iload_n 2, 1) := by decide +kernel
theorem dX8_tallyOf_18 : decode cX8_tallyOf 18 = .ok (.iload 4, 2) := by decide +kernel
theorem dX8_tallyOf_20 : decode cX8_tallyOf 20 = .ok (.iadd, 1) := by decide +kernel
theorem dX8_tallyOf_21 : decode cX8_tallyOf 21 = .ok (.iaload, 1) := by decide +kernel
theorem dX8_tallyOf_22 : decode cX8_tallyOf 22 = .ok (.iastore, 1) := by decide +kernel
theorem dX8_tallyOf_23 : decode cX8_tallyOf 23 = .ok (.iload 4, 2) := by decide +kernel
theorem dX8_tallyOf_25 : decode cX8_tallyOf 25 = .ok (.iconst 4, 1) := by decide +kernel
theorem dX8_tallyOf_26 : decode cX8_tallyOf 26 = .ok (.irem, 1) := by decide +kernel
theorem dX8_tallyOf_27 : decode cX8_tallyOf 27 = .ok (.iconst 3, 1) := by decide +kernel
theorem dX8_tallyOf_28 : decode cX8_tallyOf 28 = .ok (.if_icmp .ne 20, 3) := by decide +kernel
theorem dX8_tallyOf_31 : decode cX8_tallyOf 31 = .ok (.aload_n 0, 1) := by decide +kernel
theorem dX8_tallyOf_32 : decode cX8_tallyOf 32 = .ok (.getfield 95, 3) := by decide +kernel
theorem dX8_tallyOf_35 : decode cX8_tallyOf 35 = .ok (.iload 4, 2) := by decide +kernel
theorem dX8_tallyOf_37 : decode cX8_tallyOf 37 = .ok (.aload_n 0, 1) := by decide +kernel
theorem dX8_tallyOf_38 : decode cX8_tallyOf 38 = .ok (.getfield 95, 3) := by decide +kernel
theorem dX8_tallyOf_41 : decode cX8_tallyOf 41 = .ok (.iload 4, 2) := by decide +kernel
theorem dX8_tallyOf_43 : decode cX8_tallyOf 43 = .ok (.iaload, 1) := by decide +kernel
theorem dX8_tallyOf_44 : decode cX8_tallyOf 44 = .ok (.bipush 15, 2) := by decide +kernel
theorem dX8_tallyOf_46 : decode cX8_tallyOf 46 = .ok (.iand, 1) := by decide +kernel
theorem dX8_tallyOf_47 : decode cX8_tallyOf 47 = .ok (.iastore, 1) := by decide +kernel
theorem dX8_tallyOf_48 : decode cX8_tallyOf 48 = .ok (.iload 4, 2) := by decide +kernel
theorem dX8_tallyOf_50 : decode cX8_tallyOf 50 = .ok (.iconst 4, 1) := by decide +kernel
theorem dX8_tallyOf_51 : decode cX8_tallyOf 51 = .ok (.irem, 1) := by decide +kernel
theorem dX8_tallyOf_52 : decode cX8_tallyOf 52 = .ok (.ifCond .ne 26, 3) := by decide +kernel
theorem dX8_tallyOf_55 : decode cX8_tallyOf 55 = .ok (.iload 4, 2) := by decide +kernel
theorem dX8_tallyOf_57 : decode cX8_tallyOf 57 = .ok (.ifCond .le 21, 3) := by decide +kernel
theorem dX8_tallyOf_60 : decode cX8_tallyOf 60 = .ok (.aload_n 0, 1) := by decide +kernel
theorem dX8_tallyOf_61 : decode cX8_tallyOf 61 = .ok (.getfield 95, 3) := by decide +kernel
theorem dX8_tallyOf_64 : decode cX8_tallyOf 64 = .ok (.iload 4, 2) := by decide +kernel
theorem dX8_tallyOf_66 : decode cX8_tallyOf 66 = .ok (.aload_n 0, 1) := by decide +kernel
theorem dX8_tallyOf_67 : decode cX8_tallyOf 67 = .ok (.getfield 95, 3) := by decide +kernel
theorem dX8_tallyOf_70 : decode cX8_tallyOf 70 = .ok (.iload 4, 2) := by decide +kernel
theorem dX8_tallyOf_72 : decode cX8_tallyOf 72 = .ok (.iaload, 1) := by decide +kernel
theorem dX8_tallyOf_73 : decode cX8_tallyOf 73 = .ok (.sipush 252, 3) := by decide +kernel
theorem dX8_tallyOf_76 : decode cX8_tallyOf 76 = .ok (.iand, 1) := by decide +kernel
theorem dX8_tallyOf_77 : decode cX8_tallyOf 77 = .ok (.iastore, 1) := by decide +kernel
theorem dX8_tallyOf_78 : decode cX8_tallyOf 78 = .ok (.iinc 4 1, 3) := by decide +kernel
theorem dX8_tallyOf_81 : decode cX8_tallyOf 81 = .ok (.goto (-78), 3) := by decide +kernel
theorem dX8_tallyOf_84 : decode cX8_tallyOf 84 = .ok (.iconst 0, 1) := by decide +kernel
theorem dX8_tallyOf_85 : decode cX8_tallyOf 85 = .ok (.istore 4, 2) := by decide +kernel
theorem dX8_tallyOf_87 : decode cX8_tallyOf 87 = .ok (.iload 4, 2) := by decide +kernel
theorem dX8_tallyOf_89 : decode cX8_tallyOf 89 = .ok (.bipush 40, 2) := by decide +kernel
theorem dX8_tallyOf_91 : decode cX8_tallyOf 91 = .ok (.if_icmp .ge 17, 3) := by decide +kernel
theorem dX8_tallyOf_94 : decode cX8_tallyOf 94 = .ok (.aload_n 0, 1) := by decide +kernel
theorem dX8_tallyOf_95 : decode cX8_tallyOf 95 = .ok (.getfield 92, 3) := by decide +kernel
theorem dX8_tallyOf_98 : decode cX8_tallyOf 98 = .ok (.iload 4, 2) := by decide +kernel
theorem dX8_tallyOf_100 : decode cX8_tallyOf 100 = .ok (.iconst 0, 1) := by decide +kernel
theorem dX8_tallyOf_101 : decode cX8_tallyOf 101 = .ok (.iastore, 1) := by decide +kernel
theorem dX8_tallyOf_102 : decode cX8_tallyOf 102 = .ok (.iinc 4 1, 3) := by decide +kernel
theorem dX8_tallyOf_105 : decode cX8_tallyOf 105 = .ok (.goto (-18), 3) := by decide +kernel
theorem dX8_tallyOf_108 : decode cX8_tallyOf 108 = .ok (.iconst 0, 1) := by decide +kernel
theorem dX8_tallyOf_109 : decode cX8_tallyOf 109 = .ok (.istore 4, 2) := by decide +kernel
theorem dX8_tallyOf_111 : decode cX8_tallyOf 111 = .ok (.iload 4, 2) := by decide +kernel
theorem dX8_tallyOf_113 : decode cX8_tallyOf 113 = .ok (.iload_n 3, 1) := by decide +kernel
theorem dX8_tallyOf_114 : decode cX8_tallyOf 114 = .ok (.if_icmp .ge 117, 3) := by decide +kernel
theorem dX8_tallyOf_117 : decode cX8_tallyOf 117 = .ok (.iload_n 3, 1) := by decide +kernel
theorem dX8_tallyOf_118 : decode cX8_tallyOf 118 = .ok (.iload 4, 2) := by decide +kernel
theorem dX8_tallyOf_120 : decode cX8_tallyOf 120 = .ok (.isub, 1) := by decide +kernel
theorem dX8_tallyOf_121 : decode cX8_tallyOf 121 = .ok (.bipush 16, 2) := by decide +kernel
theorem dX8_tallyOf_123 : decode cX8_tallyOf 123 = .ok (.if_icmp .ge 10, 3) := by decide +kernel
theorem dX8_tallyOf_126 : decode cX8_tallyOf 126 = .ok (.iload_n 3, 1) := by decide +kernel
theorem dX8_tallyOf_127 : decode cX8_tallyOf 127 = .ok (.iload 4, 2) := by decide +kernel
theorem dX8_tallyOf_129 : decode cX8_tallyOf 129 = .ok (.isub, 1) := by decide +kernel
theorem dX8_tallyOf_130 : decode cX8_tallyOf 130 = .ok (.goto 5, 3) := by decide +kernel
theorem dX8_tallyOf_133 : decode cX8_tallyOf 133 = .ok (.bipush 16, 2) := by decide +kernel
theorem dX8_tallyOf_135 : decode cX8_tallyOf 135 = .ok (.istore 5, 2) := by decide +kernel
theorem dX8_tallyOf_137 : decode cX8_tallyOf 137 = .ok (.iconst 0, 1) := by decide +kernel
theorem dX8_tallyOf_138 : decode cX8_tallyOf 138 = .ok (.istore 6, 2) := by decide +kernel
theorem dX8_tallyOf_140 : decode cX8_tallyOf 140 = .ok (.iconst 0, 1) := by decide +kernel
theorem dX8_tallyOf_141 : decode cX8_tallyOf 141 = .ok (.istore 7, 2) := by decide +kernel
theorem dX8_tallyOf_143 : decode cX8_tallyOf 143 = .ok (.iload 7, 2) := by decide +kernel
theorem dX8_tallyOf_145 : decode cX8_tallyOf 145 = .ok (.bipush 18, 2) := by decide +kernel
theorem dX8_tallyOf_147 : decode cX8_tallyOf 147 = .ok (.if_icmp .ge 74, 3) := by decide +kernel
theorem dX8_tallyOf_150 : decode cX8_tallyOf 150 = .ok (.iload 6, 2) := by decide +kernel
theorem dX8_tallyOf_152 : decode cX8_tallyOf 152 = .ok (.aload_n 0, 1) := by decide +kernel
theorem dX8_tallyOf_153 : decode cX8_tallyOf 153 = .ok (.getfield 92, 3) := by decide +kernel
theorem dX8_tallyOf_156 : decode cX8_tallyOf 156 = .ok (.iload 7, 2) := by decide +kernel
theorem dX8_tallyOf_158 : decode cX8_tallyOf 158 = .ok (.iaload, 1) := by decide +kernel
theorem dX8_tallyOf_159 : decode cX8_tallyOf 159 = .ok (.iload 7, 2) := by decide +kernel
theorem dX8_tallyOf_161 : decode cX8_tallyOf 161 = .ok (.iload 5, 2) := by decide +kernel
theorem dX8_tallyOf_163 : decode cX8_tallyOf 163 = .ok (.if_icmp .ge 16, 3) := by decide +kernel
theorem dX8_tallyOf_166 : decode cX8_tallyOf 166 = .ok (.aload_n 0, 1) := by decide +kernel
theorem dX8_tallyOf_167 : decode cX8_tallyOf 167 = .ok (.getfield 104, 3) := by decide +kernel
theorem dX8_tallyOf_170 : decode cX8_tallyOf 170 = .ok (.iload 4, 2) := by decide +kernel
theorem dX8_tallyOf_172 : decode cX8_tallyOf 172 = .ok (.iload 7, 2) := by decide +kernel
theorem dX8_tallyOf_174 : decode cX8_tallyOf 174 = .ok (.iadd, 1) := by decide +kernel
theorem dX8_tallyOf_175 : decode cX8_tallyOf 175 = .ok (.iaload, 1) := by decide +kernel
theorem dX8_tallyOf_176 : decode cX8_tallyOf 176 = .ok (.goto 15, 3) := by decide +kernel
theorem dX8_tallyOf_179 : decode cX8_tallyOf 179 = .ok (.iload 7, 2) := by decide +kernel
theorem dX8_tallyOf_181 : decode cX8_tallyOf 181 = .ok (.iload 5, 2) := by decide +kernel
theorem dX8_tallyOf_183 : decode cX8_tallyOf 183 = .ok (.if_icmp .ne 7, 3) := by decide +kernel
theorem dX8_tallyOf_186 : decode cX8_tallyOf 186 = .ok (.iconst 1, 1) := by decide +kernel
theorem dX8_tallyOf_187 : decode cX8_tallyOf 187 = .ok (.goto 4, 3) := by decide +kernel
theorem dX8_tallyOf_190 : decode cX8_tallyOf 190 = .ok (.iconst 0, 1) := by decide +kernel
theorem dX8_tallyOf_191 : decode cX8_tallyOf 191 = .ok (.iadd, 1) := by decide +kernel
theorem dX8_tallyOf_192 : decode cX8_tallyOf 192 = .ok (.iadd, 1) := by decide +kernel
theorem dX8_tallyOf_193 : decode cX8_tallyOf 193 = .ok (.istore 6, 2) := by decide +kernel
theorem dX8_tallyOf_195 : decode cX8_tallyOf 195 = .ok (.aload_n 0, 1) := by decide +kernel
theorem dX8_tallyOf_196 : decode cX8_tallyOf 196 = .ok (.getfield 92, 3) := by decide +kernel
theorem dX8_tallyOf_199 : decode cX8_tallyOf 199 = .ok (.iload 7, 2) := by decide +kernel
theorem dX8_tallyOf_201 : decode cX8_tallyOf 201 = .ok (.iload 6, 2) := by decide +kernel
theorem dX8_tallyOf_203 : decode cX8_tallyOf 203 = .ok (.sipush 255, 3) := by decide +kernel
theorem dX8_tallyOf_206 : decode cX8_tallyOf 206 = .ok (.iand, 1) := by decide +kernel
theorem dX8_tallyOf_207 : decode cX8_tallyOf 207 = .ok (.iastore, 1) := by decide +kernel
theorem dX8_tallyOf_208 : decode cX8_tallyOf 208 = .ok (.iload 6, 2) := by decide +kernel
theorem dX8_tallyOf_210 : decode cX8_tallyOf 210 = .ok (.bipush 8, 2) := by decide +kernel
theorem dX8_tallyOf_212 : decode cX8_tallyOf 212 = .ok (.ishr, 1) := by decide +kernel
theorem dX8_tallyOf_213 : decode cX8_tallyOf 213 = .ok (.istore 6, 2) := by decide +kernel
theorem dX8_tallyOf_215 : decode cX8_tallyOf 215 = .ok (.iinc 7 1, 3) := by decide +kernel
theorem dX8_tallyOf_218 : decode cX8_tallyOf 218 = .ok (.goto (-75), 3) := by decide +kernel
theorem dX8_tallyOf_221 : decode cX8_tallyOf 221 = .ok (.aload_n 0, 1) := by decide +kernel
theorem dX8_tallyOf_222 : decode cX8_tallyOf 222 = .ok (.invokevirtual 208, 3) := by decide +kernel
theorem dX8_tallyOf_225 : decode cX8_tallyOf 225 = .ok (.iinc 4 16, 3) := by decide +kernel
theorem dX8_tallyOf_228 : decode cX8_tallyOf 228 = .ok (.goto (-117), 3) := by decide +kernel
theorem dX8_tallyOf_231 : decode cX8_tallyOf 231 = .ok (.iconst 5, 1) := by decide +kernel
theorem dX8_tallyOf_232 : decode cX8_tallyOf 232 = .ok (.istore 4, 2) := by decide +kernel
theorem dX8_tallyOf_234 : decode cX8_tallyOf 234 = .ok (.iconst 0, 1) := by decide +kernel
theorem dX8_tallyOf_235 : decode cX8_tallyOf 235 = .ok (.istore 5, 2) := by decide +kernel
theorem dX8_tallyOf_237 : decode cX8_tallyOf 237 = .ok (.iload 5, 2) := by decide +kernel
theorem dX8_tallyOf_239 : decode cX8_tallyOf 239 = .ok (.bipush 17, 2) := by decide +kernel
theorem dX8_tallyOf_241 : decode cX8_tallyOf 241 = .ok (.if_icmp .ge 41, 3) := by decide +kernel
theorem dX8_tallyOf_244 : decode cX8_tallyOf 244 = .ok (.iload 4, 2) := by decide +kernel
theorem dX8_tallyOf_246 : decode cX8_tallyOf 246 = .ok (.aload_n 0, 1) := by decide +kernel
theorem dX8_tallyOf_247 : decode cX8_tallyOf 247 = .ok (.getfield 92, 3) := by decide +kernel
theorem dX8_tallyOf_250 : decode cX8_tallyOf 250 = .ok (.iload 5, 2) := by decide +kernel
theorem dX8_tallyOf_252 : decode cX8_tallyOf 252 = .ok (.iaload, 1) := by decide +kernel
theorem dX8_tallyOf_253 : decode cX8_tallyOf 253 = .ok (.iadd, 1) := by decide +kernel
theorem dX8_tallyOf_254 : decode cX8_tallyOf 254 = .ok (.istore 4, 2) := by decide +kernel
theorem dX8_tallyOf_256 : decode cX8_tallyOf 256 = .ok (.aload_n 0, 1) := by decide +kernel
theorem dX8_tallyOf_257 : decode cX8_tallyOf 257 = .ok (.getfield 98, 3) := by decide +kernel
theorem dX8_tallyOf_260 : decode cX8_tallyOf 260 = .ok (.iload 5, 2) := by decide +kernel
theorem dX8_tallyOf_262 : decode cX8_tallyOf 262 = .ok (.iload 4, 2) := by decide +kernel
theorem dX8_tallyOf_264 : decode cX8_tallyOf 264 = .ok (.sipush 255, 3) := by decide +kernel
theorem dX8_tallyOf_267 : decode cX8_tallyOf 267 = .ok (.iand, 1) := by decide +kernel
theorem dX8_tallyOf_268 : decode cX8_tallyOf 268 = .ok (.iastore, 1) := by decide +kernel
theorem dX8_tallyOf_269 : decode cX8_tallyOf 269 = .ok (.iload 4, 2) := by decide +kernel
theorem dX8_tallyOf_271 : decode cX8_tallyOf 271 = .ok (.bipush 8, 2) := by decide +kernel
theorem dX8_tallyOf_273 : decode cX8_tallyOf 273 = .ok (.ishr, 1) := by decide +kernel
theorem dX8_tallyOf_274 : decode cX8_tallyOf 274 = .ok (.istore 4, 2) := by decide +kernel
theorem dX8_tallyOf_276 : decode cX8_tallyOf 276 = .ok (.iinc 5 1, 3) := by decide +kernel
theorem dX8_tallyOf_279 : decode cX8_tallyOf 279 = .ok (.goto (-42), 3) := by decide +kernel
theorem dX8_tallyOf_282 : decode cX8_tallyOf 282 = .ok (.aload_n 0, 1) := by decide +kernel
theorem dX8_tallyOf_283 : decode cX8_tallyOf 283 = .ok (.getfield 98, 3) := by decide +kernel
theorem dX8_tallyOf_286 : decode cX8_tallyOf 286 = .ok (.bipush 16, 2) := by decide +kernel
theorem dX8_tallyOf_288 : decode cX8_tallyOf 288 = .ok (.iaload, 1) := by decide +kernel
theorem dX8_tallyOf_289 : decode cX8_tallyOf 289 = .ok (.iconst 4, 1) := by decide +kernel
theorem dX8_tallyOf_290 : decode cX8_tallyOf 290 = .ok (.if_icmp .lt 7, 3) := by decide +kernel
theorem dX8_tallyOf_293 : decode cX8_tallyOf 293 = .ok (.iconst 1, 1) := by decide +kernel
theorem dX8_tallyOf_294 : decode cX8_tallyOf 294 = .ok (.goto 4, 3) := by decide +kernel
theorem dX8_tallyOf_297 : decode cX8_tallyOf 297 = .ok (.iconst 0, 1) := by decide +kernel
theorem dX8_tallyOf_298 : decode cX8_tallyOf 298 = .ok (.istore 5, 2) := by decide +kernel
theorem dX8_tallyOf_300 : decode cX8_tallyOf 300 = .ok (.iconst 0, 1) := by decide +kernel
theorem dX8_tallyOf_301 : decode cX8_tallyOf 301 = .ok (.istore 4, 2) := by decide +kernel
theorem dX8_tallyOf_303 : decode cX8_tallyOf 303 = .ok (.iconst 0, 1) := by decide +kernel
theorem dX8_tallyOf_304 : decode cX8_tallyOf 304 = .ok (.istore 6, 2) := by decide +kernel
theorem dX8_tallyOf_306 : decode cX8_tallyOf 306 = .ok (.iload 6, 2) := by decide +kernel
theorem dX8_tallyOf_308 : decode cX8_tallyOf 308 = .ok (.bipush 16, 2) := by decide +kernel
theorem dX8_tallyOf_310 : decode cX8_tallyOf 310 = .ok (.if_icmp .ge 66, 3) := by decide +kernel
theorem dX8_tallyOf_313 : decode cX8_tallyOf 313 = .ok (.iload 4, 2) := by decide +kernel
theorem dX8_tallyOf_315 : decode cX8_tallyOf 315 = .ok (.iload 5, 2) := by decide +kernel
theorem dX8_tallyOf_317 : decode cX8_tallyOf 317 = .ok (.ifCond .eq 13, 3) := by decide +kernel
theorem dX8_tallyOf_320 : decode cX8_tallyOf 320 = .ok (.aload_n 0, 1) := by decide +kernel
theorem dX8_tallyOf_321 : decode cX8_tallyOf 321 = .ok (.getfield 98, 3) := by decide +kernel
theorem dX8_tallyOf_324 : decode cX8_tallyOf 324 = .ok (.iload 6, 2) := by decide +kernel
theorem dX8_tallyOf_326 : decode cX8_tallyOf 326 = .ok (.iaload, 1) := by decide +kernel
theorem dX8_tallyOf_327 : decode cX8_tallyOf 327 = .ok (.goto 10, 3) := by decide +kernel
theorem dX8_tallyOf_330 : decode cX8_tallyOf 330 = .ok (.aload_n 0, 1) := by decide +kernel
theorem dX8_tallyOf_331 : decode cX8_tallyOf 331 = .ok (.getfield 92, 3) := by decide +kernel
theorem dX8_tallyOf_334 : decode cX8_tallyOf 334 = .ok (.iload 6, 2) := by decide +kernel
theorem dX8_tallyOf_336 : decode cX8_tallyOf 336 = .ok (.iaload, 1) := by decide +kernel
theorem dX8_tallyOf_337 : decode cX8_tallyOf 337 = .ok (.aload_n 1, 1) := by decide +kernel
theorem dX8_tallyOf_338 : decode cX8_tallyOf 338 = .ok (.iload_n 2, 1) := by decide +kernel
theorem dX8_tallyOf_339 : decode cX8_tallyOf 339 = .ok (.bipush 16, 2) := by decide +kernel
theorem dX8_tallyOf_341 : decode cX8_tallyOf 341 = .ok (.iadd, 1) := by decide +kernel
theorem dX8_tallyOf_342 : decode cX8_tallyOf 342 = .ok (.iload 6, 2) := by decide +kernel
theorem dX8_tallyOf_344 : decode cX8_tallyOf 344 = .ok (.iadd, 1) := by decide +kernel
theorem dX8_tallyOf_345 : decode cX8_tallyOf 345 = .ok (.iaload, 1) := by decide +kernel
theorem dX8_tallyOf_346 : decode cX8_tallyOf 346 = .ok (.iadd, 1) := by decide +kernel
theorem dX8_tallyOf_347 : decode cX8_tallyOf 347 = .ok (.iadd, 1) := by decide +kernel
theorem dX8_tallyOf_348 : decode cX8_tallyOf 348 = .ok (.istore 4, 2) := by decide +kernel
theorem dX8_tallyOf_350 : decode cX8_tallyOf 350 = .ok (.aload_n 0, 1) := by decide +kernel
theorem dX8_tallyOf_351 : decode cX8_tallyOf 351 = .ok (.getfield 101, 3) := by decide +kernel
theorem dX8_tallyOf_354 : decode cX8_tallyOf 354 = .ok (.iload 6, 2) := by decide +kernel
theorem dX8_tallyOf_356 : decode cX8_tallyOf 356 = .ok (.iload 4, 2) := by decide +kernel
theorem dX8_tallyOf_358 : decode cX8_tallyOf 358 = .ok (.sipush 255, 3) := by decide +kernel
theorem dX8_tallyOf_361 : decode cX8_tallyOf 361 = .ok (.iand, 1) := by decide +kernel
theorem dX8_tallyOf_362 : decode cX8_tallyOf 362 = .ok (.iastore, 1) := by decide +kernel
theorem dX8_tallyOf_363 : decode cX8_tallyOf 363 = .ok (.iload 4, 2) := by decide +kernel
theorem dX8_tallyOf_365 : decode cX8_tallyOf 365 = .ok (.bipush 8, 2) := by decide +kernel
theorem dX8_tallyOf_367 : decode cX8_tallyOf 367 = .ok (.ishr, 1) := by decide +kernel
theorem dX8_tallyOf_368 : decode cX8_tallyOf 368 = .ok (.istore 4, 2) := by decide +kernel
theorem dX8_tallyOf_370 : decode cX8_tallyOf 370 = .ok (.iinc 6 1, 3) := by decide +kernel
theorem dX8_tallyOf_373 : decode cX8_tallyOf 373 = .ok (.goto (-67), 3) := by decide +kernel
theorem dX8_tallyOf_376 : decode cX8_tallyOf 376 = .ok (.return_, 1) := by decide +kernel
set_option maxHeartbeats 4000000 in
set_option maxRecDepth 100000 in
theorem c_R_tally (l : Launch) (D : va_G) (a0 : Nat) (a1 : Nat) (p2 : Nat) (p3 : Nat) (v_a0_thrown : Nat) (a0_tape : Nat) (v_a0_taped : Nat) (a0_out : Nat) (v_a0_outs : Nat) (a0_slots : Nat) (a0_kept : Nat) (a0_phase : Nat) (a0_secret : Nat) (a0_key : Nat) (a0_hide : Nat) (a0_iv : Nat) (a0_begin : Nat) (a0_each : Nat) (a0_root : Nat) (a0_power : Nat) (a0_work : Nat) (a0_w : Nat) (a0_h : Nat) (a0_state : Nat) (a0_sum : Nat) (a0_pad : Nat) (a0_text : Nat) (v_a0_texts : Nat) (a0_info : Nat) (v_a0_infos : Nat) (a0_made : Nat) (a0_blockKey : Nat) (a0_nonce : Nat) (a0_x : Nat) (a0_first : Nat) (a0_block : Nat) (a0_a : Nat) (a0_r : Nat) (a0_product : Nat) (a0_tag : Nat) (a0_sealed : Nat) (t_a0_a : Nat → By) (t_a0_r : Nat → By) (t_a0_product : Nat → By) (t_a0_tag : Nat → By) (t_a0_sealed : Nat → By) (n1 : Nat) (t_a1 : Nat → By)  (h1 : p2 + 32 ≤ n1) (hn : n1 < 2 ^ 31) (h2 : p3 ≤ 2400) : vM l D yX8_tallyOf cX8_tallyOf 8 none { frames := 1, cells := 0, slots := 0, locals := 25 } [.ref a0, .ref a1, .int (nI p2), .int (nI p3)] [(a0, .inr (8, [.int (nI v_a0_thrown), .ref a0_tape, .int (nI v_a0_taped), .ref a0_out, .int (nI v_a0_outs), .ref a0_slots, .ref a0_kept, .ref a0_phase, .ref a0_secret, .ref a0_key, .ref a0_hide, .ref a0_iv, .ref a0_begin, .ref a0_each, .ref a0_root, .ref a0_power, .ref a0_work, .ref a0_w, .ref a0_h, .ref a0_state, .ref a0_sum, .ref a0_pad, .ref a0_text, .int (nI v_a0_texts), .ref a0_info, .int (nI v_a0_infos), .ref a0_made, .ref a0_blockKey, .ref a0_nonce, .ref a0_x, .ref a0_first, .ref a0_block, .ref a0_a, .ref a0_r, .ref a0_product, .ref a0_tag, .ref a0_sealed])), (a0_a, aY D 40 t_a0_a), (a0_r, aY D 16 t_a0_r), (a0_product, aY D 40 t_a0_product), (a0_tag, aY D 16 t_a0_tag), (a0_sealed, aY D 2400 t_a0_sealed), (a1, aY D n1 t_a1)] (fun r wo => ∃ (ta : Nat → By) (tr : Nat → By) (tp : Nat → By) (tg : Nat → By), r = none ∧ wo = [(a0, .inr (8, [.int (nI v_a0_thrown), .ref a0_tape, .int (nI v_a0_taped), .ref a0_out, .int (nI v_a0_outs), .ref a0_slots, .ref a0_kept, .ref a0_phase, .ref a0_secret, .ref a0_key, .ref a0_hide, .ref a0_iv, .ref a0_begin, .ref a0_each, .ref a0_root, .ref a0_power, .ref a0_work, .ref a0_w, .ref a0_h, .ref a0_state, .ref a0_sum, .ref a0_pad, .ref a0_text, .int (nI v_a0_texts), .ref a0_info, .int (nI v_a0_infos), .ref a0_made, .ref a0_blockKey, .ref a0_nonce, .ref a0_x, .ref a0_first, .ref a0_block, .ref a0_a, .ref a0_r, .ref a0_product, .ref a0_tag, .ref a0_sealed])), (a0_a, aY D 40 ta), (a0_r, aY D 16 tr), (a0_product, aY D 40 tp), (a0_tag, aY D 16 tg), (a0_sealed, aY D 2400 t_a0_sealed), (a1, aY D n1 t_a1)] ∧ (∀ j, j < 16 → tg j = talF (fun j => t_a1 (p2 + j)) t_a0_sealed p3 j)) := by
  refine vM.of (by decide) (Nat.le_of_ble_eq_true rfl) (fun C hCl hCD g R => ?_)
  subst hCl; subst hCD
  show VJ C 0 0 0 [(0, .ref a0), (1, .ref a1), (2, .int (nI p2)), (3, .int (nI p3))] [] [(a0, .inr (8, [.int (nI v_a0_thrown), .ref a0_tape, .int (nI v_a0_taped), .ref a0_out, .int (nI v_a0_outs), .ref a0_slots, .ref a0_kept, .ref a0_phase, .ref a0_secret, .ref a0_key, .ref a0_hide, .ref a0_iv, .ref a0_begin, .ref a0_each, .ref a0_root, .ref a0_power, .ref a0_work, .ref a0_w, .ref a0_h, .ref a0_state, .ref a0_sum, .ref a0_pad, .ref a0_text, .int (nI v_a0_texts), .ref a0_info, .int (nI v_a0_infos), .ref a0_made, .ref a0_blockKey, .ref a0_nonce, .ref a0_x, .ref a0_first, .ref a0_block, .ref a0_a, .ref a0_r, .ref a0_product, .ref a0_tag, .ref a0_sealed])), (a0_a, aY C.D 40 t_a0_a), (a0_r, aY C.D 16 t_a0_r), (a0_product, aY C.D 40 t_a0_product), (a0_tag, aY C.D 16 t_a0_tag), (a0_sealed, aY C.D 2400 t_a0_sealed), (a1, aY C.D n1 t_a1)]
  refine v_iconst g dX8_tallyOf_0 (v := nI 0) (by decide +kernel) ?_
  refine v_istore g [(4, .int (nI 0)), (0, .ref a0), (1, .ref a1), (2, .int (nI p2)), (3, .int (nI p3))] dX8_tallyOf_1 (by decide) rfl ?_
  have L3_0 : ∀ k : Nat, k ≤ 16 → ∀ (tr : Nat → By), (∀ j, j < k → tr j = po_c j ((fun j => t_a1 (p2 + j)) j)) → VJ C 0 0 3 [(4, .int (nI k)), (0, .ref a0), (1, .ref a1), (2, .int (nI p2)), (3, .int (nI p3))] [] [(a0, .inr (8, [.int (nI v_a0_thrown), .ref a0_tape, .int (nI v_a0_taped), .ref a0_out, .int (nI v_a0_outs), .ref a0_slots, .ref a0_kept, .ref a0_phase, .ref a0_secret, .ref a0_key, .ref a0_hide, .ref a0_iv, .ref a0_begin, .ref a0_each, .ref a0_root, .ref a0_power, .ref a0_work, .ref a0_w, .ref a0_h, .ref a0_state, .ref a0_sum, .ref a0_pad, .ref a0_text, .int (nI v_a0_texts), .ref a0_info, .int (nI v_a0_infos), .ref a0_made, .ref a0_blockKey, .ref a0_nonce, .ref a0_x, .ref a0_first, .ref a0_block, .ref a0_a, .ref a0_r, .ref a0_product, .ref a0_tag, .ref a0_sealed])), (a0_a, aY C.D 40 t_a0_a), (a0_r, aY C.D 16 tr), (a0_product, aY C.D 40 t_a0_product), (a0_tag, aY C.D 16 t_a0_tag), (a0_sealed, aY C.D 2400 t_a0_sealed), (a1, aY C.D n1 t_a1)] := by
    refine v_for (16) ?_ ?_
    · skip
      intro k hik ih tr hv0
      refine v_iload g dX8_tallyOf_3 0 rfl ?_
      refine v_bipush g dX8_tallyOf_5 (v := nI 16) (by decide +kernel) ?_
      refine v_icmp_geN g 84 dX8_tallyOf_7 (by decide) (by omega) (by omega) (fun h3 => ?_) (fun h3 => ?_)
      · skip
        exact absurd h3 (by omega)
      · skip
        refine v_aload_n g dX8_tallyOf_10 0 rfl 1 rfl ?_
        refine gf_X8_95 g dX8_tallyOf_11 0 rfl rfl ?_
        refine v_iload g dX8_tallyOf_14 0 rfl ?_
        refine v_aload_n g dX8_tallyOf_16 1 rfl 2 rfl ?_
        refine v_iload_n g dX8_tallyOf_17 2 rfl 3 rfl ?_
        refine v_iload g dX8_tallyOf_18 0 rfl ?_
        refine v_iaddN g dX8_tallyOf_20 ?_
        refine v_ialdY g 6 rfl (by omega) (by omega) dX8_tallyOf_21 ?_
        obtain ⟨t4, ht4⟩ : ∃ z : Nat → By, z = va_up tr k (t_a1 (p2 + k)) := ⟨_, rfl⟩
        refine v_iastY g ((t_a1 (p2 + k))) rfl t4 ht4 2 [(a0, .inr (8, [.int (nI v_a0_thrown), .ref a0_tape, .int (nI v_a0_taped), .ref a0_out, .int (nI v_a0_outs), .ref a0_slots, .ref a0_kept, .ref a0_phase, .ref a0_secret, .ref a0_key, .ref a0_hide, .ref a0_iv, .ref a0_begin, .ref a0_each, .ref a0_root, .ref a0_power, .ref a0_work, .ref a0_w, .ref a0_h, .ref a0_state, .ref a0_sum, .ref a0_pad, .ref a0_text, .int (nI v_a0_texts), .ref a0_info, .int (nI v_a0_infos), .ref a0_made, .ref a0_blockKey, .ref a0_nonce, .ref a0_x, .ref a0_first, .ref a0_block, .ref a0_a, .ref a0_r, .ref a0_product, .ref a0_tag, .ref a0_sealed])), (a0_a, aY C.D 40 t_a0_a), (a0_r, aY C.D 16 t4), (a0_product, aY C.D 40 t_a0_product), (a0_tag, aY C.D 16 t_a0_tag), (a0_sealed, aY C.D 2400 t_a0_sealed), (a1, aY C.D n1 t_a1)] rfl (by omega) (by decide) dX8_tallyOf_22 rfl ?_
        refine v_iload g dX8_tallyOf_23 0 rfl ?_
        refine v_iconst g dX8_tallyOf_25 (v := nI 4) (by decide +kernel) ?_
        refine v_iremN g dX8_tallyOf_26 (by omega) (by omega) (by omega) ?_
        refine v_iconst g dX8_tallyOf_27 (v := nI 3) (by decide +kernel) ?_
        refine v_icmp_neN g 48 dX8_tallyOf_28 (by decide) (by omega) (by omega) (fun h5 => ?_) (fun h5 => ?_)
        · skip
          refine v_iload g dX8_tallyOf_48 0 rfl ?_
          refine v_iconst g dX8_tallyOf_50 (v := nI 4) (by decide +kernel) ?_
          refine v_iremN g dX8_tallyOf_51 (by omega) (by omega) (by omega) ?_
          refine v_if_neN g 78 dX8_tallyOf_52 (by decide) (by omega) (fun h6 => ?_) (fun h6 => ?_)
          · skip
            refine v_iincN g 1 [(4, .int (nI (k + 1))), (0, .ref a0), (1, .ref a1), (2, .int (nI p2)), (3, .int (nI p3))] dX8_tallyOf_78 0 rfl (by decide +kernel) (by decide) rfl ?_
            refine v_goto g 3 dX8_tallyOf_81 (by decide) ?_
            exact ih t4 (up_lt (m := k) (F := fun j => po_c j ((fun j => t_a1 (p2 + j)) j)) hv0 (by show _ = po_c k _; unfold po_c; rw [if_neg (by omega), if_neg (by omega)]) ht4)
          · skip
            refine v_iload g dX8_tallyOf_55 0 rfl ?_
            refine v_if_leN g 78 dX8_tallyOf_57 (by decide) (by omega) (fun h7 => ?_) (fun h7 => ?_)
            · skip
              refine v_iincN g 1 [(4, .int (nI (k + 1))), (0, .ref a0), (1, .ref a1), (2, .int (nI p2)), (3, .int (nI p3))] dX8_tallyOf_78 0 rfl (by decide +kernel) (by decide) rfl ?_
              refine v_goto g 3 dX8_tallyOf_81 (by decide) ?_
              exact ih t4 (up_lt (m := k) (F := fun j => po_c j ((fun j => t_a1 (p2 + j)) j)) hv0 (by show _ = po_c k _; unfold po_c; rw [if_neg (by omega), if_neg (by omega)]) ht4)
            · skip
              refine v_aload_n g dX8_tallyOf_60 0 rfl 1 rfl ?_
              refine gf_X8_95 g dX8_tallyOf_61 0 rfl rfl ?_
              refine v_iload g dX8_tallyOf_64 0 rfl ?_
              refine v_aload_n g dX8_tallyOf_66 0 rfl 1 rfl ?_
              refine gf_X8_95 g dX8_tallyOf_67 0 rfl rfl ?_
              refine v_iload g dX8_tallyOf_70 0 rfl ?_
              refine v_ialdY g 2 rfl (by omega) (by decide) dX8_tallyOf_72 ?_
              refine v_sipush g dX8_tallyOf_73 (v := nI 252) (by decide +kernel) ?_
              refine v_iandN g dX8_tallyOf_76 ?_
              refine v_toi (nI ((t4 k) &&& 252#8).toNat) (congrArg nI (BitVec.toNat_and ((t4 k)) (252#8)).symm) ?_
              obtain ⟨t8, ht8⟩ : ∃ z : Nat → By, z = va_up t4 k ((t4 k) &&& 252#8) := ⟨_, rfl⟩
              refine v_iastY g (((t4 k) &&& 252#8)) rfl t8 ht8 2 [(a0, .inr (8, [.int (nI v_a0_thrown), .ref a0_tape, .int (nI v_a0_taped), .ref a0_out, .int (nI v_a0_outs), .ref a0_slots, .ref a0_kept, .ref a0_phase, .ref a0_secret, .ref a0_key, .ref a0_hide, .ref a0_iv, .ref a0_begin, .ref a0_each, .ref a0_root, .ref a0_power, .ref a0_work, .ref a0_w, .ref a0_h, .ref a0_state, .ref a0_sum, .ref a0_pad, .ref a0_text, .int (nI v_a0_texts), .ref a0_info, .int (nI v_a0_infos), .ref a0_made, .ref a0_blockKey, .ref a0_nonce, .ref a0_x, .ref a0_first, .ref a0_block, .ref a0_a, .ref a0_r, .ref a0_product, .ref a0_tag, .ref a0_sealed])), (a0_a, aY C.D 40 t_a0_a), (a0_r, aY C.D 16 t8), (a0_product, aY C.D 40 t_a0_product), (a0_tag, aY C.D 16 t_a0_tag), (a0_sealed, aY C.D 2400 t_a0_sealed), (a1, aY C.D n1 t_a1)] rfl (by omega) (by decide) dX8_tallyOf_77 rfl ?_
              refine v_iincN g 1 [(4, .int (nI (k + 1))), (0, .ref a0), (1, .ref a1), (2, .int (nI p2)), (3, .int (nI p3))] dX8_tallyOf_78 0 rfl (by decide +kernel) (by decide) rfl ?_
              refine v_goto g 3 dX8_tallyOf_81 (by decide) ?_
              exact ih t8 (up_lt2 (m := k) (F := fun j => po_c j ((fun j => t_a1 (p2 + j)) j)) hv0 ht4 (by show _ = po_c k _; rw [ht4, va_up_at]; unfold po_c; rw [if_neg (by omega), if_pos (by omega)]) ht8)
        · skip
          refine v_aload_n g dX8_tallyOf_31 0 rfl 1 rfl ?_
          refine gf_X8_95 g dX8_tallyOf_32 0 rfl rfl ?_
          refine v_iload g dX8_tallyOf_35 0 rfl ?_
          refine v_aload_n g dX8_tallyOf_37 0 rfl 1 rfl ?_
          refine gf_X8_95 g dX8_tallyOf_38 0 rfl rfl ?_
          refine v_iload g dX8_tallyOf_41 0 rfl ?_
          refine v_ialdY g 2 rfl (by omega) (by decide) dX8_tallyOf_43 ?_
          refine v_bipush g dX8_tallyOf_44 (v := nI 15) (by decide +kernel) ?_
          refine v_iandN g dX8_tallyOf_46 ?_
          refine v_toi (nI ((t4 k) &&& 15#8).toNat) (congrArg nI (BitVec.toNat_and ((t4 k)) (15#8)).symm) ?_
          obtain ⟨t9, ht9⟩ : ∃ z : Nat → By, z = va_up t4 k ((t4 k) &&& 15#8) := ⟨_, rfl⟩
          refine v_iastY g (((t4 k) &&& 15#8)) rfl t9 ht9 2 [(a0, .inr (8, [.int (nI v_a0_thrown), .ref a0_tape, .int (nI v_a0_taped), .ref a0_out, .int (nI v_a0_outs), .ref a0_slots, .ref a0_kept, .ref a0_phase, .ref a0_secret, .ref a0_key, .ref a0_hide, .ref a0_iv, .ref a0_begin, .ref a0_each, .ref a0_root, .ref a0_power, .ref a0_work, .ref a0_w, .ref a0_h, .ref a0_state, .ref a0_sum, .ref a0_pad, .ref a0_text, .int (nI v_a0_texts), .ref a0_info, .int (nI v_a0_infos), .ref a0_made, .ref a0_blockKey, .ref a0_nonce, .ref a0_x, .ref a0_first, .ref a0_block, .ref a0_a, .ref a0_r, .ref a0_product, .ref a0_tag, .ref a0_sealed])), (a0_a, aY C.D 40 t_a0_a), (a0_r, aY C.D 16 t9), (a0_product, aY C.D 40 t_a0_product), (a0_tag, aY C.D 16 t_a0_tag), (a0_sealed, aY C.D 2400 t_a0_sealed), (a1, aY C.D n1 t_a1)] rfl (by omega) (by decide) dX8_tallyOf_47 rfl ?_
          refine v_iload g dX8_tallyOf_48 0 rfl ?_
          refine v_iconst g dX8_tallyOf_50 (v := nI 4) (by decide +kernel) ?_
          refine v_iremN g dX8_tallyOf_51 (by omega) (by omega) (by omega) ?_
          refine v_if_neN g 78 dX8_tallyOf_52 (by decide) (by omega) (fun _ => ?_) (fun h => absurd h (by omega))
          refine v_iincN g 1 [(4, .int (nI (k + 1))), (0, .ref a0), (1, .ref a1), (2, .int (nI p2)), (3, .int (nI p3))] dX8_tallyOf_78 0 rfl (by decide +kernel) (by decide) rfl ?_
          refine v_goto g 3 dX8_tallyOf_81 (by decide) ?_
          exact ih t9 (up_lt2 (m := k) (F := fun j => po_c j ((fun j => t_a1 (p2 + j)) j)) hv0 ht4 (by show _ = po_c k _; rw [ht4, va_up_at]; unfold po_c; rw [if_pos (by omega)]) ht9)
    · skip
      intro tr hv0
      refine v_iload g dX8_tallyOf_3 0 rfl ?_
      refine v_bipush g dX8_tallyOf_5 (v := nI 16) (by decide +kernel) ?_
      refine v_icmp_geN g 84 dX8_tallyOf_7 (by decide) (by omega) (by omega) (fun h10 => ?_) (fun h10 => ?_)
      · skip
        have hR : leN tr 16 = po_R (fun j => t_a1 (p2 + j)) := leN_congr 16 hv0
        have hRl := po_R_124 (fun j => t_a1 (p2 + j))
        refine v_iconst g dX8_tallyOf_84 (v := nI 0) (by decide +kernel) ?_
        refine v_istore g [(4, .int (nI 0)), (0, .ref a0), (1, .ref a1), (2, .int (nI p2)), (3, .int (nI p3))] dX8_tallyOf_85 (by decide) rfl ?_
        have L87_10 : ∀ k : Nat, k ≤ 40 → ∀ (tz : Nat → By), (∀ j, j < k → tz j = 0#8) → VJ C 0 0 87 [(4, .int (nI k)), (0, .ref a0), (1, .ref a1), (2, .int (nI p2)), (3, .int (nI p3))] [] [(a0, .inr (8, [.int (nI v_a0_thrown), .ref a0_tape, .int (nI v_a0_taped), .ref a0_out, .int (nI v_a0_outs), .ref a0_slots, .ref a0_kept, .ref a0_phase, .ref a0_secret, .ref a0_key, .ref a0_hide, .ref a0_iv, .ref a0_begin, .ref a0_each, .ref a0_root, .ref a0_power, .ref a0_work, .ref a0_w, .ref a0_h, .ref a0_state, .ref a0_sum, .ref a0_pad, .ref a0_text, .int (nI v_a0_texts), .ref a0_info, .int (nI v_a0_infos), .ref a0_made, .ref a0_blockKey, .ref a0_nonce, .ref a0_x, .ref a0_first, .ref a0_block, .ref a0_a, .ref a0_r, .ref a0_product, .ref a0_tag, .ref a0_sealed])), (a0_a, aY C.D 40 tz), (a0_r, aY C.D 16 tr), (a0_product, aY C.D 40 t_a0_product), (a0_tag, aY C.D 16 t_a0_tag), (a0_sealed, aY C.D 2400 t_a0_sealed), (a1, aY C.D n1 t_a1)] := by
          refine v_for (40) ?_ ?_
          · skip
            intro k hik ih tz hv0
            refine v_iload g dX8_tallyOf_87 0 rfl ?_
            refine v_bipush g dX8_tallyOf_89 (v := nI 40) (by decide +kernel) ?_
            refine v_icmp_geN g 108 dX8_tallyOf_91 (by decide) (by omega) (by omega) (fun h11 => ?_) (fun h11 => ?_)
            · skip
              exact absurd h11 (by omega)
            · skip
              refine v_aload_n g dX8_tallyOf_94 0 rfl 1 rfl ?_
              refine gf_X8_92 g dX8_tallyOf_95 0 rfl rfl ?_
              refine v_iload g dX8_tallyOf_98 0 rfl ?_
              refine v_iconst g dX8_tallyOf_100 (v := nI 0) (by decide +kernel) ?_
              obtain ⟨t12, ht12⟩ : ∃ z : Nat → By, z = va_up tz k 0#8 := ⟨_, rfl⟩
              refine v_iastY g (0#8) rfl t12 ht12 1 [(a0, .inr (8, [.int (nI v_a0_thrown), .ref a0_tape, .int (nI v_a0_taped), .ref a0_out, .int (nI v_a0_outs), .ref a0_slots, .ref a0_kept, .ref a0_phase, .ref a0_secret, .ref a0_key, .ref a0_hide, .ref a0_iv, .ref a0_begin, .ref a0_each, .ref a0_root, .ref a0_power, .ref a0_work, .ref a0_w, .ref a0_h, .ref a0_state, .ref a0_sum, .ref a0_pad, .ref a0_text, .int (nI v_a0_texts), .ref a0_info, .int (nI v_a0_infos), .ref a0_made, .ref a0_blockKey, .ref a0_nonce, .ref a0_x, .ref a0_first, .ref a0_block, .ref a0_a, .ref a0_r, .ref a0_product, .ref a0_tag, .ref a0_sealed])), (a0_a, aY C.D 40 t12), (a0_r, aY C.D 16 tr), (a0_product, aY C.D 40 t_a0_product), (a0_tag, aY C.D 16 t_a0_tag), (a0_sealed, aY C.D 2400 t_a0_sealed), (a1, aY C.D n1 t_a1)] rfl (by omega) (by decide) dX8_tallyOf_101 rfl ?_
              refine v_iincN g 1 [(4, .int (nI (k + 1))), (0, .ref a0), (1, .ref a1), (2, .int (nI p2)), (3, .int (nI p3))] dX8_tallyOf_102 0 rfl (by decide +kernel) (by decide) rfl ?_
              refine v_goto g 87 dX8_tallyOf_105 (by decide) ?_
              exact ih t12 (up_lt (m := k) hv0 rfl ht12)
          · skip
            intro tz hv0
            refine v_iload g dX8_tallyOf_87 0 rfl ?_
            refine v_bipush g dX8_tallyOf_89 (v := nI 40) (by decide +kernel) ?_
            refine v_icmp_geN g 108 dX8_tallyOf_91 (by decide) (by omega) (by omega) (fun h13 => ?_) (fun h13 => ?_)
            · skip
              have hz : leN tz 18 = 0 := leN_0 18 (fun j hj => hv0 j (by omega))
              refine v_iconst g dX8_tallyOf_108 (v := nI 0) (by decide +kernel) ?_
              refine v_istore g [(4, .int (nI 0)), (0, .ref a0), (1, .ref a1), (2, .int (nI p2)), (3, .int (nI p3))] dX8_tallyOf_109 (by decide) rfl ?_
              have L111_13 : ∀ i : Nat, i ≤ ((p3 + 15) / 16) → ∀ (ta : Nat → By) (tp : Nat → By), (leN ta 18 < 2 ^ 130 + 5) → (leN ta 18 % po_p = po_it (po_R (fun j => t_a1 (p2 + j))) t_a0_sealed 0 p3 0 0 i) → VJ C 0 0 111 [(4, .int (nI (16 * i))), (0, .ref a0), (1, .ref a1), (2, .int (nI p2)), (3, .int (nI p3))] [] [(a0, .inr (8, [.int (nI v_a0_thrown), .ref a0_tape, .int (nI v_a0_taped), .ref a0_out, .int (nI v_a0_outs), .ref a0_slots, .ref a0_kept, .ref a0_phase, .ref a0_secret, .ref a0_key, .ref a0_hide, .ref a0_iv, .ref a0_begin, .ref a0_each, .ref a0_root, .ref a0_power, .ref a0_work, .ref a0_w, .ref a0_h, .ref a0_state, .ref a0_sum, .ref a0_pad, .ref a0_text, .int (nI v_a0_texts), .ref a0_info, .int (nI v_a0_infos), .ref a0_made, .ref a0_blockKey, .ref a0_nonce, .ref a0_x, .ref a0_first, .ref a0_block, .ref a0_a, .ref a0_r, .ref a0_product, .ref a0_tag, .ref a0_sealed])), (a0_a, aY C.D 40 ta), (a0_r, aY C.D 16 tr), (a0_product, aY C.D 40 tp), (a0_tag, aY C.D 16 t_a0_tag), (a0_sealed, aY C.D 2400 t_a0_sealed), (a1, aY C.D n1 t_a1)] := by
                refine v_for (((p3 + 15) / 16)) ?_ ?_
                · skip
                  intro i hii ih ta tp hv0 hv1
                  refine v_iload g dX8_tallyOf_111 0 rfl ?_
                  refine v_iload_n g dX8_tallyOf_113 3 rfl 4 rfl ?_
                  refine v_icmp_geN g 231 dX8_tallyOf_114 (by decide) (by omega) (by omega) (fun h14 => ?_) (fun h14 => ?_)
                  · skip
                    exact absurd h14 (by omega)
                  · skip
                    refine v_iload_n g dX8_tallyOf_117 3 rfl 4 rfl ?_
                    refine v_iload g dX8_tallyOf_118 0 rfl ?_
                    refine v_isubN g dX8_tallyOf_120 (by omega) ?_
                    refine v_bipush g dX8_tallyOf_121 (v := nI 16) (by decide +kernel) ?_
                    have J135 : ∀ (mn : Nat), (mn = min 16 (p3 - 16 * i)) → VJ C 0 0 135 [(4, .int (nI (16 * i))), (0, .ref a0), (1, .ref a1), (2, .int (nI p2)), (3, .int (nI p3))] [.int (nI mn)] [(a0, .inr (8, [.int (nI v_a0_thrown), .ref a0_tape, .int (nI v_a0_taped), .ref a0_out, .int (nI v_a0_outs), .ref a0_slots, .ref a0_kept, .ref a0_phase, .ref a0_secret, .ref a0_key, .ref a0_hide, .ref a0_iv, .ref a0_begin, .ref a0_each, .ref a0_root, .ref a0_power, .ref a0_work, .ref a0_w, .ref a0_h, .ref a0_state, .ref a0_sum, .ref a0_pad, .ref a0_text, .int (nI v_a0_texts), .ref a0_info, .int (nI v_a0_infos), .ref a0_made, .ref a0_blockKey, .ref a0_nonce, .ref a0_x, .ref a0_first, .ref a0_block, .ref a0_a, .ref a0_r, .ref a0_product, .ref a0_tag, .ref a0_sealed])), (a0_a, aY C.D 40 ta), (a0_r, aY C.D 16 tr), (a0_product, aY C.D 40 tp), (a0_tag, aY C.D 16 t_a0_tag), (a0_sealed, aY C.D 2400 t_a0_sealed), (a1, aY C.D n1 t_a1)] := by
                      intro mn hj0
                      refine v_istore g [(5, .int (nI mn)), (4, .int (nI (16 * i))), (0, .ref a0), (1, .ref a1), (2, .int (nI p2)), (3, .int (nI p3))] dX8_tallyOf_135 (by decide) rfl ?_
                      refine v_iconst g dX8_tallyOf_137 (v := nI 0) (by decide +kernel) ?_
                      refine v_istore g [(6, .int (nI 0)), (5, .int (nI mn)), (4, .int (nI (16 * i))), (0, .ref a0), (1, .ref a1), (2, .int (nI p2)), (3, .int (nI p3))] dX8_tallyOf_138 (by decide) rfl ?_
                      refine v_iconst g dX8_tallyOf_140 (v := nI 0) (by decide +kernel) ?_
                      refine v_istore g [(7, .int (nI 0)), (6, .int (nI 0)), (5, .int (nI mn)), (4, .int (nI (16 * i))), (0, .ref a0), (1, .ref a1), (2, .int (nI p2)), (3, .int (nI p3))] dX8_tallyOf_141 (by decide) rfl ?_
                      have L143_14 : ∀ k : Nat, k ≤ 18 → ∀ (cy : Nat) (tb : Nat → By), (leN tb k + cy * 256 ^ k = leN ta k + dsm (bkD t_a0_sealed (16 * i) mn) k) → (∀ j, k ≤ j → tb j = ta j) → (cy ≤ 2) → VJ C 0 0 143 [(7, .int (nI k)), (6, .int (nI cy)), (5, .int (nI mn)), (4, .int (nI (16 * i))), (0, .ref a0), (1, .ref a1), (2, .int (nI p2)), (3, .int (nI p3))] [] [(a0, .inr (8, [.int (nI v_a0_thrown), .ref a0_tape, .int (nI v_a0_taped), .ref a0_out, .int (nI v_a0_outs), .ref a0_slots, .ref a0_kept, .ref a0_phase, .ref a0_secret, .ref a0_key, .ref a0_hide, .ref a0_iv, .ref a0_begin, .ref a0_each, .ref a0_root, .ref a0_power, .ref a0_work, .ref a0_w, .ref a0_h, .ref a0_state, .ref a0_sum, .ref a0_pad, .ref a0_text, .int (nI v_a0_texts), .ref a0_info, .int (nI v_a0_infos), .ref a0_made, .ref a0_blockKey, .ref a0_nonce, .ref a0_x, .ref a0_first, .ref a0_block, .ref a0_a, .ref a0_r, .ref a0_product, .ref a0_tag, .ref a0_sealed])), (a0_a, aY C.D 40 tb), (a0_r, aY C.D 16 tr), (a0_product, aY C.D 40 tp), (a0_tag, aY C.D 16 t_a0_tag), (a0_sealed, aY C.D 2400 t_a0_sealed), (a1, aY C.D n1 t_a1)] := by
                        refine v_for (18) ?_ ?_
                        · skip
                          intro k hik ik cy tb hw0 hw1 hw2
                          refine v_iload g dX8_tallyOf_143 0 rfl ?_
                          refine v_bipush g dX8_tallyOf_145 (v := nI 18) (by decide +kernel) ?_
                          refine v_icmp_geN g 221 dX8_tallyOf_147 (by decide) (by omega) (by omega) (fun h15 => ?_) (fun h15 => ?_)
                          · skip
                            exact absurd h15 (by omega)
                          · skip
                            have hba := (tb k).isLt
                            have hbs := (t_a0_sealed (16 * i + k)).isLt
                            refine v_iload g dX8_tallyOf_150 1 rfl ?_
                            refine v_aload_n g dX8_tallyOf_152 0 rfl 4 rfl ?_
                            refine gf_X8_92 g dX8_tallyOf_153 0 rfl rfl ?_
                            refine v_iload g dX8_tallyOf_156 0 rfl ?_
                            refine v_ialdY g 1 rfl (by omega) (by decide) dX8_tallyOf_158 ?_
                            refine v_iload g dX8_tallyOf_159 0 rfl ?_
                            refine v_iload g dX8_tallyOf_161 2 rfl ?_
                            refine v_icmp_geN g 179 dX8_tallyOf_163 (by decide) (by omega) (by omega) (fun h16 => ?_) (fun h16 => ?_)
                            · skip
                              refine v_iload g dX8_tallyOf_179 0 rfl ?_
                              refine v_iload g dX8_tallyOf_181 2 rfl ?_
                              refine v_icmp_neN g 190 dX8_tallyOf_183 (by decide) (by omega) (by omega) (fun h17 => ?_) (fun h17 => ?_)
                              · skip
                                refine v_iconst g dX8_tallyOf_190 (v := nI 0) (by decide +kernel) ?_
                                refine v_iaddN g dX8_tallyOf_191 ?_
                                refine v_iaddN g dX8_tallyOf_192 ?_
                                refine v_istore g [(6, .int (nI (cy + (((tb k).toNat) + 0)))), (7, .int (nI k)), (5, .int (nI mn)), (4, .int (nI (16 * i))), (0, .ref a0), (1, .ref a1), (2, .int (nI p2)), (3, .int (nI p3))] dX8_tallyOf_193 (by decide) rfl ?_
                                refine v_aload_n g dX8_tallyOf_195 0 rfl 4 rfl ?_
                                refine gf_X8_92 g dX8_tallyOf_196 0 rfl rfl ?_
                                refine v_iload g dX8_tallyOf_199 1 rfl ?_
                                refine v_iload g dX8_tallyOf_201 0 rfl ?_
                                refine v_sipush g dX8_tallyOf_203 (v := nI 255) (by decide +kernel) ?_
                                refine v_iandM g 8 (by decide) dX8_tallyOf_206 ?_
                                obtain ⟨t18, ht18⟩ : ∃ z : Nat → By, z = va_up tb k (BitVec.ofNat 8 (cy + (((tb k).toNat) + 0))) := ⟨_, rfl⟩
                                refine v_iastY g (BitVec.ofNat 8 (cy + (((tb k).toNat) + 0))) (congrArg nI (BitVec.toNat_ofNat _ _).symm) t18 ht18 1 [(a0, .inr (8, [.int (nI v_a0_thrown), .ref a0_tape, .int (nI v_a0_taped), .ref a0_out, .int (nI v_a0_outs), .ref a0_slots, .ref a0_kept, .ref a0_phase, .ref a0_secret, .ref a0_key, .ref a0_hide, .ref a0_iv, .ref a0_begin, .ref a0_each, .ref a0_root, .ref a0_power, .ref a0_work, .ref a0_w, .ref a0_h, .ref a0_state, .ref a0_sum, .ref a0_pad, .ref a0_text, .int (nI v_a0_texts), .ref a0_info, .int (nI v_a0_infos), .ref a0_made, .ref a0_blockKey, .ref a0_nonce, .ref a0_x, .ref a0_first, .ref a0_block, .ref a0_a, .ref a0_r, .ref a0_product, .ref a0_tag, .ref a0_sealed])), (a0_a, aY C.D 40 t18), (a0_r, aY C.D 16 tr), (a0_product, aY C.D 40 tp), (a0_tag, aY C.D 16 t_a0_tag), (a0_sealed, aY C.D 2400 t_a0_sealed), (a1, aY C.D n1 t_a1)] rfl (by omega) (by decide) dX8_tallyOf_207 rfl ?_
                                refine v_iload g dX8_tallyOf_208 0 rfl ?_
                                refine v_bipush g dX8_tallyOf_210 (v := nI 8) (by decide +kernel) ?_
                                refine v_ishrN g (by omega) (by omega) dX8_tallyOf_212 ?_
                                refine v_istore g [(6, .int (nI ((cy + (((tb k).toNat) + 0)) / 2 ^ 8))), (7, .int (nI k)), (5, .int (nI mn)), (4, .int (nI (16 * i))), (0, .ref a0), (1, .ref a1), (2, .int (nI p2)), (3, .int (nI p3))] dX8_tallyOf_213 (by decide) rfl ?_
                                refine v_iincN g 1 [(7, .int (nI (k + 1))), (6, .int (nI ((cy + (((tb k).toNat) + 0)) / 2 ^ 8))), (5, .int (nI mn)), (4, .int (nI (16 * i))), (0, .ref a0), (1, .ref a1), (2, .int (nI p2)), (3, .int (nI p3))] dX8_tallyOf_215 1 rfl (by decide +kernel) (by decide) rfl ?_
                                refine v_goto g 143 dX8_tallyOf_218 (by decide) ?_
                                exact ik ((cy + (((tb k).toNat) + 0)) / 2 ^ 8) t18 (by
                                      have z := cy_s (x := (tb k).toNat + 0) hw0 ht18
                                      have z2 : bkD t_a0_sealed (16 * i) mn k = 0 := by unfold bkD; rw [if_neg (by omega), if_neg (by omega)]
                                      show _ = leN ta k + (ta k).toNat * 256 ^ k + (dsm (bkD t_a0_sealed (16 * i) mn) k + bkD t_a0_sealed (16 * i) mn k * 256 ^ k)
                                      rw [z2, ← hw1 k (Nat.le_refl _)]
                                      rw [Nat.add_mul] at z
                                      omega) (fun j hj => by rw [ht18]; unfold va_up; rw [if_neg (by omega)]; exact hw1 j (by omega)) (by omega)
                              · skip
                                refine v_iconst g dX8_tallyOf_186 (v := nI 1) (by decide +kernel) ?_
                                refine v_goto g 191 dX8_tallyOf_187 (by decide) ?_
                                refine v_iaddN g dX8_tallyOf_191 ?_
                                refine v_iaddN g dX8_tallyOf_192 ?_
                                refine v_istore g [(6, .int (nI (cy + (((tb k).toNat) + 1)))), (7, .int (nI k)), (5, .int (nI mn)), (4, .int (nI (16 * i))), (0, .ref a0), (1, .ref a1), (2, .int (nI p2)), (3, .int (nI p3))] dX8_tallyOf_193 (by decide) rfl ?_
                                refine v_aload_n g dX8_tallyOf_195 0 rfl 4 rfl ?_
                                refine gf_X8_92 g dX8_tallyOf_196 0 rfl rfl ?_
                                refine v_iload g dX8_tallyOf_199 1 rfl ?_
                                refine v_iload g dX8_tallyOf_201 0 rfl ?_
                                refine v_sipush g dX8_tallyOf_203 (v := nI 255) (by decide +kernel) ?_
                                refine v_iandM g 8 (by decide) dX8_tallyOf_206 ?_
                                obtain ⟨t19, ht19⟩ : ∃ z : Nat → By, z = va_up tb k (BitVec.ofNat 8 (cy + (((tb k).toNat) + 1))) := ⟨_, rfl⟩
                                refine v_iastY g (BitVec.ofNat 8 (cy + (((tb k).toNat) + 1))) (congrArg nI (BitVec.toNat_ofNat _ _).symm) t19 ht19 1 [(a0, .inr (8, [.int (nI v_a0_thrown), .ref a0_tape, .int (nI v_a0_taped), .ref a0_out, .int (nI v_a0_outs), .ref a0_slots, .ref a0_kept, .ref a0_phase, .ref a0_secret, .ref a0_key, .ref a0_hide, .ref a0_iv, .ref a0_begin, .ref a0_each, .ref a0_root, .ref a0_power, .ref a0_work, .ref a0_w, .ref a0_h, .ref a0_state, .ref a0_sum, .ref a0_pad, .ref a0_text, .int (nI v_a0_texts), .ref a0_info, .int (nI v_a0_infos), .ref a0_made, .ref a0_blockKey, .ref a0_nonce, .ref a0_x, .ref a0_first, .ref a0_block, .ref a0_a, .ref a0_r, .ref a0_product, .ref a0_tag, .ref a0_sealed])), (a0_a, aY C.D 40 t19), (a0_r, aY C.D 16 tr), (a0_product, aY C.D 40 tp), (a0_tag, aY C.D 16 t_a0_tag), (a0_sealed, aY C.D 2400 t_a0_sealed), (a1, aY C.D n1 t_a1)] rfl (by omega) (by decide) dX8_tallyOf_207 rfl ?_
                                refine v_iload g dX8_tallyOf_208 0 rfl ?_
                                refine v_bipush g dX8_tallyOf_210 (v := nI 8) (by decide +kernel) ?_
                                refine v_ishrN g (by omega) (by omega) dX8_tallyOf_212 ?_
                                refine v_istore g [(6, .int (nI ((cy + (((tb k).toNat) + 1)) / 2 ^ 8))), (7, .int (nI k)), (5, .int (nI mn)), (4, .int (nI (16 * i))), (0, .ref a0), (1, .ref a1), (2, .int (nI p2)), (3, .int (nI p3))] dX8_tallyOf_213 (by decide) rfl ?_
                                refine v_iincN g 1 [(7, .int (nI (k + 1))), (6, .int (nI ((cy + (((tb k).toNat) + 1)) / 2 ^ 8))), (5, .int (nI mn)), (4, .int (nI (16 * i))), (0, .ref a0), (1, .ref a1), (2, .int (nI p2)), (3, .int (nI p3))] dX8_tallyOf_215 1 rfl (by decide +kernel) (by decide) rfl ?_
                                refine v_goto g 143 dX8_tallyOf_218 (by decide) ?_
                                exact ik ((cy + (((tb k).toNat) + 1)) / 2 ^ 8) t19 (by
                                      have z := cy_s (x := (tb k).toNat + 1) hw0 ht19
                                      have z2 : bkD t_a0_sealed (16 * i) mn k = 1 := by unfold bkD; rw [if_neg (by omega), if_pos (by omega)]
                                      show _ = leN ta k + (ta k).toNat * 256 ^ k + (dsm (bkD t_a0_sealed (16 * i) mn) k + bkD t_a0_sealed (16 * i) mn k * 256 ^ k)
                                      rw [z2, ← hw1 k (Nat.le_refl _)]
                                      rw [Nat.add_mul] at z
                                      omega) (fun j hj => by rw [ht19]; unfold va_up; rw [if_neg (by omega)]; exact hw1 j (by omega)) (by omega)
                            · skip
                              refine v_aload_n g dX8_tallyOf_166 0 rfl 4 rfl ?_
                              refine gf_X8_104 g dX8_tallyOf_167 0 rfl rfl ?_
                              refine v_iload g dX8_tallyOf_170 3 rfl ?_
                              refine v_iload g dX8_tallyOf_172 0 rfl ?_
                              refine v_iaddN g dX8_tallyOf_174 ?_
                              refine v_ialdY g 5 rfl (by omega) (by decide) dX8_tallyOf_175 ?_
                              refine v_goto g 191 dX8_tallyOf_176 (by decide) ?_
                              refine v_iaddN g dX8_tallyOf_191 ?_
                              refine v_iaddN g dX8_tallyOf_192 ?_
                              refine v_istore g [(6, .int (nI (cy + (((tb k).toNat) + ((t_a0_sealed ((16 * i) + k)).toNat))))), (7, .int (nI k)), (5, .int (nI mn)), (4, .int (nI (16 * i))), (0, .ref a0), (1, .ref a1), (2, .int (nI p2)), (3, .int (nI p3))] dX8_tallyOf_193 (by decide) rfl ?_
                              refine v_aload_n g dX8_tallyOf_195 0 rfl 4 rfl ?_
                              refine gf_X8_92 g dX8_tallyOf_196 0 rfl rfl ?_
                              refine v_iload g dX8_tallyOf_199 1 rfl ?_
                              refine v_iload g dX8_tallyOf_201 0 rfl ?_
                              refine v_sipush g dX8_tallyOf_203 (v := nI 255) (by decide +kernel) ?_
                              refine v_iandM g 8 (by decide) dX8_tallyOf_206 ?_
                              obtain ⟨t20, ht20⟩ : ∃ z : Nat → By, z = va_up tb k (BitVec.ofNat 8 (cy + (((tb k).toNat) + ((t_a0_sealed ((16 * i) + k)).toNat)))) := ⟨_, rfl⟩
                              refine v_iastY g (BitVec.ofNat 8 (cy + (((tb k).toNat) + ((t_a0_sealed ((16 * i) + k)).toNat)))) (congrArg nI (BitVec.toNat_ofNat _ _).symm) t20 ht20 1 [(a0, .inr (8, [.int (nI v_a0_thrown), .ref a0_tape, .int (nI v_a0_taped), .ref a0_out, .int (nI v_a0_outs), .ref a0_slots, .ref a0_kept, .ref a0_phase, .ref a0_secret, .ref a0_key, .ref a0_hide, .ref a0_iv, .ref a0_begin, .ref a0_each, .ref a0_root, .ref a0_power, .ref a0_work, .ref a0_w, .ref a0_h, .ref a0_state, .ref a0_sum, .ref a0_pad, .ref a0_text, .int (nI v_a0_texts), .ref a0_info, .int (nI v_a0_infos), .ref a0_made, .ref a0_blockKey, .ref a0_nonce, .ref a0_x, .ref a0_first, .ref a0_block, .ref a0_a, .ref a0_r, .ref a0_product, .ref a0_tag, .ref a0_sealed])), (a0_a, aY C.D 40 t20), (a0_r, aY C.D 16 tr), (a0_product, aY C.D 40 tp), (a0_tag, aY C.D 16 t_a0_tag), (a0_sealed, aY C.D 2400 t_a0_sealed), (a1, aY C.D n1 t_a1)] rfl (by omega) (by decide) dX8_tallyOf_207 rfl ?_
                              refine v_iload g dX8_tallyOf_208 0 rfl ?_
                              refine v_bipush g dX8_tallyOf_210 (v := nI 8) (by decide +kernel) ?_
                              refine v_ishrN g (by omega) (by omega) dX8_tallyOf_212 ?_
                              refine v_istore g [(6, .int (nI ((cy + (((tb k).toNat) + ((t_a0_sealed ((16 * i) + k)).toNat))) / 2 ^ 8))), (7, .int (nI k)), (5, .int (nI mn)), (4, .int (nI (16 * i))), (0, .ref a0), (1, .ref a1), (2, .int (nI p2)), (3, .int (nI p3))] dX8_tallyOf_213 (by decide) rfl ?_
                              refine v_iincN g 1 [(7, .int (nI (k + 1))), (6, .int (nI ((cy + (((tb k).toNat) + ((t_a0_sealed ((16 * i) + k)).toNat))) / 2 ^ 8))), (5, .int (nI mn)), (4, .int (nI (16 * i))), (0, .ref a0), (1, .ref a1), (2, .int (nI p2)), (3, .int (nI p3))] dX8_tallyOf_215 1 rfl (by decide +kernel) (by decide) rfl ?_
                              refine v_goto g 143 dX8_tallyOf_218 (by decide) ?_
                              exact ik ((cy + (((tb k).toNat) + ((t_a0_sealed ((16 * i) + k)).toNat))) / 2 ^ 8) t20 (by
                                    have z := cy_s (x := (tb k).toNat + (t_a0_sealed (16 * i + k)).toNat) hw0 ht20
                                    have z2 : bkD t_a0_sealed (16 * i) mn k = (t_a0_sealed (16 * i + k)).toNat := by unfold bkD; rw [if_pos (by omega)]
                                    show _ = leN ta k + (ta k).toNat * 256 ^ k + (dsm (bkD t_a0_sealed (16 * i) mn) k + bkD t_a0_sealed (16 * i) mn k * 256 ^ k)
                                    rw [z2, ← hw1 k (Nat.le_refl _)]
                                    rw [Nat.add_mul] at z
                                    omega) (fun j hj => by rw [ht20]; unfold va_up; rw [if_neg (by omega)]; exact hw1 j (by omega)) (by omega)
                        · skip
                          intro cy tb hw0 hw1 hw2
                          refine v_iload g dX8_tallyOf_143 0 rfl ?_
                          refine v_bipush g dX8_tallyOf_145 (v := nI 18) (by decide +kernel) ?_
                          refine v_icmp_geN g 221 dX8_tallyOf_147 (by decide) (by omega) (by omega) (fun h21 => ?_) (fun h21 => ?_)
                          · skip
                            have hbv := bk_v t_a0_sealed (16 * i) (m := mn) (by omega)
                            have hpc : dsm (bkD t_a0_sealed (16 * i) mn) 18 = po_pc t_a0_sealed 0 p3 0 i := by rw [hbv, hj0]; unfold po_pc; rw [if_pos rfl, Nat.zero_add]
                            have hpl := po_pc_lt t_a0_sealed 0 p3 i
                            rw [hpc] at hw0
                            have hlt := leN_lt tb 18
                            have h256 : (256 : Nat) ^ 18 = 2 ^ 144 := by decide +kernel
                            rw [h256] at hw0 hlt
                            have hsum : leN tb 18 = leN ta 18 + po_pc t_a0_sealed 0 p3 0 i := tl_cy hw0 hlt hv0 hpl
                            refine v_aload_n g dX8_tallyOf_221 0 rfl 4 rfl ?_
                            refine v_callV (As := []) (rest := []) (wr := [(a0_tag, aY C.D 16 t_a0_tag), (a0_sealed, aY C.D 2400 t_a0_sealed), (a1, aY C.D n1 t_a1)]) cw_X8_208 (hy_X8_multiply) g (c_R_mul C.l C.D a0 v_a0_thrown a0_tape v_a0_taped a0_out v_a0_outs a0_slots a0_kept a0_phase a0_secret a0_key a0_hide a0_iv a0_begin a0_each a0_root a0_power a0_work a0_w a0_h a0_state a0_sum a0_pad a0_text v_a0_texts a0_info v_a0_infos a0_made a0_blockKey a0_nonce a0_x a0_first a0_block a0_a a0_r a0_product a0_tag a0_sealed tb tr tp (tl_lt hsum hv0 hpl) (by rw [hR]; exact hRl)) dX8_tallyOf_222 0 rfl rfl rfl (by decide) (by decide) (Nat.le_of_ble_eq_true rfl) [0, 1, 2, 3] [4, 5, 6] rfl rfl (by decide) rfl (by decide) (by decide) _ rfl (fun r wo hp22 => ?_)
                            obtain ⟨tm, tq, rfl, rfl, hm1, hm2⟩ := hp22
                            refine v_perm [3, 4, 5, 6, 0, 1, 2] [(a0, .inr (8, [.int (nI v_a0_thrown), .ref a0_tape, .int (nI v_a0_taped), .ref a0_out, .int (nI v_a0_outs), .ref a0_slots, .ref a0_kept, .ref a0_phase, .ref a0_secret, .ref a0_key, .ref a0_hide, .ref a0_iv, .ref a0_begin, .ref a0_each, .ref a0_root, .ref a0_power, .ref a0_work, .ref a0_w, .ref a0_h, .ref a0_state, .ref a0_sum, .ref a0_pad, .ref a0_text, .int (nI v_a0_texts), .ref a0_info, .int (nI v_a0_infos), .ref a0_made, .ref a0_blockKey, .ref a0_nonce, .ref a0_x, .ref a0_first, .ref a0_block, .ref a0_a, .ref a0_r, .ref a0_product, .ref a0_tag, .ref a0_sealed])), (a0_a, aY C.D 40 tm), (a0_r, aY C.D 16 tr), (a0_product, aY C.D 40 tq), (a0_tag, aY C.D 16 t_a0_tag), (a0_sealed, aY C.D 2400 t_a0_sealed), (a1, aY C.D n1 t_a1)] (by decide) rfl rfl ?_
                            show VJ C 0 0 225 [(7, .int (nI 18)), (6, .int (nI cy)), (5, .int (nI mn)), (4, .int (nI (16 * i))), (0, .ref a0), (1, .ref a1), (2, .int (nI p2)), (3, .int (nI p3))] [] [(a0, .inr (8, [.int (nI v_a0_thrown), .ref a0_tape, .int (nI v_a0_taped), .ref a0_out, .int (nI v_a0_outs), .ref a0_slots, .ref a0_kept, .ref a0_phase, .ref a0_secret, .ref a0_key, .ref a0_hide, .ref a0_iv, .ref a0_begin, .ref a0_each, .ref a0_root, .ref a0_power, .ref a0_work, .ref a0_w, .ref a0_h, .ref a0_state, .ref a0_sum, .ref a0_pad, .ref a0_text, .int (nI v_a0_texts), .ref a0_info, .int (nI v_a0_infos), .ref a0_made, .ref a0_blockKey, .ref a0_nonce, .ref a0_x, .ref a0_first, .ref a0_block, .ref a0_a, .ref a0_r, .ref a0_product, .ref a0_tag, .ref a0_sealed])), (a0_a, aY C.D 40 tm), (a0_r, aY C.D 16 tr), (a0_product, aY C.D 40 tq), (a0_tag, aY C.D 16 t_a0_tag), (a0_sealed, aY C.D 2400 t_a0_sealed), (a1, aY C.D n1 t_a1)]
                            refine v_iincN g 16 [(4, .int (nI (16 * i + 16))), (7, .int (nI 18)), (6, .int (nI cy)), (5, .int (nI mn)), (0, .ref a0), (1, .ref a1), (2, .int (nI p2)), (3, .int (nI p3))] dX8_tallyOf_225 3 rfl (by decide +kernel) (by decide) rfl ?_
                            refine v_goto g 111 dX8_tallyOf_228 (by decide) ?_
                            refine v_lpick [0, 4, 5, 6, 7] [(4, .int (nI (16 * i + 16))), (0, .ref a0), (1, .ref a1), (2, .int (nI p2)), (3, .int (nI p3))] rfl ?_
                            rw [show 16 * i + 16 = 16 * (i + 1) by omega]
                            exact ih tm tq hm1 (by
                                  rw [hm2, hsum, hR, po_it_s, ← hv1, Nat.mul_mod, Nat.mul_mod (leN ta 18 % po_p + _), Nat.mod_add_mod])
                          · skip
                            exact absurd h21 (by omega)
                      exact L143_14 0 (by omega) 0 ta rfl (fun _ _ => rfl) (by decide)
                    refine v_icmp_geN g 133 dX8_tallyOf_123 (by decide) (by omega) (by omega) (fun h23 => ?_) (fun h23 => ?_)
                    · skip
                      refine v_bipush g dX8_tallyOf_133 (v := nI 16) (by decide +kernel) ?_
                      exact J135 16 (by omega)
                    · skip
                      refine v_iload_n g dX8_tallyOf_126 3 rfl 4 rfl ?_
                      refine v_iload g dX8_tallyOf_127 0 rfl ?_
                      refine v_isubN g dX8_tallyOf_129 (by omega) ?_
                      refine v_goto g 135 dX8_tallyOf_130 (by decide) ?_
                      exact J135 (p3 - (16 * i)) (by omega)
                · skip
                  intro ta tp hv0 hv1
                  refine v_iload g dX8_tallyOf_111 0 rfl ?_
                  refine v_iload_n g dX8_tallyOf_113 3 rfl 4 rfl ?_
                  refine v_icmp_geN g 231 dX8_tallyOf_114 (by decide) (by omega) (by omega) (fun h24 => ?_) (fun h24 => ?_)
                  · skip
                    have hA := hv0
                    have hAp := hv1
                    have hA17 := (leN_top (t := ta) (m := 17) (n := 18) (by decide) (Nat.lt_of_lt_of_le hA (by decide +kernel))).1
                    refine v_iconst g dX8_tallyOf_231 (v := nI 5) (by decide +kernel) ?_
                    refine v_istore g [(4, .int (nI 5)), (0, .ref a0), (1, .ref a1), (2, .int (nI p2)), (3, .int (nI p3))] dX8_tallyOf_232 (by decide) rfl ?_
                    refine v_iconst g dX8_tallyOf_234 (v := nI 0) (by decide +kernel) ?_
                    refine v_istore g [(5, .int (nI 0)), (4, .int (nI 5)), (0, .ref a0), (1, .ref a1), (2, .int (nI p2)), (3, .int (nI p3))] dX8_tallyOf_235 (by decide) rfl ?_
                    have L237_24 : ∀ k : Nat, k ≤ 17 → ∀ (cy : Nat) (pq : Nat → By), (leN pq k + cy * 256 ^ k = leN ta k + 5) → (cy ≤ 5) → VJ C 0 0 237 [(5, .int (nI k)), (4, .int (nI cy)), (0, .ref a0), (1, .ref a1), (2, .int (nI p2)), (3, .int (nI p3))] [] [(a0, .inr (8, [.int (nI v_a0_thrown), .ref a0_tape, .int (nI v_a0_taped), .ref a0_out, .int (nI v_a0_outs), .ref a0_slots, .ref a0_kept, .ref a0_phase, .ref a0_secret, .ref a0_key, .ref a0_hide, .ref a0_iv, .ref a0_begin, .ref a0_each, .ref a0_root, .ref a0_power, .ref a0_work, .ref a0_w, .ref a0_h, .ref a0_state, .ref a0_sum, .ref a0_pad, .ref a0_text, .int (nI v_a0_texts), .ref a0_info, .int (nI v_a0_infos), .ref a0_made, .ref a0_blockKey, .ref a0_nonce, .ref a0_x, .ref a0_first, .ref a0_block, .ref a0_a, .ref a0_r, .ref a0_product, .ref a0_tag, .ref a0_sealed])), (a0_a, aY C.D 40 ta), (a0_r, aY C.D 16 tr), (a0_product, aY C.D 40 pq), (a0_tag, aY C.D 16 t_a0_tag), (a0_sealed, aY C.D 2400 t_a0_sealed), (a1, aY C.D n1 t_a1)] := by
                      refine v_for (17) ?_ ?_
                      · skip
                        intro k hik ik cy pq hw0 hw1
                        refine v_iload g dX8_tallyOf_237 0 rfl ?_
                        refine v_bipush g dX8_tallyOf_239 (v := nI 17) (by decide +kernel) ?_
                        refine v_icmp_geN g 282 dX8_tallyOf_241 (by decide) (by omega) (by omega) (fun h25 => ?_) (fun h25 => ?_)
                        · skip
                          exact absurd h25 (by omega)
                        · skip
                          have hba := (ta k).isLt
                          refine v_iload g dX8_tallyOf_244 1 rfl ?_
                          refine v_aload_n g dX8_tallyOf_246 0 rfl 2 rfl ?_
                          refine gf_X8_92 g dX8_tallyOf_247 0 rfl rfl ?_
                          refine v_iload g dX8_tallyOf_250 0 rfl ?_
                          refine v_ialdY g 1 rfl (by omega) (by decide) dX8_tallyOf_252 ?_
                          refine v_iaddN g dX8_tallyOf_253 ?_
                          refine v_istore g [(4, .int (nI (cy + ((ta k).toNat)))), (5, .int (nI k)), (0, .ref a0), (1, .ref a1), (2, .int (nI p2)), (3, .int (nI p3))] dX8_tallyOf_254 (by decide) rfl ?_
                          refine v_aload_n g dX8_tallyOf_256 0 rfl 2 rfl ?_
                          refine gf_X8_98 g dX8_tallyOf_257 0 rfl rfl ?_
                          refine v_iload g dX8_tallyOf_260 1 rfl ?_
                          refine v_iload g dX8_tallyOf_262 0 rfl ?_
                          refine v_sipush g dX8_tallyOf_264 (v := nI 255) (by decide +kernel) ?_
                          refine v_iandM g 8 (by decide) dX8_tallyOf_267 ?_
                          obtain ⟨t26, ht26⟩ : ∃ z : Nat → By, z = va_up pq k (BitVec.ofNat 8 (cy + ((ta k).toNat))) := ⟨_, rfl⟩
                          refine v_iastY g (BitVec.ofNat 8 (cy + ((ta k).toNat))) (congrArg nI (BitVec.toNat_ofNat _ _).symm) t26 ht26 3 [(a0, .inr (8, [.int (nI v_a0_thrown), .ref a0_tape, .int (nI v_a0_taped), .ref a0_out, .int (nI v_a0_outs), .ref a0_slots, .ref a0_kept, .ref a0_phase, .ref a0_secret, .ref a0_key, .ref a0_hide, .ref a0_iv, .ref a0_begin, .ref a0_each, .ref a0_root, .ref a0_power, .ref a0_work, .ref a0_w, .ref a0_h, .ref a0_state, .ref a0_sum, .ref a0_pad, .ref a0_text, .int (nI v_a0_texts), .ref a0_info, .int (nI v_a0_infos), .ref a0_made, .ref a0_blockKey, .ref a0_nonce, .ref a0_x, .ref a0_first, .ref a0_block, .ref a0_a, .ref a0_r, .ref a0_product, .ref a0_tag, .ref a0_sealed])), (a0_a, aY C.D 40 ta), (a0_r, aY C.D 16 tr), (a0_product, aY C.D 40 t26), (a0_tag, aY C.D 16 t_a0_tag), (a0_sealed, aY C.D 2400 t_a0_sealed), (a1, aY C.D n1 t_a1)] rfl (by omega) (by decide) dX8_tallyOf_268 rfl ?_
                          refine v_iload g dX8_tallyOf_269 0 rfl ?_
                          refine v_bipush g dX8_tallyOf_271 (v := nI 8) (by decide +kernel) ?_
                          refine v_ishrN g (by omega) (by omega) dX8_tallyOf_273 ?_
                          refine v_istore g [(4, .int (nI ((cy + ((ta k).toNat)) / 2 ^ 8))), (5, .int (nI k)), (0, .ref a0), (1, .ref a1), (2, .int (nI p2)), (3, .int (nI p3))] dX8_tallyOf_274 (by decide) rfl ?_
                          refine v_iincN g 1 [(5, .int (nI (k + 1))), (4, .int (nI ((cy + ((ta k).toNat)) / 2 ^ 8))), (0, .ref a0), (1, .ref a1), (2, .int (nI p2)), (3, .int (nI p3))] dX8_tallyOf_276 1 rfl (by decide +kernel) (by decide) rfl ?_
                          refine v_goto g 237 dX8_tallyOf_279 (by decide) ?_
                          exact ik ((cy + ((ta k).toNat)) / 2 ^ 8) t26 (by have z := cy_s hw0 ht26; show _ = leN ta k + (ta k).toNat * 256 ^ k + 5; omega) (by omega)
                      · skip
                        intro cy pq hw0 hw1
                        refine v_iload g dX8_tallyOf_237 0 rfl ?_
                        refine v_bipush g dX8_tallyOf_239 (v := nI 17) (by decide +kernel) ?_
                        refine v_icmp_geN g 282 dX8_tallyOf_241 (by decide) (by omega) (by omega) (fun h27 => ?_) (fun h27 => ?_)
                        · skip
                          have q17 : (256 : Nat) ^ 17 = 2 ^ 136 := by decide +kernel
                          have q16 : (256 : Nat) ^ 16 = 2 ^ 128 := by decide +kernel
                          have hP : leN pq 17 = leN ta 18 + 5 := by rw [q17, hA17] at hw0; exact tl_17 hw0 hA
                          have hP2 : leN pq 17 = leN pq 16 + (pq 16).toNat * 256 ^ 16 := leN_s pq 16
                          have hA2 : leN ta 17 = leN ta 16 + (ta 16).toNat * 256 ^ 16 := leN_s ta 16
                          have l1 := leN_lt pq 16
                          have l2 := leN_lt ta 16
                          have l3 := (pq 16).isLt
                          rw [q16] at hP2 hA2 l1 l2
                          refine v_aload_n g dX8_tallyOf_282 0 rfl 2 rfl ?_
                          refine gf_X8_98 g dX8_tallyOf_283 0 rfl rfl ?_
                          refine v_bipush g dX8_tallyOf_286 (v := nI 16) (by decide +kernel) ?_
                          refine v_ialdY g 3 rfl (by decide) (by decide) dX8_tallyOf_288 ?_
                          refine v_iconst g dX8_tallyOf_289 (v := nI 4) (by decide +kernel) ?_
                          refine v_icmp_ltN g 297 dX8_tallyOf_290 (by decide) (by omega) (by omega) (fun h28 => ?_) (fun h28 => ?_)
                          · skip
                            have hX : leN ta 18 % po_p % 256 ^ 16 = leN ta 16 := by rw [q16]; exact ab_0 (tl_p h28 hP hP2 l1) (hA17.symm.trans hA2) l2
                            refine v_iconst g dX8_tallyOf_297 (v := nI 0) (by decide +kernel) ?_
                            refine v_istore g [(5, .int (nI 0)), (4, .int (nI cy)), (0, .ref a0), (1, .ref a1), (2, .int (nI p2)), (3, .int (nI p3))] dX8_tallyOf_298 (by decide) rfl ?_
                            refine v_iconst g dX8_tallyOf_300 (v := nI 0) (by decide +kernel) ?_
                            refine v_istore g [(4, .int (nI 0)), (5, .int (nI 0)), (0, .ref a0), (1, .ref a1), (2, .int (nI p2)), (3, .int (nI p3))] dX8_tallyOf_301 (by decide) rfl ?_
                            refine v_iconst g dX8_tallyOf_303 (v := nI 0) (by decide +kernel) ?_
                            refine v_istore g [(6, .int (nI 0)), (4, .int (nI 0)), (5, .int (nI 0)), (0, .ref a0), (1, .ref a1), (2, .int (nI p2)), (3, .int (nI p3))] dX8_tallyOf_304 (by decide) rfl ?_
                            have L306_28 : ∀ k : Nat, k ≤ 16 → ∀ (cz : Nat) (tg : Nat → By), (leN tg k + cz * 256 ^ k = leN ta k + leN (fun j => t_a1 (p2 + 16 + j)) k) → (cz ≤ 2) → VJ C 0 0 306 [(6, .int (nI k)), (4, .int (nI cz)), (5, .int (nI 0)), (0, .ref a0), (1, .ref a1), (2, .int (nI p2)), (3, .int (nI p3))] [] [(a0, .inr (8, [.int (nI v_a0_thrown), .ref a0_tape, .int (nI v_a0_taped), .ref a0_out, .int (nI v_a0_outs), .ref a0_slots, .ref a0_kept, .ref a0_phase, .ref a0_secret, .ref a0_key, .ref a0_hide, .ref a0_iv, .ref a0_begin, .ref a0_each, .ref a0_root, .ref a0_power, .ref a0_work, .ref a0_w, .ref a0_h, .ref a0_state, .ref a0_sum, .ref a0_pad, .ref a0_text, .int (nI v_a0_texts), .ref a0_info, .int (nI v_a0_infos), .ref a0_made, .ref a0_blockKey, .ref a0_nonce, .ref a0_x, .ref a0_first, .ref a0_block, .ref a0_a, .ref a0_r, .ref a0_product, .ref a0_tag, .ref a0_sealed])), (a0_a, aY C.D 40 ta), (a0_r, aY C.D 16 tr), (a0_product, aY C.D 40 pq), (a0_tag, aY C.D 16 tg), (a0_sealed, aY C.D 2400 t_a0_sealed), (a1, aY C.D n1 t_a1)] := by
                              refine v_for (16) ?_ ?_
                              · skip
                                intro k hik ix cz tg hx0 hx1
                                refine v_iload g dX8_tallyOf_306 0 rfl ?_
                                refine v_bipush g dX8_tallyOf_308 (v := nI 16) (by decide +kernel) ?_
                                refine v_icmp_geN g 376 dX8_tallyOf_310 (by decide) (by omega) (by omega) (fun h29 => ?_) (fun h29 => ?_)
                                · skip
                                  exact absurd h29 (by omega)
                                · skip
                                  have hb1 := (ta k).isLt
                                  have hb2 := (t_a1 (p2 + 16 + k)).isLt
                                  refine v_iload g dX8_tallyOf_313 1 rfl ?_
                                  refine v_iload g dX8_tallyOf_315 2 rfl ?_
                                  refine v_if_eqN g 330 dX8_tallyOf_317 (by decide) (by decide) (fun _ => ?_) (fun h => absurd h (by decide))
                                  refine v_aload_n g dX8_tallyOf_330 0 rfl 3 rfl ?_
                                  refine gf_X8_92 g dX8_tallyOf_331 0 rfl rfl ?_
                                  refine v_iload g dX8_tallyOf_334 0 rfl ?_
                                  refine v_ialdY g 1 rfl (by omega) (by decide) dX8_tallyOf_336 ?_
                                  refine v_aload_n g dX8_tallyOf_337 1 rfl 4 rfl ?_
                                  refine v_iload_n g dX8_tallyOf_338 2 rfl 5 rfl ?_
                                  refine v_bipush g dX8_tallyOf_339 (v := nI 16) (by decide +kernel) ?_
                                  refine v_iaddN g dX8_tallyOf_341 ?_
                                  refine v_iload g dX8_tallyOf_342 0 rfl ?_
                                  refine v_iaddN g dX8_tallyOf_344 ?_
                                  refine v_ialdY g 6 rfl (by omega) (by omega) dX8_tallyOf_345 ?_
                                  refine v_iaddN g dX8_tallyOf_346 ?_
                                  refine v_iaddN g dX8_tallyOf_347 ?_
                                  refine v_istore g [(4, .int (nI (cz + (((ta k).toNat) + ((t_a1 ((p2 + 16) + k)).toNat))))), (6, .int (nI k)), (5, .int (nI 0)), (0, .ref a0), (1, .ref a1), (2, .int (nI p2)), (3, .int (nI p3))] dX8_tallyOf_348 (by decide) rfl ?_
                                  refine v_aload_n g dX8_tallyOf_350 0 rfl 3 rfl ?_
                                  refine gf_X8_101 g dX8_tallyOf_351 0 rfl rfl ?_
                                  refine v_iload g dX8_tallyOf_354 1 rfl ?_
                                  refine v_iload g dX8_tallyOf_356 0 rfl ?_
                                  refine v_sipush g dX8_tallyOf_358 (v := nI 255) (by decide +kernel) ?_
                                  refine v_iandM g 8 (by decide) dX8_tallyOf_361 ?_
                                  obtain ⟨t30, ht30⟩ : ∃ z : Nat → By, z = va_up tg k (BitVec.ofNat 8 (cz + (((ta k).toNat) + ((t_a1 ((p2 + 16) + k)).toNat)))) := ⟨_, rfl⟩
                                  refine v_iastY g (BitVec.ofNat 8 (cz + (((ta k).toNat) + ((t_a1 ((p2 + 16) + k)).toNat)))) (congrArg nI (BitVec.toNat_ofNat _ _).symm) t30 ht30 4 [(a0, .inr (8, [.int (nI v_a0_thrown), .ref a0_tape, .int (nI v_a0_taped), .ref a0_out, .int (nI v_a0_outs), .ref a0_slots, .ref a0_kept, .ref a0_phase, .ref a0_secret, .ref a0_key, .ref a0_hide, .ref a0_iv, .ref a0_begin, .ref a0_each, .ref a0_root, .ref a0_power, .ref a0_work, .ref a0_w, .ref a0_h, .ref a0_state, .ref a0_sum, .ref a0_pad, .ref a0_text, .int (nI v_a0_texts), .ref a0_info, .int (nI v_a0_infos), .ref a0_made, .ref a0_blockKey, .ref a0_nonce, .ref a0_x, .ref a0_first, .ref a0_block, .ref a0_a, .ref a0_r, .ref a0_product, .ref a0_tag, .ref a0_sealed])), (a0_a, aY C.D 40 ta), (a0_r, aY C.D 16 tr), (a0_product, aY C.D 40 pq), (a0_tag, aY C.D 16 t30), (a0_sealed, aY C.D 2400 t_a0_sealed), (a1, aY C.D n1 t_a1)] rfl (by omega) (by decide) dX8_tallyOf_362 rfl ?_
                                  refine v_iload g dX8_tallyOf_363 0 rfl ?_
                                  refine v_bipush g dX8_tallyOf_365 (v := nI 8) (by decide +kernel) ?_
                                  refine v_ishrN g (by omega) (by omega) dX8_tallyOf_367 ?_
                                  refine v_istore g [(4, .int (nI ((cz + (((ta k).toNat) + ((t_a1 ((p2 + 16) + k)).toNat))) / 2 ^ 8))), (6, .int (nI k)), (5, .int (nI 0)), (0, .ref a0), (1, .ref a1), (2, .int (nI p2)), (3, .int (nI p3))] dX8_tallyOf_368 (by decide) rfl ?_
                                  refine v_iincN g 1 [(6, .int (nI (k + 1))), (4, .int (nI ((cz + (((ta k).toNat) + ((t_a1 ((p2 + 16) + k)).toNat))) / 2 ^ 8))), (5, .int (nI 0)), (0, .ref a0), (1, .ref a1), (2, .int (nI p2)), (3, .int (nI p3))] dX8_tallyOf_370 1 rfl (by decide +kernel) (by decide) rfl ?_
                                  refine v_goto g 306 dX8_tallyOf_373 (by decide) ?_
                                  exact ix ((cz + (((ta k).toNat) + ((t_a1 ((p2 + 16) + k)).toNat))) / 2 ^ 8) t30 (by
                                        have z := cy_s (x := (ta k).toNat + (t_a1 (p2 + 16 + k)).toNat) hx0 ht30
                                        show _ = leN ta k + (ta k).toNat * 256 ^ k + (leN (fun j => t_a1 (p2 + 16 + j)) k + (t_a1 (p2 + 16 + k)).toNat * 256 ^ k)
                                        rw [Nat.add_mul] at z
                                        omega) (by omega)
                              · skip
                                intro cz tg hx0 hx1
                                refine v_iload g dX8_tallyOf_306 0 rfl ?_
                                refine v_bipush g dX8_tallyOf_308 (v := nI 16) (by decide +kernel) ?_
                                refine v_icmp_geN g 376 dX8_tallyOf_310 (by decide) (by omega) (by omega) (fun h31 => ?_) (fun h31 => ?_)
                                · skip
                                  have hS : leN (fun j => t_a1 (p2 + 16 + j)) 16 = tagS (fun j => t_a1 (p2 + j)) := by rw [← tagS_le]; exact leN_congr 16 (fun j _ => by rw [Nat.add_assoc])
                                  rw [hS] at hx0
                                  exact v_ret g R dX8_tallyOf_376 (by decide) (by decide) ⟨ta, tr, pq, tg, rfl, rfl, (fun j hj => by have z := tag_b hx0 hX j hj; rw [hAp] at z; exact z)⟩
                                · skip
                                  exact absurd h31 (by omega)
                            exact L306_28 0 (by omega) 0 t_a0_tag rfl (by decide)
                          · skip
                            have hX : leN ta 18 % po_p % 256 ^ 16 = leN pq 16 := by rw [q16]; exact ab_1 hA hP hP2 h28 l1
                            refine v_iconst g dX8_tallyOf_293 (v := nI 1) (by decide +kernel) ?_
                            refine v_goto g 298 dX8_tallyOf_294 (by decide) ?_
                            refine v_istore g [(5, .int (nI 1)), (4, .int (nI cy)), (0, .ref a0), (1, .ref a1), (2, .int (nI p2)), (3, .int (nI p3))] dX8_tallyOf_298 (by decide) rfl ?_
                            refine v_iconst g dX8_tallyOf_300 (v := nI 0) (by decide +kernel) ?_
                            refine v_istore g [(4, .int (nI 0)), (5, .int (nI 1)), (0, .ref a0), (1, .ref a1), (2, .int (nI p2)), (3, .int (nI p3))] dX8_tallyOf_301 (by decide) rfl ?_
                            refine v_iconst g dX8_tallyOf_303 (v := nI 0) (by decide +kernel) ?_
                            refine v_istore g [(6, .int (nI 0)), (4, .int (nI 0)), (5, .int (nI 1)), (0, .ref a0), (1, .ref a1), (2, .int (nI p2)), (3, .int (nI p3))] dX8_tallyOf_304 (by decide) rfl ?_
                            have L306_31 : ∀ k : Nat, k ≤ 16 → ∀ (cz : Nat) (tg : Nat → By), (leN tg k + cz * 256 ^ k = leN pq k + leN (fun j => t_a1 (p2 + 16 + j)) k) → (cz ≤ 2) → VJ C 0 0 306 [(6, .int (nI k)), (4, .int (nI cz)), (5, .int (nI 1)), (0, .ref a0), (1, .ref a1), (2, .int (nI p2)), (3, .int (nI p3))] [] [(a0, .inr (8, [.int (nI v_a0_thrown), .ref a0_tape, .int (nI v_a0_taped), .ref a0_out, .int (nI v_a0_outs), .ref a0_slots, .ref a0_kept, .ref a0_phase, .ref a0_secret, .ref a0_key, .ref a0_hide, .ref a0_iv, .ref a0_begin, .ref a0_each, .ref a0_root, .ref a0_power, .ref a0_work, .ref a0_w, .ref a0_h, .ref a0_state, .ref a0_sum, .ref a0_pad, .ref a0_text, .int (nI v_a0_texts), .ref a0_info, .int (nI v_a0_infos), .ref a0_made, .ref a0_blockKey, .ref a0_nonce, .ref a0_x, .ref a0_first, .ref a0_block, .ref a0_a, .ref a0_r, .ref a0_product, .ref a0_tag, .ref a0_sealed])), (a0_a, aY C.D 40 ta), (a0_r, aY C.D 16 tr), (a0_product, aY C.D 40 pq), (a0_tag, aY C.D 16 tg), (a0_sealed, aY C.D 2400 t_a0_sealed), (a1, aY C.D n1 t_a1)] := by
                              refine v_for (16) ?_ ?_
                              · skip
                                intro k hik ix cz tg hx0 hx1
                                refine v_iload g dX8_tallyOf_306 0 rfl ?_
                                refine v_bipush g dX8_tallyOf_308 (v := nI 16) (by decide +kernel) ?_
                                refine v_icmp_geN g 376 dX8_tallyOf_310 (by decide) (by omega) (by omega) (fun h32 => ?_) (fun h32 => ?_)
                                · skip
                                  exact absurd h32 (by omega)
                                · skip
                                  have hb1 := (pq k).isLt
                                  have hb2 := (t_a1 (p2 + 16 + k)).isLt
                                  refine v_iload g dX8_tallyOf_313 1 rfl ?_
                                  refine v_iload g dX8_tallyOf_315 2 rfl ?_
                                  refine v_if_eqN g 330 dX8_tallyOf_317 (by decide) (by decide) (fun h => absurd h (by decide)) (fun _ => ?_)
                                  refine v_aload_n g dX8_tallyOf_320 0 rfl 3 rfl ?_
                                  refine gf_X8_98 g dX8_tallyOf_321 0 rfl rfl ?_
                                  refine v_iload g dX8_tallyOf_324 0 rfl ?_
                                  refine v_ialdY g 3 rfl (by omega) (by decide) dX8_tallyOf_326 ?_
                                  refine v_goto g 337 dX8_tallyOf_327 (by decide) ?_
                                  refine v_aload_n g dX8_tallyOf_337 1 rfl 4 rfl ?_
                                  refine v_iload_n g dX8_tallyOf_338 2 rfl 5 rfl ?_
                                  refine v_bipush g dX8_tallyOf_339 (v := nI 16) (by decide +kernel) ?_
                                  refine v_iaddN g dX8_tallyOf_341 ?_
                                  refine v_iload g dX8_tallyOf_342 0 rfl ?_
                                  refine v_iaddN g dX8_tallyOf_344 ?_
                                  refine v_ialdY g 6 rfl (by omega) (by omega) dX8_tallyOf_345 ?_
                                  refine v_iaddN g dX8_tallyOf_346 ?_
                                  refine v_iaddN g dX8_tallyOf_347 ?_
                                  refine v_istore g [(4, .int (nI (cz + (((pq k).toNat) + ((t_a1 ((p2 + 16) + k)).toNat))))), (6, .int (nI k)), (5, .int (nI 1)), (0, .ref a0), (1, .ref a1), (2, .int (nI p2)), (3, .int (nI p3))] dX8_tallyOf_348 (by decide) rfl ?_
                                  refine v_aload_n g dX8_tallyOf_350 0 rfl 3 rfl ?_
                                  refine gf_X8_101 g dX8_tallyOf_351 0 rfl rfl ?_
                                  refine v_iload g dX8_tallyOf_354 1 rfl ?_
                                  refine v_iload g dX8_tallyOf_356 0 rfl ?_
                                  refine v_sipush g dX8_tallyOf_358 (v := nI 255) (by decide +kernel) ?_
                                  refine v_iandM g 8 (by decide) dX8_tallyOf_361 ?_
                                  obtain ⟨t33, ht33⟩ : ∃ z : Nat → By, z = va_up tg k (BitVec.ofNat 8 (cz + (((pq k).toNat) + ((t_a1 ((p2 + 16) + k)).toNat)))) := ⟨_, rfl⟩
                                  refine v_iastY g (BitVec.ofNat 8 (cz + (((pq k).toNat) + ((t_a1 ((p2 + 16) + k)).toNat)))) (congrArg nI (BitVec.toNat_ofNat _ _).symm) t33 ht33 4 [(a0, .inr (8, [.int (nI v_a0_thrown), .ref a0_tape, .int (nI v_a0_taped), .ref a0_out, .int (nI v_a0_outs), .ref a0_slots, .ref a0_kept, .ref a0_phase, .ref a0_secret, .ref a0_key, .ref a0_hide, .ref a0_iv, .ref a0_begin, .ref a0_each, .ref a0_root, .ref a0_power, .ref a0_work, .ref a0_w, .ref a0_h, .ref a0_state, .ref a0_sum, .ref a0_pad, .ref a0_text, .int (nI v_a0_texts), .ref a0_info, .int (nI v_a0_infos), .ref a0_made, .ref a0_blockKey, .ref a0_nonce, .ref a0_x, .ref a0_first, .ref a0_block, .ref a0_a, .ref a0_r, .ref a0_product, .ref a0_tag, .ref a0_sealed])), (a0_a, aY C.D 40 ta), (a0_r, aY C.D 16 tr), (a0_product, aY C.D 40 pq), (a0_tag, aY C.D 16 t33), (a0_sealed, aY C.D 2400 t_a0_sealed), (a1, aY C.D n1 t_a1)] rfl (by omega) (by decide) dX8_tallyOf_362 rfl ?_
                                  refine v_iload g dX8_tallyOf_363 0 rfl ?_
                                  refine v_bipush g dX8_tallyOf_365 (v := nI 8) (by decide +kernel) ?_
                                  refine v_ishrN g (by omega) (by omega) dX8_tallyOf_367 ?_
                                  refine v_istore g [(4, .int (nI ((cz + (((pq k).toNat) + ((t_a1 ((p2 + 16) + k)).toNat))) / 2 ^ 8))), (6, .int (nI k)), (5, .int (nI 1)), (0, .ref a0), (1, .ref a1), (2, .int (nI p2)), (3, .int (nI p3))] dX8_tallyOf_368 (by decide) rfl ?_
                                  refine v_iincN g 1 [(6, .int (nI (k + 1))), (4, .int (nI ((cz + (((pq k).toNat) + ((t_a1 ((p2 + 16) + k)).toNat))) / 2 ^ 8))), (5, .int (nI 1)), (0, .ref a0), (1, .ref a1), (2, .int (nI p2)), (3, .int (nI p3))] dX8_tallyOf_370 1 rfl (by decide +kernel) (by decide) rfl ?_
                                  refine v_goto g 306 dX8_tallyOf_373 (by decide) ?_
                                  exact ix ((cz + (((pq k).toNat) + ((t_a1 ((p2 + 16) + k)).toNat))) / 2 ^ 8) t33 (by
                                        have z := cy_s (x := (pq k).toNat + (t_a1 (p2 + 16 + k)).toNat) hx0 ht33
                                        show _ = leN pq k + (pq k).toNat * 256 ^ k + (leN (fun j => t_a1 (p2 + 16 + j)) k + (t_a1 (p2 + 16 + k)).toNat * 256 ^ k)
                                        rw [Nat.add_mul] at z
                                        omega) (by omega)
                              · skip
                                intro cz tg hx0 hx1
                                refine v_iload g dX8_tallyOf_306 0 rfl ?_
                                refine v_bipush g dX8_tallyOf_308 (v := nI 16) (by decide +kernel) ?_
                                refine v_icmp_geN g 376 dX8_tallyOf_310 (by decide) (by omega) (by omega) (fun h34 => ?_) (fun h34 => ?_)
                                · skip
                                  have hS : leN (fun j => t_a1 (p2 + 16 + j)) 16 = tagS (fun j => t_a1 (p2 + j)) := by rw [← tagS_le]; exact leN_congr 16 (fun j _ => by rw [Nat.add_assoc])
                                  rw [hS] at hx0
                                  exact v_ret g R dX8_tallyOf_376 (by decide) (by decide) ⟨ta, tr, pq, tg, rfl, rfl, (fun j hj => by have z := tag_b hx0 hX j hj; rw [hAp] at z; exact z)⟩
                                · skip
                                  exact absurd h34 (by omega)
                            exact L306_31 0 (by omega) 0 t_a0_tag rfl (by decide)
                        · skip
                          exact absurd h27 (by omega)
                    exact L237_24 0 (by omega) 5 tp rfl (by decide)
                  · skip
                    exact absurd h24 (by omega)
              exact L111_13 0 (by omega) tz t_a0_product (by rw [hz]; decide) (by rw [hz]; rfl)
            · skip
              exact absurd h13 (by omega)
        exact L87_10 0 (by omega) t_a0_a (fun j hj => absurd hj (by omega))
      · skip
        exact absurd h10 (by omega)
  exact L3_0 0 (by omega) t_a0_r (fun j hj => absurd hj (by omega))
