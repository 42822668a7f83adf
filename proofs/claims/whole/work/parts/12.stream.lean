/-! KeyStream -/
theorem cc_x0_o (k n : Nat → By) (c : Wd) {j : Nat} (h : j < 4) : cc_x0 k n c j = cc_o j := by unfold cc_x0; rw [if_pos h]
theorem cc_x0_k (k n : Nat → By) (c : Wd) {i : Nat} (h : i < 8) : le4 k (4 * i) = cc_x0 k n c (4 + i) := by
  unfold cc_x0; rw [if_neg (by omega), if_pos (by omega), show 4 + i - 4 = i by omega]
theorem cc_x0_c (k n : Nat → By) (c : Wd) : c = cc_x0 k n c 12 := by
  unfold cc_x0; rw [if_neg (by omega), if_neg (by omega), if_pos rfl]
theorem cc_x0_n (k n : Nat → By) (c : Wd) {i : Nat} (h : i < 3) : le4 n (4 * i) = cc_x0 k n c (13 + i) := by
  unfold cc_x0; rw [if_neg (by omega), if_neg (by omega), if_neg (by omega), show 13 + i - 13 = i by omega]
theorem sx_byte (y : Wd) {q : Nat} (hq : q < 4) : (y.signExtend 64 >>> (8 * q)).setWidth 8 = (y >>> (8 * q)).setWidth 8 := by
  ext i hi
  simp only [BitVec.getElem_setWidth, BitVec.getLsbD_ushiftRight]
  rw [BitVec.getLsbD_signExtend]
  have h1 : 8 * q + i < 64 := by omega
  have h2 : 8 * q + i < 32 := by omega
  simp [h1, h2]
theorem cc_bytes {k n : Nat → By} {c : Wd} {tf tx : Nat → Wd} {tb tb' : Nat → By} {i : Nat} (hi : i < 16) (hf : ∀ j, j < 16 → tf j = cc_x0 k n c j) (hx : ∀ j, j < 16 → tx j = cc_it (cc_x0 k n c) 10 j) (hb : ∀ j, j < 4 * i → tb j = ccF k n c j) (ht : tb' = wb tb (4 * i) 4 ((tx i + tf i).signExtend 64)) : ∀ j, j < 4 * (i + 1) → tb' j = ccF k n c j := by
  intro j hj
  rw [ht]
  unfold wb
  by_cases e : 4 * i ≤ j ∧ j < 4 * i + 4
  · rw [if_pos e, sx_byte _ (by omega)]
    unfold ccF cc_W
    rw [show j / 4 = i by omega, show j % 4 = j - 4 * i by omega, hf i hi, hx i hi]
  · rw [if_neg e]; exact hb j (by omega)
theorem dX3_mix_0 : decode cX3_mix 0 = .ok (.aload_n 0, 1) := by decide +kernel
theorem dX3_mix_1 : decode cX3_mix 1 = .ok (.getfield 13, 3) := by decide +kernel
theorem dX3_mix_4 : decode cX3_mix 4 = .ok (.iload_n 1, 1) := by decide +kernel
theorem dX3_mix_5 : decode cX3_mix 5 = .ok (.dup2, 1) := by decide +kernel
theorem dX3_mix_6 : decode cX3_mix 6 = .ok (.iaload, 1) := by decide +kernel
theorem dX3_mix_7 : decode cX3_mix 7 = .ok (.aload_n 0, 1) := by decide +kernel
theorem dX3_mix_8 : decode cX3_mix 8 = .ok (.getfield 13, 3) := by decide +kernel
theorem dX3_mix_11 : decode cX3_mix 11 = .ok (.iload_n 2, 1) := by decide +kernel
theorem dX3_mix_12 : decode cX3_mix 12 = .ok (.iaload, 1) := by decide +kernel
theorem dX3_mix_13 : decode cX3_mix 13 = .ok (.iadd, 1) := by decide +kernel
theorem dX3_mix_14 : decode cX3_mix 14 = .ok (.iastore, 1) := by decide +kernel
theorem dX3_mix_15 : decode cX3_mix 15 = .ok (.aload_n 0, 1) := by decide +kernel
theorem dX3_mix_16 : decode cX3_mix 16 = .ok (.getfield 13, 3) := by decide +kernel
theorem dX3_mix_19 : decode cX3_mix 19 = .ok (.iload 4, 2) := by decide +kernel
theorem dX3_mix_21 : decode cX3_mix 21 = .ok (.aload_n 0, 1) := by decide +kernel
theorem dX3_mix_22 : decode cX3_mix 22 = .ok (.getfield 13, 3) := by decide +kernel
theorem dX3_mix_25 : decode cX3_mix 25 = .ok (.iload 4, 2) := by decide +kernel
theorem dX3_mix_27 : decode cX3_mix 27 = .ok (.iaload, 1) := by decide +kernel
theorem dX3_mix_28 : decode cX3_mix 28 = .ok (.aload_n 0, 1) := by decide +kernel
theorem dX3_mix_29 : decode cX3_mix 29 = .ok (.getfield 13, 3) := by decide +kernel
theorem dX3_mix_32 : decode cX3_mix 32 = .ok (.iload_n 1, 1) := by decide +kernel
theorem dX3_mix_33 : decode cX3_mix 33 = .ok (.iaload, 1) := by decide +kernel
theorem dX3_mix_34 : decode cX3_mix 34 = .ok (.ixor, 1) := by decide +kernel
theorem dX3_mix_35 : decode cX3_mix 35 = .ok (.bipush 16, 2) := by decide +kernel
theorem dX3_mix_37 : decode cX3_mix 37 = .ok (.invokestatic 46, 3) := by decide +kernel
theorem dX3_mix_40 : decode cX3_mix 40 = .ok (.iastore, 1) := by decide +kernel
theorem dX3_mix_41 : decode cX3_mix 41 = .ok (.aload_n 0, 1) := by decide +kernel
theorem dX3_mix_42 : decode cX3_mix 42 = .ok (.getfield 13, 3) := by decide +kernel
theorem dX3_mix_45 : decode cX3_mix 45 = .ok (.iload_n 3, 1) := by decide +kernel
theorem dX3_mix_46 : decode cX3_mix 46 = .ok (.dup2, 1) := by decide +kernel
theorem dX3_mix_47 : decode cX3_mix 47 = .ok (.iaload, 1) := by decide +kernel
theorem dX3_mix_48 : decode cX3_mix 48 = .ok (.aload_n 0, 1) := by decide +kernel
theorem dX3_mix_49 : decode cX3_mix 49 = .ok (.getfield 13, 3) := by decide +kernel
theorem dX3_mix_52 : decode cX3_mix 52 = .ok (.iload 4, 2) := by decide +kernel
theorem dX3_mix_54 : decode cX3_mix 54 = .ok (.iaload, 1) := by decide +kernel
theorem dX3_mix_55 : decode cX3_mix 55 = .ok (.iadd, 1) := by decide +kernel
theorem dX3_mix_56 : decode cX3_mix 56 = .ok (.iastore, 1) := by decide +kernel
theorem dX3_mix_57 : decode cX3_mix 57 = .ok (.aload_n 0, 1) := by decide +kernel
theorem dX3_mix_58 : decode cX3_mix 58 = .ok (.getfield 13, 3) := by decide +kernel
theorem dX3_mix_61 : decode cX3_mix 61 = .ok (.iload_n 2, 1) := by decide +kernel
theorem dX3_mix_62 : decode cX3_mix 62 = .ok (.aload_n 0, 1) := by decide +kernel
theorem dX3_mix_63 : decode cX3_mix 63 = .ok (.getfield 13, 3) := by decide +kernel
theorem dX3_mix_66 : decode cX3_mix 66 = .ok (.iload_n 2, 1) := by decide +kernel
theorem dX3_mix_67 : decode cX3_mix 67 = .ok (.iaload, 1) := by decide +kernel
theorem dX3_mix_68 : decode cX3_mix 68 = .ok (.aload_n 0, 1) := by decide +kernel
theorem dX3_mix_69 : decode cX3_mix 69 = .ok (.getfield 13, 3) := by decide +kernel
theorem dX3_mix_72 : decode cX3_mix 72 = .ok (.iload_n 3, 1) := by decide +kernel
theorem dX3_mix_73 : decode cX3_mix 73 = .ok (.iaload, 1) := by decide +kernel
theorem dX3_mix_74 : decode cX3_mix 74 = .ok (.ixor, 1) := by decide +kernel
theorem dX3_mix_75 : decode cX3_mix 75 = .ok (.bipush 12, 2) := by decide +kernel
theorem dX3_mix_77 : decode cX3_mix 77 = .ok (.invokestatic 46, 3) := by decide +kernel
theorem dX3_mix_80 : decode cX3_mix 80 = .ok (.iastore, 1) := by decide +kernel
theorem dX3_mix_81 : decode cX3_mix 81 = .ok (.aload_n 0, 1) := by decide +kernel
theorem dX3_mix_82 : decode cX3_mix 82 = .ok (.getfield 13, 3) := by decide +kernel
theorem dX3_mix_85 : decode cX3_mix 85 = .ok (.iload_n 1, 1) := by decide +kernel
theorem dX3_mix_86 : decode cX3_mix 86 = .ok (.dup2, 1) := by decide +kernel
theorem dX3_mix_87 : decode cX3_mix 87 = .ok (.iaload, 1) := by decide +kernel
theorem dX3_mix_88 : decode cX3_mix 88 = .ok (.aload_n 0, 1) := by decide +kernel
theorem dX3_mix_89 : decode cX3_mix 89 = .ok (.getfield 13, 3) := by decide +kernel
theorem dX3_mix_92 : decode cX3_mix 92 = .ok (.iload_n 2, 1) := by decide +kernel
theorem dX3_mix_93 : decode cX3_mix 93 = .ok (.iaload, 1) := by decide +kernel
theorem dX3_mix_94 : decode cX3_mix 94 = .ok (.iadd, 1) := by decide +kernel
theorem dX3_mix_95 : decode cX3_mix 95 = .ok (.iastore, 1) := by decide +kernel
theorem dX3_mix_96 : decode cX3_mix 96 = .ok (.aload_n 0, 1) := by decide +kernel
theorem dX3_mix_97 : decode cX3_mix 97 = .ok (.getfield 13, 3) := by decide +kernel
theorem dX3_mix_100 : decode cX3_mix 100 = .ok (.iload 4, 2) := by decide +kernel
theorem dX3_mix_102 : decode cX3_mix 102 = .ok (.aload_n 0, 1) := by decide +kernel
theorem dX3_mix_103 : decode cX3_mix 103 = .ok (.getfield 13, 3) := by decide +kernel
theorem dX3_mix_106 : decode cX3_mix 106 = .ok (.iload 4, 2) := by decide +kernel
theorem dX3_mix_108 : decode cX3_mix 108 = .ok (.iaload, 1) := by decide +kernel
theorem dX3_mix_109 : decode cX3_mix 109 = .ok (.aload_n 0, 1) := by decide +kernel
theorem dX3_mix_110 : decode cX3_mix 110 = .ok (.getfield 13, 3) := by decide +kernel
theorem dX3_mix_113 : decode cX3_mix 113 = .ok (.iload_n 1, 1) := by decide +kernel
theorem dX3_mix_114 : decode cX3_mix 114 = .ok (.iaload, 1) := by decide +kernel
theorem dX3_mix_115 : decode cX3_mix 115 = .ok (.ixor, 1) := by decide +kernel
theorem dX3_mix_116 : decode cX3_mix 116 = .ok (.bipush 8, 2) := by decide +kernel
theorem dX3_mix_118 : decode cX3_mix 118 = .ok (.invokestatic 46, 3) := by decide +kernel
theorem dX3_mix_121 : decode cX3_mix 121 = .ok (.iastore, 1) := by decide +kernel
theorem dX3_mix_122 : decode cX3_mix 122 = .ok (.aload_n 0, 1) := by decide +kernel
theorem dX3_mix_123 : decode cX3_mix 123 = .ok (.getfield 13, 3) := by decide +kernel
theorem dX3_mix_126 : decode cX3_mix 126 = .ok (.iload_n 3, 1) := by decide +kernel
theorem dX3_mix_127 : decode cX3_mix 127 = .ok (.dup2, 1) := by decide +kernel
theorem dX3_mix_128 : decode cX3_mix 128 = .ok (.iaload, 1) := by decide +kernel
theorem dX3_mix_129 : decode cX3_mix 129 = .ok (.aload_n 0, 1) := by decide +kernel
theorem dX3_mix_130 : decode cX3_mix 130 = .ok (.getfield 13, 3) := by decide +kernel
theorem dX3_mix_133 : decode cX3_mix 133 = .ok (.iload 4, 2) := by decide +kernel
theorem dX3_mix_135 : decode cX3_mix 135 = .ok (.iaload, 1) := by decide +kernel
theorem dX3_mix_136 : decode cX3_mix 136 = .ok (.iadd, 1) := by decide +kernel
theorem dX3_mix_137 : decode cX3_mix 137 = .ok (.iastore, 1) := by decide +kernel
theorem dX3_mix_138 : decode cX3_mix 138 = .ok (.aload_n 0, 1) := by decide +kernel
theorem dX3_mix_139 : decode cX3_mix 139 = .ok (.getfield 13, 3) := by decide +kernel
theorem dX3_mix_142 : decode cX3_mix 142 = .ok (.iload_n 2, 1) := by decide +kernel
theorem dX3_mix_143 : decode cX3_mix 143 = .ok (.aload_n 0, 1) := by decide +kernel
theorem dX3_mix_144 : decode cX3_mix 144 = .ok (.getfield 13, 3) := by decide +kernel
theorem dX3_mix_147 : decode cX3_mix 147 = .ok (.iload_n 2, 1) := by decide +kernel
theorem dX3_mix_148 : decode cX3_mix 148 = .ok (.iaload, 1) := by decide +kernel
theorem dX3_mix_149 : decode cX3_mix 149 = .ok (.aload_n 0, 1) := by decide +kernel
theorem dX3_mix_150 : decode cX3_mix 150 = .ok (.getfield 13, 3) := by decide +kernel
theorem dX3_mix_153 : decode cX3_mix 153 = .ok (.iload_n 3, 1) := by decide +kernel
theorem dX3_mix_154 : decode cX3_mix 154 = .ok (.iaload, 1) := by decide +kernel
theorem dX3_mix_155 : decode cX3_mix 155 = .ok (.ixor, 1) := by decide +kernel
theorem dX3_mix_156 : decode cX3_mix 156 = .ok (.bipush 7, 2) := by decide +kernel
theorem dX3_mix_158 : decode cX3_mix 158 = .ok (.invokestatic 46, 3) := by decide +kernel
theorem dX3_mix_161 : decode cX3_mix 161 = .ok (.iastore, 1) := by decide +kernel
theorem dX3_mix_162 : decode cX3_mix 162 = .ok (.return_, 1) := by decide +kernel
theorem dX3_mixAll_0 : decode cX3_mixAll 0 = .ok (.aload_n 0, 1) := by decide +kernel
theorem dX3_mixAll_1 : decode cX3_mixAll 1 = .ok (.iconst 0, 1) := by decide +kernel
theorem dX3_mixAll_2 : decode cX3_mixAll 2 = .ok (.iconst 4, 1) := by decide +kernel
theorem dX3_mixAll_3 : decode cX3_mixAll 3 = .ok (.bipush 8, 2) := by decide +kernel
theorem dX3_mixAll_5 : decode cX3_mixAll 5 = .ok (.bipush 12, 2) := by decide +kernel
theorem dX3_mixAll_7 : decode cX3_mixAll 7 = .ok (.invokevirtual 42, 3) := by decide +kernel
theorem dX3_mixAll_10 : decode cX3_mixAll 10 = .ok (.aload_n 0, 1) := by decide +kernel
theorem dX3_mixAll_11 : decode cX3_mixAll 11 = .ok (.iconst 1, 1) := by decide +kernel
theorem dX3_mixAll_12 : decode cX3_mixAll 12 = .ok (.iconst 5, 1) := by decide +kernel
theorem dX3_mixAll_13 : decode cX3_mixAll 13 = .ok (.bipush 9, 2) := by decide +kernel
theorem dX3_mixAll_15 : decode cX3_mixAll 15 = .ok (.bipush 13, 2) := by decide +kernel
theorem dX3_mixAll_17 : decode cX3_mixAll 17 = .ok (.invokevirtual 42, 3) := by decide +kernel
theorem dX3_mixAll_20 : decode cX3_mixAll 20 = .ok (.aload_n 0, 1) := by decide +kernel
theorem dX3_mixAll_21 : decode cX3_mixAll 21 = .ok (.iconst 2, 1) := by decide +kernel
theorem dX3_mixAll_22 : decode cX3_mixAll 22 = .ok (.bipush 6, 2) := by decide +kernel
theorem dX3_mixAll_24 : decode cX3_mixAll 24 = .ok (.bipush 10, 2) := by decide +kernel
theorem dX3_mixAll_26 : decode cX3_mixAll 26 = .ok (.bipush 14, 2) := by decide +kernel
theorem dX3_mixAll_28 : decode cX3_mixAll 28 = .ok (.invokevirtual 42, 3) := by decide +kernel
theorem dX3_mixAll_31 : decode cX3_mixAll 31 = .ok (.aload_n 0, 1) := by decide +kernel
theorem dX3_mixAll_32 : decode cX3_mixAll 32 = .ok (.iconst 3, 1) := by decide +kernel
theorem dX3_mixAll_33 : decode cX3_mixAll 33 = .ok (.bipush 7, 2) := by decide +kernel
theorem dX3_mixAll_35 : decode cX3_mixAll 35 = .ok (.bipush 11, 2) := by decide +kernel
theorem dX3_mixAll_37 : decode cX3_mixAll 37 = .ok (.bipush 15, 2) := by decide +kernel
theorem dX3_mixAll_39 : decode cX3_mixAll 39 = .ok (.invokevirtual 42, 3) := by decide +kernel
theorem dX3_mixAll_42 : decode cX3_mixAll 42 = .ok (.aload_n 0, 1) := by decide +kernel
theorem dX3_mixAll_43 : decode cX3_mixAll 43 = .ok (.iconst 0, 1) := by decide +kernel
theorem dX3_mixAll_44 : decode cX3_mixAll 44 = .ok (.iconst 5, 1) := by decide +kernel
theorem dX3_mixAll_45 : decode cX3_mixAll 45 = .ok (.bipush 10, 2) := by decide +kernel
theorem dX3_mixAll_47 : decode cX3_mixAll 47 = .ok (.bipush 15, 2) := by decide +kernel
theorem dX3_mixAll_49 : decode cX3_mixAll 49 = .ok (.invokevirtual 42, 3) := by decide +kernel
theorem dX3_mixAll_52 : decode cX3_mixAll 52 = .ok (.aload_n 0, 1) := by decide +kernel
theorem dX3_mixAll_53 : decode cX3_mixAll 53 = .ok (.iconst 1, 1) := by decide +kernel
theorem dX3_mixAll_54 : decode cX3_mixAll 54 = .ok (.bipush 6, 2) := by decide +kernel
theorem dX3_mixAll_56 : decode cX3_mixAll 56 = .ok (.bipush 11, 2) := by decide +kernel
theorem dX3_mixAll_58 : decode cX3_mixAll 58 = .ok (.bipush 12, 2) := by decide +kernel
theorem dX3_mixAll_60 : decode cX3_mixAll 60 = .ok (.invokevirtual 42, 3) := by decide +kernel
theorem dX3_mixAll_63 : decode cX3_mixAll 63 = .ok (.aload_n 0, 1) := by decide +kernel
theorem dX3_mixAll_64 : decode cX3_mixAll 64 = .ok (.iconst 2, 1) := by decide +kernel
theorem dX3_mixAll_65 : decode cX3_mixAll 65 = .ok (.bipush 7, 2) := by decide +kernel
theorem dX3_mixAll_67 : decode cX3_mixAll 67 = .ok (.bipush 8, 2) := by decide +kernel
theorem dX3_mixAll_69 : decode cX3_mixAll 69 = .ok (.bipush 13, 2) := by decide +kernel
theorem dX3_mixAll_71 : decode cX3_mixAll 71 = .ok (.invokevirtual 42, 3) := by decide +kernel
theorem dX3_mixAll_74 : decode cX3_mixAll 74 = .ok (.aload_n 0, 1) := by decide +kernel
theorem dX3_mixAll_75 : decode cX3_mixAll 75 = .ok (.iconst 3, 1) := by decide +kernel
theorem dX3_mixAll_76 : decode cX3_mixAll 76 = .ok (.iconst 4, 1) := by decide +kernel
theorem dX3_mixAll_77 : decode cX3_mixAll 77 = .ok (.bipush 9, 2) := by decide +kernel
theorem dX3_mixAll_79 : decode cX3_mixAll 79 = .ok (.bipush 14, 2) := by decide +kernel
theorem dX3_mixAll_81 : decode cX3_mixAll 81 = .ok (.invokevirtual 42, 3) := by decide +kernel
theorem dX3_mixAll_84 : decode cX3_mixAll 84 = .ok (.return_, 1) := by decide +kernel
theorem dX3_make_0 : decode cX3_make 0 = .ok (.getstatic 20, 3) := by decide +kernel
theorem dX3_make_3 : decode cX3_make 3 = .ok (.iconst 0, 1) := by decide +kernel
theorem dX3_make_4 : decode cX3_make 4 = .ok (.aload_n 0, 1) := by decide +kernel
theorem dX3_make_5 : decode cX3_make 5 = .ok (.getfield 7, 3) := by decide +kernel
theorem dX3_make_8 : decode cX3_make 8 = .ok (.iconst 0, 1) := by decide +kernel
theorem dX3_make_9 : decode cX3_make 9 = .ok (.iconst 4, 1) := by decide +kernel
theorem dX3_make_10 : decode cX3_make 10 = .ok (.invokestatic 23, 3) := by decide +kernel
theorem dX3_make_13 : decode cX3_make 13 = .ok (.iconst 0, 1) := by decide +kernel
theorem dX3_make_14 : decode cX3_make 14 = .ok (.istore 4, 2) := by decide +kernel
theorem dX3_make_16 : decode cX3_make 16 = .ok (.iload 4, 2) := by decide +kernel
theorem dX3_make_18 : decode cX3_make 18 = .ok (.bipush 8, 2) := by decide +kernel
theorem dX3_make_20 : decode cX3_make 20 = .ok (.if_icmp .ge 26, 3) := by decide +kernel
theorem dX3_make_23 : decode cX3_make 23 = .ok (.aload_n 0, 1) := by decide +kernel
theorem dX3_make_24 : decode cX3_make 24 = .ok (.getfield 7, 3) := by decide +kernel
theorem dX3_make_27 : decode cX3_make 27 = .ok (.iconst 4, 1) := by decide +kernel
theorem dX3_make_28 : decode cX3_make 28 = .ok (.iload 4, 2) := by decide +kernel
theorem dX3_make_30 : decode cX3_make 30 = .ok (.iadd, 1) := by decide +kernel
theorem dX3_make_31 : decode cX3_make 31 = .ok (.aload_n 1, 1) := by decide +kernel
theorem dX3_make_32 : decode cX3_make 32 = .ok (.iconst 4, 1) := by decide +kernel
theorem dX3_make_33 : decode cX3_make 33 = .ok (.iload 4, 2) := by decide +kernel
theorem dX3_make_35 : decode cX3_make 35 = .ok (.imul, 1) := by decide +kernel
theorem dX3_make_36 : decode cX3_make 36 = .ok (.invokestatic 29, 3) := by decide +kernel
theorem dX3_make_39 : decode cX3_make 39 = .ok (.iastore, 1) := by decide +kernel
theorem dX3_make_40 : decode cX3_make 40 = .ok (.iinc 4 1, 3) := by decide +kernel
theorem dX3_make_43 : decode cX3_make 43 = .ok (.goto (-27), 3) := by decide +kernel
theorem dX3_make_46 : decode cX3_make 46 = .ok (.aload_n 0, 1) := by decide +kernel
theorem dX3_make_47 : decode cX3_make 47 = .ok (.getfield 7, 3) := by decide +kernel
theorem dX3_make_50 : decode cX3_make 50 = .ok (.bipush 12, 2) := by decide +kernel
theorem dX3_make_52 : decode cX3_make 52 = .ok (.iload_n 3, 1) := by decide +kernel
theorem dX3_make_53 : decode cX3_make 53 = .ok (.iastore, 1) := by decide +kernel
theorem dX3_make_54 : decode cX3_make 54 = .ok (.iconst 0, 1) := by decide +kernel
theorem dX3_make_55 : decode cX3_make 55 = .ok (.istore 4, 2) := by decide +kernel
theorem dX3_make_57 : decode cX3_make 57 = .ok (.iload 4, 2) := by decide +kernel
theorem dX3_make_59 : decode cX3_make 59 = .ok (.iconst 3, 1) := by decide +kernel
theorem dX3_make_60 : decode cX3_make 60 = .ok (.if_icmp .ge 27, 3) := by decide +kernel
theorem dX3_make_63 : decode cX3_make 63 = .ok (.aload_n 0, 1) := by decide +kernel
theorem dX3_make_64 : decode cX3_make 64 = .ok (.getfield 7, 3) := by decide +kernel
theorem dX3_make_67 : decode cX3_make 67 = .ok (.bipush 13, 2) := by decide +kernel
theorem dX3_make_69 : decode cX3_make 69 = .ok (.iload 4, 2) := by decide +kernel
theorem dX3_make_71 : decode cX3_make 71 = .ok (.iadd, 1) := by decide +kernel
theorem dX3_make_72 : decode cX3_make 72 = .ok (.aload_n 2, 1) := by decide +kernel
theorem dX3_make_73 : decode cX3_make 73 = .ok (.iconst 4, 1) := by decide +kernel
theorem dX3_make_74 : decode cX3_make 74 = .ok (.iload 4, 2) := by decide +kernel
theorem dX3_make_76 : decode cX3_make 76 = .ok (.imul, 1) := by decide +kernel
theorem dX3_make_77 : decode cX3_make 77 = .ok (.invokestatic 29, 3) := by decide +kernel
theorem dX3_make_80 : decode cX3_make 80 = .ok (.iastore, 1) := by decide +kernel
theorem dX3_make_81 : decode cX3_make 81 = .ok (.iinc 4 1, 3) := by decide +kernel
theorem dX3_make_84 : decode cX3_make 84 = .ok (.goto (-27), 3) := by decide +kernel
theorem dX3_make_87 : decode cX3_make 87 = .ok (.aload_n 0, 1) := by decide +kernel
theorem dX3_make_88 : decode cX3_make 88 = .ok (.getfield 7, 3) := by decide +kernel
theorem dX3_make_91 : decode cX3_make 91 = .ok (.iconst 0, 1) := by decide +kernel
theorem dX3_make_92 : decode cX3_make 92 = .ok (.aload_n 0, 1) := by decide +kernel
theorem dX3_make_93 : decode cX3_make 93 = .ok (.getfield 13, 3) := by decide +kernel
theorem dX3_make_96 : decode cX3_make 96 = .ok (.iconst 0, 1) := by decide +kernel
theorem dX3_make_97 : decode cX3_make 97 = .ok (.bipush 16, 2) := by decide +kernel
theorem dX3_make_99 : decode cX3_make 99 = .ok (.invokestatic 23, 3) := by decide +kernel
theorem dX3_make_102 : decode cX3_make 102 = .ok (.iconst 0, 1) := by decide +kernel
theorem dX3_make_103 : decode cX3_make 103 = .ok (.istore 4, 2) := by decide +kernel
theorem dX3_make_105 : decode cX3_make 105 = .ok (.iload 4, 2) := by decide +kernel
theorem dX3_make_107 : decode cX3_make 107 = .ok (.bipush 10, 2) := by decide +kernel
theorem dX3_make_109 : decode cX3_make 109 = .ok (.if_icmp .ge 13, 3) := by decide +kernel
theorem dX3_make_112 : decode cX3_make 112 = .ok (.aload_n 0, 1) := by decide +kernel
theorem dX3_make_113 : decode cX3_make 113 = .ok (.invokevirtual 35, 3) := by decide +kernel
theorem dX3_make_116 : decode cX3_make 116 = .ok (.iinc 4 1, 3) := by decide +kernel
theorem dX3_make_119 : decode cX3_make 119 = .ok (.goto (-14), 3) := by decide +kernel
theorem dX3_make_122 : decode cX3_make 122 = .ok (.iconst 0, 1) := by decide +kernel
theorem dX3_make_123 : decode cX3_make 123 = .ok (.istore 4, 2) := by decide +kernel
theorem dX3_make_125 : decode cX3_make 125 = .ok (.iload 4, 2) := by decide +kernel
theorem dX3_make_127 : decode cX3_make 127 = .ok (.bipush 16, 2) := by decide +kernel
theorem dX3_make_129 : decode cX3_make 129 = .ok (.if_icmp .ge 37, 3) := by decide +kernel
theorem dX3_make_132 : decode cX3_make 132 = .ok (.aload_n 0, 1) := by decide +kernel
theorem dX3_make_133 : decode cX3_make 133 = .ok (.getfield 16, 3) := by decide +kernel
theorem dX3_make_136 : decode cX3_make 136 = .ok (.iconst 4, 1) := by decide +kernel
theorem dX3_make_137 : decode cX3_make 137 = .ok (.iload 4, 2) := by decide +kernel
theorem dX3_make_139 : decode cX3_make 139 = .ok (.imul, 1) := by decide +kernel
theorem dX3_make_140 : decode cX3_make 140 = .ok (.iconst 4, 1) := by decide +kernel
theorem dX3_make_141 : decode cX3_make 141 = .ok (.aload_n 0, 1) := by decide +kernel
theorem dX3_make_142 : decode cX3_make 142 = .ok (.getfield 13, 3) := by decide +kernel
theorem dX3_make_145 : decode cX3_make 145 = .ok (.iload 4, 2) := by decide +kernel
theorem dX3_make_147 : decode cX3_make 147 = .ok (.iaload, 1) := by decide +kernel
theorem dX3_make_148 : decode cX3_make 148 = .ok (.aload_n 0, 1) := by decide +kernel
theorem dX3_make_149 : decode cX3_make 149 = .ok (.getfield 7, 3) := by decide +kernel
theorem dX3_make_152 : decode cX3_make 152 = .ok (.iload 4, 2) := by decide +kernel
theorem dX3_make_154 : decode cX3_make 154 = .ok (.iaload, 1) := by decide +kernel
theorem dX3_make_155 : decode cX3_make 155 = .ok (.iadd, 1) := by decide +kernel
theorem dX3_make_156 : decode cX3_make 156 = .ok (.i2l, 1) := by decide +kernel
theorem dX3_make_157 : decode cX3_make 157 = .ok (.invokestatic 38, 3) := by decide +kernel
theorem dX3_make_160 : decode cX3_make 160 = .ok (.iinc 4 1, 3) := by decide +kernel
theorem dX3_make_163 : decode cX3_make 163 = .ok (.goto (-38), 3) := by decide +kernel
theorem dX3_make_166 : decode cX3_make 166 = .ok (.return_, 1) := by decide +kernel
set_option maxHeartbeats 4000000 in
set_option maxRecDepth 100000 in
theorem c_KS_mix (l : Launch) (D : va_G) (a0 : Nat) (p1 : Nat) (p2 : Nat) (p3 : Nat) (p4 : Nat) (a0_first : Nat) (a0_x : Nat) (a0_bytes : Nat) (t_a0_x : Nat → Wd)  (h1 : p1 < 16) (h2 : p2 < 16) (h3 : p3 < 16) (h4 : p4 < 16) : vM l D yX3_mix cX3_mix 5 none { frames := 1, cells := 0, slots := 0, locals := 21 } [.ref a0, .int (nI p1), .int (nI p2), .int (nI p3), .int (nI p4)] [(a0, .inr (3, [.ref a0_first, .ref a0_x, .ref a0_bytes])), (a0_x, aW D 16 t_a0_x)] (fun r wo => r = none ∧ wo = [(a0, .inr (3, [.ref a0_first, .ref a0_x, .ref a0_bytes])), (a0_x, aW D 16 (cc_qr p1 p2 p3 p4 t_a0_x))]) := by
  refine vM.of (by decide) (Nat.le_of_ble_eq_true rfl) (fun C hCl hCD g R => ?_)
  subst hCl; subst hCD
  show VJ C 0 0 0 [(0, .ref a0), (1, .int (nI p1)), (2, .int (nI p2)), (3, .int (nI p3)), (4, .int (nI p4))] [] [(a0, .inr (3, [.ref a0_first, .ref a0_x, .ref a0_bytes])), (a0_x, aW C.D 16 t_a0_x)]
  refine v_aload_n g dX3_mix_0 0 rfl 0 rfl ?_
  refine gf_X3_13 g dX3_mix_1 0 rfl rfl ?_
  refine v_iload_n g dX3_mix_4 1 rfl 1 rfl ?_
  refine v_dup2 g dX3_mix_5 rfl rfl ?_
  refine v_ialdW g 1 rfl (by omega) (by decide) dX3_mix_6 ?_
  refine v_aload_n g dX3_mix_7 0 rfl 0 rfl ?_
  refine gf_X3_13 g dX3_mix_8 0 rfl rfl ?_
  refine v_iload_n g dX3_mix_11 2 rfl 2 rfl ?_
  refine v_ialdW g 1 rfl (by omega) (by decide) dX3_mix_12 ?_
  refine v_iaddW g (t_a0_x p1) (t_a0_x p2) rfl rfl dX3_mix_13 ?_
  obtain ⟨t1, ht1⟩ : ∃ z : Nat → Wd, z = va_up t_a0_x p1 ((t_a0_x p1) + (t_a0_x p2)) := ⟨_, rfl⟩
  refine v_iastW g ((t_a0_x p1) + (t_a0_x p2)) rfl t1 ht1 1 [(a0, .inr (3, [.ref a0_first, .ref a0_x, .ref a0_bytes])), (a0_x, aW C.D 16 t1)] rfl (by omega) (by decide) dX3_mix_14 rfl ?_
  refine v_aload_n g dX3_mix_15 0 rfl 0 rfl ?_
  refine gf_X3_13 g dX3_mix_16 0 rfl rfl ?_
  refine v_iload g dX3_mix_19 4 rfl ?_
  refine v_aload_n g dX3_mix_21 0 rfl 0 rfl ?_
  refine gf_X3_13 g dX3_mix_22 0 rfl rfl ?_
  refine v_iload g dX3_mix_25 4 rfl ?_
  refine v_ialdW g 1 rfl (by omega) (by decide) dX3_mix_27 ?_
  refine v_aload_n g dX3_mix_28 0 rfl 0 rfl ?_
  refine gf_X3_13 g dX3_mix_29 0 rfl rfl ?_
  refine v_iload_n g dX3_mix_32 1 rfl 1 rfl ?_
  refine v_ialdW g 1 rfl (by omega) (by decide) dX3_mix_33 ?_
  refine v_ixorW g (t1 p4) (t1 p1) rfl rfl dX3_mix_34 ?_
  refine v_bipush g dX3_mix_35 (v := nI 16) (by decide +kernel) ?_
  refine v_callS (As := [.int (wI ((t1 p4) ^^^ (t1 p1))), .int (nI 16)]) (rest := [.int (nI p4), .ref a0_x]) (wr := [(a0, .inr (3, [.ref a0_first, .ref a0_x, .ref a0_bytes])), (a0_x, aW C.D 16 t1)]) cw_X3_46 (hy_J6_rotateLeft) g (c_rotl C.l C.D ((t1 p4) ^^^ (t1 p1)) 16 (by omega) (by omega)) dX3_mix_37 rfl (by decide) (by decide) (Nat.le_of_ble_eq_true rfl) [] [0, 1] rfl rfl (by decide) rfl (by decide) (by decide) _ rfl (fun r wo hp2 => ?_)
  obtain ⟨rfl, rfl⟩ := hp2
  show VJ C 0 0 40 [(0, .ref a0), (1, .int (nI p1)), (2, .int (nI p2)), (3, .int (nI p3)), (4, .int (nI p4))] [.int (wI (rotl ((t1 p4) ^^^ (t1 p1)) 16)), .int (nI p4), .ref a0_x] [(a0, .inr (3, [.ref a0_first, .ref a0_x, .ref a0_bytes])), (a0_x, aW C.D 16 t1)]
  obtain ⟨t3, ht3⟩ : ∃ z : Nat → Wd, z = va_up t1 p4 (rotl ((t1 p4) ^^^ (t1 p1)) 16) := ⟨_, rfl⟩
  refine v_iastW g (rotl ((t1 p4) ^^^ (t1 p1)) 16) rfl t3 ht3 1 [(a0, .inr (3, [.ref a0_first, .ref a0_x, .ref a0_bytes])), (a0_x, aW C.D 16 t3)] rfl (by omega) (by decide) dX3_mix_40 rfl ?_
  have q0 : t3 = cc_half p1 p2 p4 16 t_a0_x := by rw [ht3, ht1]; rfl
  refine v_aload_n g dX3_mix_41 0 rfl 0 rfl ?_
  refine gf_X3_13 g dX3_mix_42 0 rfl rfl ?_
  refine v_iload_n g dX3_mix_45 3 rfl 3 rfl ?_
  refine v_dup2 g dX3_mix_46 rfl rfl ?_
  refine v_ialdW g 1 rfl (by omega) (by decide) dX3_mix_47 ?_
  refine v_aload_n g dX3_mix_48 0 rfl 0 rfl ?_
  refine gf_X3_13 g dX3_mix_49 0 rfl rfl ?_
  refine v_iload g dX3_mix_52 4 rfl ?_
  refine v_ialdW g 1 rfl (by omega) (by decide) dX3_mix_54 ?_
  refine v_iaddW g (t3 p3) (t3 p4) rfl rfl dX3_mix_55 ?_
  obtain ⟨t4, ht4⟩ : ∃ z : Nat → Wd, z = va_up t3 p3 ((t3 p3) + (t3 p4)) := ⟨_, rfl⟩
  refine v_iastW g ((t3 p3) + (t3 p4)) rfl t4 ht4 1 [(a0, .inr (3, [.ref a0_first, .ref a0_x, .ref a0_bytes])), (a0_x, aW C.D 16 t4)] rfl (by omega) (by decide) dX3_mix_56 rfl ?_
  refine v_aload_n g dX3_mix_57 0 rfl 0 rfl ?_
  refine gf_X3_13 g dX3_mix_58 0 rfl rfl ?_
  refine v_iload_n g dX3_mix_61 2 rfl 2 rfl ?_
  refine v_aload_n g dX3_mix_62 0 rfl 0 rfl ?_
  refine gf_X3_13 g dX3_mix_63 0 rfl rfl ?_
  refine v_iload_n g dX3_mix_66 2 rfl 2 rfl ?_
  refine v_ialdW g 1 rfl (by omega) (by decide) dX3_mix_67 ?_
  refine v_aload_n g dX3_mix_68 0 rfl 0 rfl ?_
  refine gf_X3_13 g dX3_mix_69 0 rfl rfl ?_
  refine v_iload_n g dX3_mix_72 3 rfl 3 rfl ?_
  refine v_ialdW g 1 rfl (by omega) (by decide) dX3_mix_73 ?_
  refine v_ixorW g (t4 p2) (t4 p3) rfl rfl dX3_mix_74 ?_
  refine v_bipush g dX3_mix_75 (v := nI 12) (by decide +kernel) ?_
  refine v_callS (As := [.int (wI ((t4 p2) ^^^ (t4 p3))), .int (nI 12)]) (rest := [.int (nI p2), .ref a0_x]) (wr := [(a0, .inr (3, [.ref a0_first, .ref a0_x, .ref a0_bytes])), (a0_x, aW C.D 16 t4)]) cw_X3_46 (hy_J6_rotateLeft) g (c_rotl C.l C.D ((t4 p2) ^^^ (t4 p3)) 12 (by omega) (by omega)) dX3_mix_77 rfl (by decide) (by decide) (Nat.le_of_ble_eq_true rfl) [] [0, 1] rfl rfl (by decide) rfl (by decide) (by decide) _ rfl (fun r wo hp5 => ?_)
  obtain ⟨rfl, rfl⟩ := hp5
  show VJ C 0 0 80 [(0, .ref a0), (1, .int (nI p1)), (2, .int (nI p2)), (3, .int (nI p3)), (4, .int (nI p4))] [.int (wI (rotl ((t4 p2) ^^^ (t4 p3)) 12)), .int (nI p2), .ref a0_x] [(a0, .inr (3, [.ref a0_first, .ref a0_x, .ref a0_bytes])), (a0_x, aW C.D 16 t4)]
  obtain ⟨t6, ht6⟩ : ∃ z : Nat → Wd, z = va_up t4 p2 (rotl ((t4 p2) ^^^ (t4 p3)) 12) := ⟨_, rfl⟩
  refine v_iastW g (rotl ((t4 p2) ^^^ (t4 p3)) 12) rfl t6 ht6 1 [(a0, .inr (3, [.ref a0_first, .ref a0_x, .ref a0_bytes])), (a0_x, aW C.D 16 t6)] rfl (by omega) (by decide) dX3_mix_80 rfl ?_
  have q1 : t6 = cc_half p3 p4 p2 12 t3 := by rw [ht6, ht4]; rfl
  refine v_aload_n g dX3_mix_81 0 rfl 0 rfl ?_
  refine gf_X3_13 g dX3_mix_82 0 rfl rfl ?_
  refine v_iload_n g dX3_mix_85 1 rfl 1 rfl ?_
  refine v_dup2 g dX3_mix_86 rfl rfl ?_
  refine v_ialdW g 1 rfl (by omega) (by decide) dX3_mix_87 ?_
  refine v_aload_n g dX3_mix_88 0 rfl 0 rfl ?_
  refine gf_X3_13 g dX3_mix_89 0 rfl rfl ?_
  refine v_iload_n g dX3_mix_92 2 rfl 2 rfl ?_
  refine v_ialdW g 1 rfl (by omega) (by decide) dX3_mix_93 ?_
  refine v_iaddW g (t6 p1) (t6 p2) rfl rfl dX3_mix_94 ?_
  obtain ⟨t7, ht7⟩ : ∃ z : Nat → Wd, z = va_up t6 p1 ((t6 p1) + (t6 p2)) := ⟨_, rfl⟩
  refine v_iastW g ((t6 p1) + (t6 p2)) rfl t7 ht7 1 [(a0, .inr (3, [.ref a0_first, .ref a0_x, .ref a0_bytes])), (a0_x, aW C.D 16 t7)] rfl (by omega) (by decide) dX3_mix_95 rfl ?_
  refine v_aload_n g dX3_mix_96 0 rfl 0 rfl ?_
  refine gf_X3_13 g dX3_mix_97 0 rfl rfl ?_
  refine v_iload g dX3_mix_100 4 rfl ?_
  refine v_aload_n g dX3_mix_102 0 rfl 0 rfl ?_
  refine gf_X3_13 g dX3_mix_103 0 rfl rfl ?_
  refine v_iload g dX3_mix_106 4 rfl ?_
  refine v_ialdW g 1 rfl (by omega) (by decide) dX3_mix_108 ?_
  refine v_aload_n g dX3_mix_109 0 rfl 0 rfl ?_
  refine gf_X3_13 g dX3_mix_110 0 rfl rfl ?_
  refine v_iload_n g dX3_mix_113 1 rfl 1 rfl ?_
  refine v_ialdW g 1 rfl (by omega) (by decide) dX3_mix_114 ?_
  refine v_ixorW g (t7 p4) (t7 p1) rfl rfl dX3_mix_115 ?_
  refine v_bipush g dX3_mix_116 (v := nI 8) (by decide +kernel) ?_
  refine v_callS (As := [.int (wI ((t7 p4) ^^^ (t7 p1))), .int (nI 8)]) (rest := [.int (nI p4), .ref a0_x]) (wr := [(a0, .inr (3, [.ref a0_first, .ref a0_x, .ref a0_bytes])), (a0_x, aW C.D 16 t7)]) cw_X3_46 (hy_J6_rotateLeft) g (c_rotl C.l C.D ((t7 p4) ^^^ (t7 p1)) 8 (by omega) (by omega)) dX3_mix_118 rfl (by decide) (by decide) (Nat.le_of_ble_eq_true rfl) [] [0, 1] rfl rfl (by decide) rfl (by decide) (by decide) _ rfl (fun r wo hp8 => ?_)
  obtain ⟨rfl, rfl⟩ := hp8
  show VJ C 0 0 121 [(0, .ref a0), (1, .int (nI p1)), (2, .int (nI p2)), (3, .int (nI p3)), (4, .int (nI p4))] [.int (wI (rotl ((t7 p4) ^^^ (t7 p1)) 8)), .int (nI p4), .ref a0_x] [(a0, .inr (3, [.ref a0_first, .ref a0_x, .ref a0_bytes])), (a0_x, aW C.D 16 t7)]
  obtain ⟨t9, ht9⟩ : ∃ z : Nat → Wd, z = va_up t7 p4 (rotl ((t7 p4) ^^^ (t7 p1)) 8) := ⟨_, rfl⟩
  refine v_iastW g (rotl ((t7 p4) ^^^ (t7 p1)) 8) rfl t9 ht9 1 [(a0, .inr (3, [.ref a0_first, .ref a0_x, .ref a0_bytes])), (a0_x, aW C.D 16 t9)] rfl (by omega) (by decide) dX3_mix_121 rfl ?_
  have q2 : t9 = cc_half p1 p2 p4 8 t6 := by rw [ht9, ht7]; rfl
  refine v_aload_n g dX3_mix_122 0 rfl 0 rfl ?_
  refine gf_X3_13 g dX3_mix_123 0 rfl rfl ?_
  refine v_iload_n g dX3_mix_126 3 rfl 3 rfl ?_
  refine v_dup2 g dX3_mix_127 rfl rfl ?_
  refine v_ialdW g 1 rfl (by omega) (by decide) dX3_mix_128 ?_
  refine v_aload_n g dX3_mix_129 0 rfl 0 rfl ?_
  refine gf_X3_13 g dX3_mix_130 0 rfl rfl ?_
  refine v_iload g dX3_mix_133 4 rfl ?_
  refine v_ialdW g 1 rfl (by omega) (by decide) dX3_mix_135 ?_
  refine v_iaddW g (t9 p3) (t9 p4) rfl rfl dX3_mix_136 ?_
  obtain ⟨t10, ht10⟩ : ∃ z : Nat → Wd, z = va_up t9 p3 ((t9 p3) + (t9 p4)) := ⟨_, rfl⟩
  refine v_iastW g ((t9 p3) + (t9 p4)) rfl t10 ht10 1 [(a0, .inr (3, [.ref a0_first, .ref a0_x, .ref a0_bytes])), (a0_x, aW C.D 16 t10)] rfl (by omega) (by decide) dX3_mix_137 rfl ?_
  refine v_aload_n g dX3_mix_138 0 rfl 0 rfl ?_
  refine gf_X3_13 g dX3_mix_139 0 rfl rfl ?_
  refine v_iload_n g dX3_mix_142 2 rfl 2 rfl ?_
  refine v_aload_n g dX3_mix_143 0 rfl 0 rfl ?_
  refine gf_X3_13 g dX3_mix_144 0 rfl rfl ?_
  refine v_iload_n g dX3_mix_147 2 rfl 2 rfl ?_
  refine v_ialdW g 1 rfl (by omega) (by decide) dX3_mix_148 ?_
  refine v_aload_n g dX3_mix_149 0 rfl 0 rfl ?_
  refine gf_X3_13 g dX3_mix_150 0 rfl rfl ?_
  refine v_iload_n g dX3_mix_153 3 rfl 3 rfl ?_
  refine v_ialdW g 1 rfl (by omega) (by decide) dX3_mix_154 ?_
  refine v_ixorW g (t10 p2) (t10 p3) rfl rfl dX3_mix_155 ?_
  refine v_bipush g dX3_mix_156 (v := nI 7) (by decide +kernel) ?_
  refine v_callS (As := [.int (wI ((t10 p2) ^^^ (t10 p3))), .int (nI 7)]) (rest := [.int (nI p2), .ref a0_x]) (wr := [(a0, .inr (3, [.ref a0_first, .ref a0_x, .ref a0_bytes])), (a0_x, aW C.D 16 t10)]) cw_X3_46 (hy_J6_rotateLeft) g (c_rotl C.l C.D ((t10 p2) ^^^ (t10 p3)) 7 (by omega) (by omega)) dX3_mix_158 rfl (by decide) (by decide) (Nat.le_of_ble_eq_true rfl) [] [0, 1] rfl rfl (by decide) rfl (by decide) (by decide) _ rfl (fun r wo hp11 => ?_)
  obtain ⟨rfl, rfl⟩ := hp11
  show VJ C 0 0 161 [(0, .ref a0), (1, .int (nI p1)), (2, .int (nI p2)), (3, .int (nI p3)), (4, .int (nI p4))] [.int (wI (rotl ((t10 p2) ^^^ (t10 p3)) 7)), .int (nI p2), .ref a0_x] [(a0, .inr (3, [.ref a0_first, .ref a0_x, .ref a0_bytes])), (a0_x, aW C.D 16 t10)]
  obtain ⟨t12, ht12⟩ : ∃ z : Nat → Wd, z = va_up t10 p2 (rotl ((t10 p2) ^^^ (t10 p3)) 7) := ⟨_, rfl⟩
  refine v_iastW g (rotl ((t10 p2) ^^^ (t10 p3)) 7) rfl t12 ht12 1 [(a0, .inr (3, [.ref a0_first, .ref a0_x, .ref a0_bytes])), (a0_x, aW C.D 16 t12)] rfl (by omega) (by decide) dX3_mix_161 rfl ?_
  have q3 : t12 = cc_half p3 p4 p2 7 t9 := by rw [ht12, ht10]; rfl
  have e13 : t12 = cc_qr p1 p2 p3 p4 t_a0_x := by rw [q3, q2, q1, q0]; rfl
  rw [e13]
  exact v_ret g R dX3_mix_162 (by decide) (by decide) ⟨rfl, rfl⟩
set_option maxHeartbeats 4000000 in
set_option maxRecDepth 100000 in
theorem c_KS_mixAll (l : Launch) (D : va_G) (a0 : Nat) (a0_first : Nat) (a0_x : Nat) (a0_bytes : Nat) (t_a0_x : Nat → Wd)   : vM l D yX3_mixAll cX3_mixAll 1 none { frames := 2, cells := 0, slots := 0, locals := 45 } [.ref a0] [(a0, .inr (3, [.ref a0_first, .ref a0_x, .ref a0_bytes])), (a0_x, aW D 16 t_a0_x)] (fun r wo => r = none ∧ wo = [(a0, .inr (3, [.ref a0_first, .ref a0_x, .ref a0_bytes])), (a0_x, aW D 16 (cc_r1 (cc_r0 t_a0_x)))]) := by
  refine vM.of (by decide) (Nat.le_of_ble_eq_true rfl) (fun C hCl hCD g R => ?_)
  subst hCl; subst hCD
  show VJ C 0 0 0 [(0, .ref a0)] [] [(a0, .inr (3, [.ref a0_first, .ref a0_x, .ref a0_bytes])), (a0_x, aW C.D 16 t_a0_x)]
  refine v_aload_n g dX3_mixAll_0 0 rfl 0 rfl ?_
  refine v_iconst g dX3_mixAll_1 (v := nI 0) (by decide +kernel) ?_
  refine v_iconst g dX3_mixAll_2 (v := nI 4) (by decide +kernel) ?_
  refine v_bipush g dX3_mixAll_3 (v := nI 8) (by decide +kernel) ?_
  refine v_bipush g dX3_mixAll_5 (v := nI 12) (by decide +kernel) ?_
  refine v_callV (As := [.int (nI 0), .int (nI 4), .int (nI 8), .int (nI 12)]) (rest := []) (wr := []) cw_X3_42 (hy_X3_mix) g (c_KS_mix C.l C.D a0 0 4 8 12 a0_first a0_x a0_bytes t_a0_x (by omega) (by omega) (by omega) (by omega)) dX3_mixAll_7 0 rfl rfl rfl (by decide) (by decide) (Nat.le_of_ble_eq_true rfl) [0, 1] [] rfl rfl (by decide) rfl (by decide) (by decide) _ rfl (fun r wo hp1 => ?_)
  obtain ⟨rfl, rfl⟩ := hp1
  show VJ C 0 0 10 [(0, .ref a0)] [] [(a0, .inr (3, [.ref a0_first, .ref a0_x, .ref a0_bytes])), (a0_x, aW C.D 16 (cc_qr 0 4 8 12 t_a0_x))]
  refine v_aload_n g dX3_mixAll_10 0 rfl 0 rfl ?_
  refine v_iconst g dX3_mixAll_11 (v := nI 1) (by decide +kernel) ?_
  refine v_iconst g dX3_mixAll_12 (v := nI 5) (by decide +kernel) ?_
  refine v_bipush g dX3_mixAll_13 (v := nI 9) (by decide +kernel) ?_
  refine v_bipush g dX3_mixAll_15 (v := nI 13) (by decide +kernel) ?_
  refine v_callV (As := [.int (nI 1), .int (nI 5), .int (nI 9), .int (nI 13)]) (rest := []) (wr := []) cw_X3_42 (hy_X3_mix) g (c_KS_mix C.l C.D a0 1 5 9 13 a0_first a0_x a0_bytes (cc_qr 0 4 8 12 t_a0_x) (by omega) (by omega) (by omega) (by omega)) dX3_mixAll_17 0 rfl rfl rfl (by decide) (by decide) (Nat.le_of_ble_eq_true rfl) [0, 1] [] rfl rfl (by decide) rfl (by decide) (by decide) _ rfl (fun r wo hp2 => ?_)
  obtain ⟨rfl, rfl⟩ := hp2
  show VJ C 0 0 20 [(0, .ref a0)] [] [(a0, .inr (3, [.ref a0_first, .ref a0_x, .ref a0_bytes])), (a0_x, aW C.D 16 (cc_qr 1 5 9 13 (cc_qr 0 4 8 12 t_a0_x)))]
  refine v_aload_n g dX3_mixAll_20 0 rfl 0 rfl ?_
  refine v_iconst g dX3_mixAll_21 (v := nI 2) (by decide +kernel) ?_
  refine v_bipush g dX3_mixAll_22 (v := nI 6) (by decide +kernel) ?_
  refine v_bipush g dX3_mixAll_24 (v := nI 10) (by decide +kernel) ?_
  refine v_bipush g dX3_mixAll_26 (v := nI 14) (by decide +kernel) ?_
  refine v_callV (As := [.int (nI 2), .int (nI 6), .int (nI 10), .int (nI 14)]) (rest := []) (wr := []) cw_X3_42 (hy_X3_mix) g (c_KS_mix C.l C.D a0 2 6 10 14 a0_first a0_x a0_bytes (cc_qr 1 5 9 13 (cc_qr 0 4 8 12 t_a0_x)) (by omega) (by omega) (by omega) (by omega)) dX3_mixAll_28 0 rfl rfl rfl (by decide) (by decide) (Nat.le_of_ble_eq_true rfl) [0, 1] [] rfl rfl (by decide) rfl (by decide) (by decide) _ rfl (fun r wo hp3 => ?_)
  obtain ⟨rfl, rfl⟩ := hp3
  show VJ C 0 0 31 [(0, .ref a0)] [] [(a0, .inr (3, [.ref a0_first, .ref a0_x, .ref a0_bytes])), (a0_x, aW C.D 16 (cc_qr 2 6 10 14 (cc_qr 1 5 9 13 (cc_qr 0 4 8 12 t_a0_x))))]
  refine v_aload_n g dX3_mixAll_31 0 rfl 0 rfl ?_
  refine v_iconst g dX3_mixAll_32 (v := nI 3) (by decide +kernel) ?_
  refine v_bipush g dX3_mixAll_33 (v := nI 7) (by decide +kernel) ?_
  refine v_bipush g dX3_mixAll_35 (v := nI 11) (by decide +kernel) ?_
  refine v_bipush g dX3_mixAll_37 (v := nI 15) (by decide +kernel) ?_
  refine v_callV (As := [.int (nI 3), .int (nI 7), .int (nI 11), .int (nI 15)]) (rest := []) (wr := []) cw_X3_42 (hy_X3_mix) g (c_KS_mix C.l C.D a0 3 7 11 15 a0_first a0_x a0_bytes (cc_qr 2 6 10 14 (cc_qr 1 5 9 13 (cc_qr 0 4 8 12 t_a0_x))) (by omega) (by omega) (by omega) (by omega)) dX3_mixAll_39 0 rfl rfl rfl (by decide) (by decide) (Nat.le_of_ble_eq_true rfl) [0, 1] [] rfl rfl (by decide) rfl (by decide) (by decide) _ rfl (fun r wo hp4 => ?_)
  obtain ⟨rfl, rfl⟩ := hp4
  show VJ C 0 0 42 [(0, .ref a0)] [] [(a0, .inr (3, [.ref a0_first, .ref a0_x, .ref a0_bytes])), (a0_x, aW C.D 16 (cc_qr 3 7 11 15 (cc_qr 2 6 10 14 (cc_qr 1 5 9 13 (cc_qr 0 4 8 12 t_a0_x)))))]
  refine v_aload_n g dX3_mixAll_42 0 rfl 0 rfl ?_
  refine v_iconst g dX3_mixAll_43 (v := nI 0) (by decide +kernel) ?_
  refine v_iconst g dX3_mixAll_44 (v := nI 5) (by decide +kernel) ?_
  refine v_bipush g dX3_mixAll_45 (v := nI 10) (by decide +kernel) ?_
  refine v_bipush g dX3_mixAll_47 (v := nI 15) (by decide +kernel) ?_
  refine v_callV (As := [.int (nI 0), .int (nI 5), .int (nI 10), .int (nI 15)]) (rest := []) (wr := []) cw_X3_42 (hy_X3_mix) g (c_KS_mix C.l C.D a0 0 5 10 15 a0_first a0_x a0_bytes (cc_qr 3 7 11 15 (cc_qr 2 6 10 14 (cc_qr 1 5 9 13 (cc_qr 0 4 8 12 t_a0_x)))) (by omega) (by omega) (by omega) (by omega)) dX3_mixAll_49 0 rfl rfl rfl (by decide) (by decide) (Nat.le_of_ble_eq_true rfl) [0, 1] [] rfl rfl (by decide) rfl (by decide) (by decide) _ rfl (fun r wo hp5 => ?_)
  obtain ⟨rfl, rfl⟩ := hp5
  show VJ C 0 0 52 [(0, .ref a0)] [] [(a0, .inr (3, [.ref a0_first, .ref a0_x, .ref a0_bytes])), (a0_x, aW C.D 16 (cc_qr 0 5 10 15 (cc_qr 3 7 11 15 (cc_qr 2 6 10 14 (cc_qr 1 5 9 13 (cc_qr 0 4 8 12 t_a0_x))))))]
  refine v_aload_n g dX3_mixAll_52 0 rfl 0 rfl ?_
  refine v_iconst g dX3_mixAll_53 (v := nI 1) (by decide +kernel) ?_
  refine v_bipush g dX3_mixAll_54 (v := nI 6) (by decide +kernel) ?_
  refine v_bipush g dX3_mixAll_56 (v := nI 11) (by decide +kernel) ?_
  refine v_bipush g dX3_mixAll_58 (v := nI 12) (by decide +kernel) ?_
  refine v_callV (As := [.int (nI 1), .int (nI 6), .int (nI 11), .int (nI 12)]) (rest := []) (wr := []) cw_X3_42 (hy_X3_mix) g (c_KS_mix C.l C.D a0 1 6 11 12 a0_first a0_x a0_bytes (cc_qr 0 5 10 15 (cc_qr 3 7 11 15 (cc_qr 2 6 10 14 (cc_qr 1 5 9 13 (cc_qr 0 4 8 12 t_a0_x))))) (by omega) (by omega) (by omega) (by omega)) dX3_mixAll_60 0 rfl rfl rfl (by decide) (by decide) (Nat.le_of_ble_eq_true rfl) [0, 1] [] rfl rfl (by decide) rfl (by decide) (by decide) _ rfl (fun r wo hp6 => ?_)
  obtain ⟨rfl, rfl⟩ := hp6
  show VJ C 0 0 63 [(0, .ref a0)] [] [(a0, .inr (3, [.ref a0_first, .ref a0_x, .ref a0_bytes])), (a0_x, aW C.D 16 (cc_qr 1 6 11 12 (cc_qr 0 5 10 15 (cc_qr 3 7 11 15 (cc_qr 2 6 10 14 (cc_qr 1 5 9 13 (cc_qr 0 4 8 12 t_a0_x)))))))]
  refine v_aload_n g dX3_mixAll_63 0 rfl 0 rfl ?_
  refine v_iconst g dX3_mixAll_64 (v := nI 2) (by decide +kernel) ?_
  refine v_bipush g dX3_mixAll_65 (v := nI 7) (by decide +kernel) ?_
  refine v_bipush g dX3_mixAll_67 (v := nI 8) (by decide +kernel) ?_
  refine v_bipush g dX3_mixAll_69 (v := nI 13) (by decide +kernel) ?_
  refine v_callV (As := [.int (nI 2), .int (nI 7), .int (nI 8), .int (nI 13)]) (rest := []) (wr := []) cw_X3_42 (hy_X3_mix) g (c_KS_mix C.l C.D a0 2 7 8 13 a0_first a0_x a0_bytes (cc_qr 1 6 11 12 (cc_qr 0 5 10 15 (cc_qr 3 7 11 15 (cc_qr 2 6 10 14 (cc_qr 1 5 9 13 (cc_qr 0 4 8 12 t_a0_x)))))) (by omega) (by omega) (by omega) (by omega)) dX3_mixAll_71 0 rfl rfl rfl (by decide) (by decide) (Nat.le_of_ble_eq_true rfl) [0, 1] [] rfl rfl (by decide) rfl (by decide) (by decide) _ rfl (fun r wo hp7 => ?_)
  obtain ⟨rfl, rfl⟩ := hp7
  show VJ C 0 0 74 [(0, .ref a0)] [] [(a0, .inr (3, [.ref a0_first, .ref a0_x, .ref a0_bytes])), (a0_x, aW C.D 16 (cc_qr 2 7 8 13 (cc_qr 1 6 11 12 (cc_qr 0 5 10 15 (cc_qr 3 7 11 15 (cc_qr 2 6 10 14 (cc_qr 1 5 9 13 (cc_qr 0 4 8 12 t_a0_x))))))))]
  refine v_aload_n g dX3_mixAll_74 0 rfl 0 rfl ?_
  refine v_iconst g dX3_mixAll_75 (v := nI 3) (by decide +kernel) ?_
  refine v_iconst g dX3_mixAll_76 (v := nI 4) (by decide +kernel) ?_
  refine v_bipush g dX3_mixAll_77 (v := nI 9) (by decide +kernel) ?_
  refine v_bipush g dX3_mixAll_79 (v := nI 14) (by decide +kernel) ?_
  refine v_callV (As := [.int (nI 3), .int (nI 4), .int (nI 9), .int (nI 14)]) (rest := []) (wr := []) cw_X3_42 (hy_X3_mix) g (c_KS_mix C.l C.D a0 3 4 9 14 a0_first a0_x a0_bytes (cc_qr 2 7 8 13 (cc_qr 1 6 11 12 (cc_qr 0 5 10 15 (cc_qr 3 7 11 15 (cc_qr 2 6 10 14 (cc_qr 1 5 9 13 (cc_qr 0 4 8 12 t_a0_x))))))) (by omega) (by omega) (by omega) (by omega)) dX3_mixAll_81 0 rfl rfl rfl (by decide) (by decide) (Nat.le_of_ble_eq_true rfl) [0, 1] [] rfl rfl (by decide) rfl (by decide) (by decide) _ rfl (fun r wo hp8 => ?_)
  obtain ⟨rfl, rfl⟩ := hp8
  show VJ C 0 0 84 [(0, .ref a0)] [] [(a0, .inr (3, [.ref a0_first, .ref a0_x, .ref a0_bytes])), (a0_x, aW C.D 16 (cc_qr 3 4 9 14 (cc_qr 2 7 8 13 (cc_qr 1 6 11 12 (cc_qr 0 5 10 15 (cc_qr 3 7 11 15 (cc_qr 2 6 10 14 (cc_qr 1 5 9 13 (cc_qr 0 4 8 12 t_a0_x)))))))))]
  exact v_ret g R dX3_mixAll_84 (by decide) (by decide) ⟨rfl, rfl⟩
set_option maxHeartbeats 4000000 in
set_option maxRecDepth 100000 in
theorem c_KS_make (l : Launch) (D : va_G) (a0 : Nat) (a1 : Nat) (a2 : Nat) (p3 : Wd) (a0_first : Nat) (a0_x : Nat) (a0_bytes : Nat) (t_a0_first : Nat → Wd) (t_a0_x : Nat → Wd) (t_a0_bytes : Nat → By) (n1 : Nat) (t_a1 : Nat → By) (n2 : Nat) (t_a2 : Nat → By)  (h1 : 32 ≤ n1) (h2 : 12 ≤ n2) (g1 : n1 < 2 ^ 31) (g2 : n2 < 2 ^ 31) : vM l D yX3_make cX3_make 5 none { frames := 3, cells := 0, slots := 0, locals := 65 } [.ref a0, .ref a1, .ref a2, .int (wI p3)] [(a0, .inr (3, [.ref a0_first, .ref a0_x, .ref a0_bytes])), (a0_first, aW D 16 t_a0_first), (a0_x, aW D 16 t_a0_x), (a0_bytes, aB D 64 t_a0_bytes), (a1, aB D n1 t_a1), (a2, aB D n2 t_a2)] (fun r wo => ∃ (tf : Nat → Wd) (tx : Nat → Wd) (tb : Nat → By), r = none ∧ wo = [(a0, .inr (3, [.ref a0_first, .ref a0_x, .ref a0_bytes])), (a0_first, aW D 16 tf), (a0_x, aW D 16 tx), (a0_bytes, aB D 64 tb), (a1, aB D n1 t_a1), (a2, aB D n2 t_a2)] ∧ (∀ j, j < 64 → tb j = ccF t_a1 t_a2 p3 j)) := by
  refine vM.of (by decide) (Nat.le_of_ble_eq_true rfl) (fun C hCl hCD g R => ?_)
  subst hCl; subst hCD
  show VJ C 0 0 0 [(0, .ref a0), (1, .ref a1), (2, .ref a2), (3, .int (wI p3))] [] [(a0, .inr (3, [.ref a0_first, .ref a0_x, .ref a0_bytes])), (a0_first, aW C.D 16 t_a0_first), (a0_x, aW C.D 16 t_a0_x), (a0_bytes, aB C.D 64 t_a0_bytes), (a1, aB C.D n1 t_a1), (a2, aB C.D n2 t_a2)]
  refine v_gets g g.g2 sl_X3_20 dX3_make_0 ?_
  refine v_iconst g dX3_make_3 (v := nI 0) (by decide +kernel) ?_
  refine v_aload_n g dX3_make_4 0 rfl 0 rfl ?_
  refine gf_X3_7 g dX3_make_5 0 rfl rfl ?_
  refine v_iconst g dX3_make_8 (v := nI 0) (by decide +kernel) ?_
  refine v_iconst g dX3_make_9 (v := nI 4) (by decide +kernel) ?_
  obtain ⟨t1, ht1⟩ : ∃ z : Nat → Wd, z = va_cpy cc_o t_a0_first 0 0 4 := ⟨_, rfl⟩
  refine v_acpT g ac_X3_23 g.g2.2 t1 ht1 1 [(a0, .inr (3, [.ref a0_first, .ref a0_x, .ref a0_bytes])), (a0_first, aW C.D 16 t1), (a0_x, aW C.D 16 t_a0_x), (a0_bytes, aB C.D 64 t_a0_bytes), (a1, aB C.D n1 t_a1), (a2, aB C.D n2 t_a2)] rfl (by omega) (by omega) (by omega) (by decide) (Nat.le_of_ble_eq_true rfl) dX3_make_10 rfl ?_
  refine v_iconst g dX3_make_13 (v := nI 0) (by decide +kernel) ?_
  refine v_istore g [(4, .int (nI 0)), (0, .ref a0), (1, .ref a1), (2, .ref a2), (3, .int (wI p3))] dX3_make_14 (by decide) rfl ?_
  have z0 : ∀ j, j < 4 + 0 → t1 j = cc_x0 t_a1 t_a2 p3 j := fun j hj => by rw [ht1, pk_cpy_in (by omega) (by omega), cc_x0_o _ _ _ (by omega), Nat.zero_add, Nat.sub_zero]
  have L16_1 : ∀ i : Nat, i ≤ 8 → ∀ (f1 : Nat → Wd), (∀ j, j < 4 + i → f1 j = cc_x0 t_a1 t_a2 p3 j) → VJ C 0 0 16 [(4, .int (nI i)), (0, .ref a0), (1, .ref a1), (2, .ref a2), (3, .int (wI p3))] [] [(a0, .inr (3, [.ref a0_first, .ref a0_x, .ref a0_bytes])), (a0_first, aW C.D 16 f1), (a0_x, aW C.D 16 t_a0_x), (a0_bytes, aB C.D 64 t_a0_bytes), (a1, aB C.D n1 t_a1), (a2, aB C.D n2 t_a2)] := by
    refine v_for (8) ?_ ?_
    · skip
      intro i hii ih f1 hv0
      refine v_iload g dX3_make_16 0 rfl ?_
      refine v_bipush g dX3_make_18 (v := nI 8) (by decide +kernel) ?_
      refine v_icmp_geN g 46 dX3_make_20 (by decide) (by omega) (by omega) (fun h2 => ?_) (fun h2 => ?_)
      · skip
        exact absurd h2 (by omega)
      · skip
        refine v_aload_n g dX3_make_23 0 rfl 1 rfl ?_
        refine gf_X3_7 g dX3_make_24 0 rfl rfl ?_
        refine v_iconst g dX3_make_27 (v := nI 4) (by decide +kernel) ?_
        refine v_iload g dX3_make_28 0 rfl ?_
        refine v_iaddN g dX3_make_30 ?_
        refine v_aload_n g dX3_make_31 1 rfl 2 rfl ?_
        refine v_iconst g dX3_make_32 (v := nI 4) (by decide +kernel) ?_
        refine v_iload g dX3_make_33 0 rfl ?_
        refine v_imulN g dX3_make_35 ?_
        refine v_callSN (As := [.ref a1, .int (nI (4 * i))]) (rest := [.int (nI (4 + i)), .ref a0_first]) (wr := [(a0, .inr (3, [.ref a0_first, .ref a0_x, .ref a0_bytes])), (a0_first, aW C.D 16 f1), (a0_x, aW C.D 16 t_a0_x), (a0_bytes, aB C.D 64 t_a0_bytes), (a2, aB C.D n2 t_a2)]) cw_X3_29 cl_X3_29 (hy_X7_readWord) g (c_readWord C.l C.D a1 (4 * i) n1 t_a1 (by omega) (by omega)) dX3_make_36 rfl (by decide) (by decide) (Nat.le_of_ble_eq_true rfl) [4] [0, 1, 2, 3, 5] rfl rfl (by decide) rfl (by decide) (by decide) _ rfl (fun r wo hp3 => ?_)
        obtain ⟨rfl, rfl⟩ := hp3
        refine v_perm [0, 1, 2, 3, 5, 4] [(a0, .inr (3, [.ref a0_first, .ref a0_x, .ref a0_bytes])), (a0_first, aW C.D 16 f1), (a0_x, aW C.D 16 t_a0_x), (a0_bytes, aB C.D 64 t_a0_bytes), (a1, aB C.D n1 t_a1), (a2, aB C.D n2 t_a2)] (by decide) rfl rfl ?_
        show VJ C 0 0 39 [(4, .int (nI i)), (0, .ref a0), (1, .ref a1), (2, .ref a2), (3, .int (wI p3))] [.int (wI (le4 t_a1 (4 * i))), .int (nI (4 + i)), .ref a0_first] [(a0, .inr (3, [.ref a0_first, .ref a0_x, .ref a0_bytes])), (a0_first, aW C.D 16 f1), (a0_x, aW C.D 16 t_a0_x), (a0_bytes, aB C.D 64 t_a0_bytes), (a1, aB C.D n1 t_a1), (a2, aB C.D n2 t_a2)]
        obtain ⟨t4, ht4⟩ : ∃ z : Nat → Wd, z = va_up f1 (4 + i) (le4 t_a1 (4 * i)) := ⟨_, rfl⟩
        refine v_iastW g (le4 t_a1 (4 * i)) rfl t4 ht4 1 [(a0, .inr (3, [.ref a0_first, .ref a0_x, .ref a0_bytes])), (a0_first, aW C.D 16 t4), (a0_x, aW C.D 16 t_a0_x), (a0_bytes, aB C.D 64 t_a0_bytes), (a1, aB C.D n1 t_a1), (a2, aB C.D n2 t_a2)] rfl (by omega) (by decide) dX3_make_39 rfl ?_
        refine v_iincN g 1 [(4, .int (nI (i + 1))), (0, .ref a0), (1, .ref a1), (2, .ref a2), (3, .int (wI p3))] dX3_make_40 0 rfl (by decide +kernel) (by decide) rfl ?_
        refine v_goto g 16 dX3_make_43 (by decide) ?_
        exact ih t4 (up_lt hv0 (cc_x0_k _ _ _ hii) ht4)
    · skip
      intro f1 hv0
      refine v_iload g dX3_make_16 0 rfl ?_
      refine v_bipush g dX3_make_18 (v := nI 8) (by decide +kernel) ?_
      refine v_icmp_geN g 46 dX3_make_20 (by decide) (by omega) (by omega) (fun h5 => ?_) (fun h5 => ?_)
      · skip
        refine v_aload_n g dX3_make_46 0 rfl 1 rfl ?_
        refine gf_X3_7 g dX3_make_47 0 rfl rfl ?_
        refine v_bipush g dX3_make_50 (v := nI 12) (by decide +kernel) ?_
        refine v_iload_n g dX3_make_52 3 rfl 4 rfl ?_
        obtain ⟨t6, ht6⟩ : ∃ z : Nat → Wd, z = va_up f1 12 p3 := ⟨_, rfl⟩
        refine v_iastW g (p3) rfl t6 ht6 1 [(a0, .inr (3, [.ref a0_first, .ref a0_x, .ref a0_bytes])), (a0_first, aW C.D 16 t6), (a0_x, aW C.D 16 t_a0_x), (a0_bytes, aB C.D 64 t_a0_bytes), (a1, aB C.D n1 t_a1), (a2, aB C.D n2 t_a2)] rfl (by decide) (by decide) dX3_make_53 rfl ?_
        refine v_iconst g dX3_make_54 (v := nI 0) (by decide +kernel) ?_
        refine v_istore g [(4, .int (nI 0)), (0, .ref a0), (1, .ref a1), (2, .ref a2), (3, .int (wI p3))] dX3_make_55 (by decide) rfl ?_
        have z1 : ∀ j, j < 13 + 0 → t6 j = cc_x0 t_a1 t_a2 p3 j := up_lt hv0 (cc_x0_c _ _ _) ht6
        have L57_6 : ∀ i : Nat, i ≤ 3 → ∀ (f2 : Nat → Wd), (∀ j, j < 13 + i → f2 j = cc_x0 t_a1 t_a2 p3 j) → VJ C 0 0 57 [(4, .int (nI i)), (0, .ref a0), (1, .ref a1), (2, .ref a2), (3, .int (wI p3))] [] [(a0, .inr (3, [.ref a0_first, .ref a0_x, .ref a0_bytes])), (a0_first, aW C.D 16 f2), (a0_x, aW C.D 16 t_a0_x), (a0_bytes, aB C.D 64 t_a0_bytes), (a1, aB C.D n1 t_a1), (a2, aB C.D n2 t_a2)] := by
          refine v_for (3) ?_ ?_
          · skip
            intro i hii ih f2 hv0
            refine v_iload g dX3_make_57 0 rfl ?_
            refine v_iconst g dX3_make_59 (v := nI 3) (by decide +kernel) ?_
            refine v_icmp_geN g 87 dX3_make_60 (by decide) (by omega) (by omega) (fun h7 => ?_) (fun h7 => ?_)
            · skip
              exact absurd h7 (by omega)
            · skip
              refine v_aload_n g dX3_make_63 0 rfl 1 rfl ?_
              refine gf_X3_7 g dX3_make_64 0 rfl rfl ?_
              refine v_bipush g dX3_make_67 (v := nI 13) (by decide +kernel) ?_
              refine v_iload g dX3_make_69 0 rfl ?_
              refine v_iaddN g dX3_make_71 ?_
              refine v_aload_n g dX3_make_72 2 rfl 3 rfl ?_
              refine v_iconst g dX3_make_73 (v := nI 4) (by decide +kernel) ?_
              refine v_iload g dX3_make_74 0 rfl ?_
              refine v_imulN g dX3_make_76 ?_
              refine v_callSN (As := [.ref a2, .int (nI (4 * i))]) (rest := [.int (nI (13 + i)), .ref a0_first]) (wr := [(a0, .inr (3, [.ref a0_first, .ref a0_x, .ref a0_bytes])), (a0_first, aW C.D 16 f2), (a0_x, aW C.D 16 t_a0_x), (a0_bytes, aB C.D 64 t_a0_bytes), (a1, aB C.D n1 t_a1)]) cw_X3_29 cl_X3_29 (hy_X7_readWord) g (c_readWord C.l C.D a2 (4 * i) n2 t_a2 (by omega) (by omega)) dX3_make_77 rfl (by decide) (by decide) (Nat.le_of_ble_eq_true rfl) [5] [0, 1, 2, 3, 4] rfl rfl (by decide) rfl (by decide) (by decide) _ rfl (fun r wo hp8 => ?_)
              obtain ⟨rfl, rfl⟩ := hp8
              show VJ C 0 0 80 [(4, .int (nI i)), (0, .ref a0), (1, .ref a1), (2, .ref a2), (3, .int (wI p3))] [.int (wI (le4 t_a2 (4 * i))), .int (nI (13 + i)), .ref a0_first] [(a0, .inr (3, [.ref a0_first, .ref a0_x, .ref a0_bytes])), (a0_first, aW C.D 16 f2), (a0_x, aW C.D 16 t_a0_x), (a0_bytes, aB C.D 64 t_a0_bytes), (a1, aB C.D n1 t_a1), (a2, aB C.D n2 t_a2)]
              obtain ⟨t9, ht9⟩ : ∃ z : Nat → Wd, z = va_up f2 (13 + i) (le4 t_a2 (4 * i)) := ⟨_, rfl⟩
              refine v_iastW g (le4 t_a2 (4 * i)) rfl t9 ht9 1 [(a0, .inr (3, [.ref a0_first, .ref a0_x, .ref a0_bytes])), (a0_first, aW C.D 16 t9), (a0_x, aW C.D 16 t_a0_x), (a0_bytes, aB C.D 64 t_a0_bytes), (a1, aB C.D n1 t_a1), (a2, aB C.D n2 t_a2)] rfl (by omega) (by decide) dX3_make_80 rfl ?_
              refine v_iincN g 1 [(4, .int (nI (i + 1))), (0, .ref a0), (1, .ref a1), (2, .ref a2), (3, .int (wI p3))] dX3_make_81 0 rfl (by decide +kernel) (by decide) rfl ?_
              refine v_goto g 57 dX3_make_84 (by decide) ?_
              exact ih t9 (up_lt hv0 (cc_x0_n _ _ _ hii) ht9)
          · skip
            intro f2 hv0
            refine v_iload g dX3_make_57 0 rfl ?_
            refine v_iconst g dX3_make_59 (v := nI 3) (by decide +kernel) ?_
            refine v_icmp_geN g 87 dX3_make_60 (by decide) (by omega) (by omega) (fun h10 => ?_) (fun h10 => ?_)
            · skip
              have zf : ∀ j, j < 16 → f2 j = cc_x0 t_a1 t_a2 p3 j := hv0
              refine v_aload_n g dX3_make_87 0 rfl 1 rfl ?_
              refine gf_X3_7 g dX3_make_88 0 rfl rfl ?_
              refine v_iconst g dX3_make_91 (v := nI 0) (by decide +kernel) ?_
              refine v_aload_n g dX3_make_92 0 rfl 1 rfl ?_
              refine gf_X3_13 g dX3_make_93 0 rfl rfl ?_
              refine v_iconst g dX3_make_96 (v := nI 0) (by decide +kernel) ?_
              refine v_bipush g dX3_make_97 (v := nI 16) (by decide +kernel) ?_
              obtain ⟨t11, ht11⟩ : ∃ z : Nat → Wd, z = va_cpy f2 t_a0_x 0 0 16 := ⟨_, rfl⟩
              refine v_acpW g ac_X3_23 t11 ht11 1 2 [(a0, .inr (3, [.ref a0_first, .ref a0_x, .ref a0_bytes])), (a0_first, aW C.D 16 f2), (a0_x, aW C.D 16 t11), (a0_bytes, aB C.D 64 t_a0_bytes), (a1, aB C.D n1 t_a1), (a2, aB C.D n2 t_a2)] rfl rfl (by omega) (by omega) (by omega) (by omega) (by decide) (Nat.le_of_ble_eq_true rfl) dX3_make_99 rfl ?_
              refine v_iconst g dX3_make_102 (v := nI 0) (by decide +kernel) ?_
              refine v_istore g [(4, .int (nI 0)), (0, .ref a0), (1, .ref a1), (2, .ref a2), (3, .int (wI p3))] dX3_make_103 (by decide) rfl ?_
              have zx : ∀ j, j < 16 → t11 j = cc_it (cc_x0 t_a1 t_a2 p3) 0 j := fun j hj => by rw [ht11, pk_cpy_in (by omega) (by omega), Nat.zero_add, Nat.sub_zero]; exact zf j hj
              have L105_11 : ∀ i : Nat, i ≤ 10 → ∀ (x3 : Nat → Wd), (∀ j, j < 16 → x3 j = cc_it (cc_x0 t_a1 t_a2 p3) i j) → VJ C 0 0 105 [(4, .int (nI i)), (0, .ref a0), (1, .ref a1), (2, .ref a2), (3, .int (wI p3))] [] [(a0, .inr (3, [.ref a0_first, .ref a0_x, .ref a0_bytes])), (a0_first, aW C.D 16 f2), (a0_x, aW C.D 16 x3), (a0_bytes, aB C.D 64 t_a0_bytes), (a1, aB C.D n1 t_a1), (a2, aB C.D n2 t_a2)] := by
                refine v_for (10) ?_ ?_
                · skip
                  intro i hii ih x3 hv0
                  refine v_iload g dX3_make_105 0 rfl ?_
                  refine v_bipush g dX3_make_107 (v := nI 10) (by decide +kernel) ?_
                  refine v_icmp_geN g 122 dX3_make_109 (by decide) (by omega) (by omega) (fun h12 => ?_) (fun h12 => ?_)
                  · skip
                    exact absurd h12 (by omega)
                  · skip
                    refine v_aload_n g dX3_make_112 0 rfl 1 rfl ?_
                    refine v_callV (As := []) (rest := []) (wr := [(a0_first, aW C.D 16 f2), (a0_bytes, aB C.D 64 t_a0_bytes), (a1, aB C.D n1 t_a1), (a2, aB C.D n2 t_a2)]) cw_X3_35 (hy_X3_mixAll) g (c_KS_mixAll C.l C.D a0 a0_first a0_x a0_bytes x3 ) dX3_make_113 0 rfl rfl rfl (by decide) (by decide) (Nat.le_of_ble_eq_true rfl) [0, 2] [1, 3, 4, 5] rfl rfl (by decide) rfl (by decide) (by decide) _ rfl (fun r wo hp13 => ?_)
                    obtain ⟨rfl, rfl⟩ := hp13
                    refine v_perm [4, 0, 5, 1, 2, 3] [(a0, .inr (3, [.ref a0_first, .ref a0_x, .ref a0_bytes])), (a0_first, aW C.D 16 f2), (a0_x, aW C.D 16 (cc_r1 (cc_r0 x3))), (a0_bytes, aB C.D 64 t_a0_bytes), (a1, aB C.D n1 t_a1), (a2, aB C.D n2 t_a2)] (by decide) rfl rfl ?_
                    show VJ C 0 0 116 [(4, .int (nI i)), (0, .ref a0), (1, .ref a1), (2, .ref a2), (3, .int (wI p3))] [] [(a0, .inr (3, [.ref a0_first, .ref a0_x, .ref a0_bytes])), (a0_first, aW C.D 16 f2), (a0_x, aW C.D 16 (cc_r1 (cc_r0 x3))), (a0_bytes, aB C.D 64 t_a0_bytes), (a1, aB C.D n1 t_a1), (a2, aB C.D n2 t_a2)]
                    refine v_iincN g 1 [(4, .int (nI (i + 1))), (0, .ref a0), (1, .ref a1), (2, .ref a2), (3, .int (wI p3))] dX3_make_116 0 rfl (by decide +kernel) (by decide) rfl ?_
                    refine v_goto g 105 dX3_make_119 (by decide) ?_
                    exact ih (cc_r1 (cc_r0 x3)) (cc_r1_congr (cc_r0_congr hv0))
                · skip
                  intro x3 hv0
                  refine v_iload g dX3_make_105 0 rfl ?_
                  refine v_bipush g dX3_make_107 (v := nI 10) (by decide +kernel) ?_
                  refine v_icmp_geN g 122 dX3_make_109 (by decide) (by omega) (by omega) (fun h14 => ?_) (fun h14 => ?_)
                  · skip
                    have zt : ∀ j, j < 16 → x3 j = cc_it (cc_x0 t_a1 t_a2 p3) 10 j := hv0
                    refine v_iconst g dX3_make_122 (v := nI 0) (by decide +kernel) ?_
                    refine v_istore g [(4, .int (nI 0)), (0, .ref a0), (1, .ref a1), (2, .ref a2), (3, .int (wI p3))] dX3_make_123 (by decide) rfl ?_
                    have L125_14 : ∀ i : Nat, i ≤ 16 → ∀ (b4 : Nat → By), (∀ j, j < 4 * i → b4 j = ccF t_a1 t_a2 p3 j) → VJ C 0 0 125 [(4, .int (nI i)), (0, .ref a0), (1, .ref a1), (2, .ref a2), (3, .int (wI p3))] [] [(a0, .inr (3, [.ref a0_first, .ref a0_x, .ref a0_bytes])), (a0_first, aW C.D 16 f2), (a0_x, aW C.D 16 x3), (a0_bytes, aB C.D 64 b4), (a1, aB C.D n1 t_a1), (a2, aB C.D n2 t_a2)] := by
                      refine v_for (16) ?_ ?_
                      · skip
                        intro i hii ih b4 hv0
                        refine v_iload g dX3_make_125 0 rfl ?_
                        refine v_bipush g dX3_make_127 (v := nI 16) (by decide +kernel) ?_
                        refine v_icmp_geN g 166 dX3_make_129 (by decide) (by omega) (by omega) (fun h15 => ?_) (fun h15 => ?_)
                        · skip
                          exact absurd h15 (by omega)
                        · skip
                          refine v_aload_n g dX3_make_132 0 rfl 1 rfl ?_
                          refine gf_X3_16 g dX3_make_133 0 rfl rfl ?_
                          refine v_iconst g dX3_make_136 (v := nI 4) (by decide +kernel) ?_
                          refine v_iload g dX3_make_137 0 rfl ?_
                          refine v_imulN g dX3_make_139 ?_
                          refine v_iconst g dX3_make_140 (v := nI 4) (by decide +kernel) ?_
                          refine v_aload_n g dX3_make_141 0 rfl 1 rfl ?_
                          refine gf_X3_13 g dX3_make_142 0 rfl rfl ?_
                          refine v_iload g dX3_make_145 0 rfl ?_
                          refine v_ialdW g 2 rfl (by omega) (by decide) dX3_make_147 ?_
                          refine v_aload_n g dX3_make_148 0 rfl 1 rfl ?_
                          refine gf_X3_7 g dX3_make_149 0 rfl rfl ?_
                          refine v_iload g dX3_make_152 0 rfl ?_
                          refine v_ialdW g 1 rfl (by omega) (by decide) dX3_make_154 ?_
                          refine v_iaddW g (x3 i) (f2 i) rfl rfl dX3_make_155 ?_
                          refine v_i2lW g ((x3 i) + (f2 i)) rfl dX3_make_156 ?_
                          refine v_callSN (As := [.ref a0_bytes, .int (nI (4 * i)), .int (nI 4), .long (xL (((x3 i) + (f2 i)).signExtend 64))]) (rest := []) (wr := [(a0, .inr (3, [.ref a0_first, .ref a0_x, .ref a0_bytes])), (a0_first, aW C.D 16 f2), (a0_x, aW C.D 16 x3), (a1, aB C.D n1 t_a1), (a2, aB C.D n2 t_a2)]) cw_X3_38 cl_X3_38 (hy_X7_writeBytes) g (c_writeBytes C.l C.D a0_bytes (4 * i) 4 (((x3 i) + (f2 i)).signExtend 64) 64 b4 (by omega) (by omega) (by omega)) dX3_make_157 rfl (by decide) (by decide) (Nat.le_of_ble_eq_true rfl) [3] [0, 1, 2, 4, 5] rfl rfl (by decide) rfl (by decide) (by decide) _ rfl (fun r wo hp16 => ?_)
                          obtain ⟨rfl, rfl⟩ := hp16
                          refine v_perm [0, 1, 2, 5, 3, 4] [(a0, .inr (3, [.ref a0_first, .ref a0_x, .ref a0_bytes])), (a0_first, aW C.D 16 f2), (a0_x, aW C.D 16 x3), (a0_bytes, aB C.D 64 (wb b4 (4 * i) 4 (((x3 i) + (f2 i)).signExtend 64))), (a1, aB C.D n1 t_a1), (a2, aB C.D n2 t_a2)] (by decide) rfl rfl ?_
                          show VJ C 0 0 160 [(4, .int (nI i)), (0, .ref a0), (1, .ref a1), (2, .ref a2), (3, .int (wI p3))] [] [(a0, .inr (3, [.ref a0_first, .ref a0_x, .ref a0_bytes])), (a0_first, aW C.D 16 f2), (a0_x, aW C.D 16 x3), (a0_bytes, aB C.D 64 (wb b4 (4 * i) 4 (((x3 i) + (f2 i)).signExtend 64))), (a1, aB C.D n1 t_a1), (a2, aB C.D n2 t_a2)]
                          refine v_iincN g 1 [(4, .int (nI (i + 1))), (0, .ref a0), (1, .ref a1), (2, .ref a2), (3, .int (wI p3))] dX3_make_160 0 rfl (by decide +kernel) (by decide) rfl ?_
                          refine v_goto g 125 dX3_make_163 (by decide) ?_
                          exact ih (wb b4 (4 * i) 4 (((x3 i) + (f2 i)).signExtend 64)) (cc_bytes hii zf zt hv0 rfl)
                      · skip
                        intro b4 hv0
                        refine v_iload g dX3_make_125 0 rfl ?_
                        refine v_bipush g dX3_make_127 (v := nI 16) (by decide +kernel) ?_
                        refine v_icmp_geN g 166 dX3_make_129 (by decide) (by omega) (by omega) (fun h17 => ?_) (fun h17 => ?_)
                        · skip
                          exact v_ret g R dX3_make_166 (by decide) (by decide) ⟨f2, x3, b4, rfl, rfl, hv0⟩
                        · skip
                          exact absurd h17 (by omega)
                    exact L125_14 0 (by omega) t_a0_bytes (fun j hj => absurd hj (by omega))
                  · skip
                    exact absurd h14 (by omega)
              exact L105_11 0 (by omega) t11 zx
            · skip
              exact absurd h10 (by omega)
        exact L57_6 0 (by omega) t6 z1
      · skip
        exact absurd h5 (by omega)
  exact L16_1 0 (by omega) t1 z0
