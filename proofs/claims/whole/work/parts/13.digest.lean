/-! Digester -/
def cz (t : Nat → By) (a b : Nat) : Nat → By := fun j => if a ≤ j ∧ j < b then 0#8 else t j
def cat (m : Nat → By) (len : Nat) (r : Nat → By) : Nat → By := fun j => if j < len then m j else r (j - len)
/-- what a digester holds that has got the len bytes m -/
def dgR (m : Nat → By) (len : Nat) (sm : Nat → Wd) (pd : Nat → By) : Prop := (∀ j, j < 8 → sm j = sh_H m (len / 64) j) ∧ (∀ j, j < len % 64 → pd j = m (64 * (len / 64) + j))
theorem dgR_0 (m : Nat → By) (sm : Nat → Wd) (pd : Nat → By) (h : ∀ j, j < 8 → sm j = shI j) : dgR m 0 sm pd := ⟨h, fun j hj => absurd hj (by omega)⟩
theorem dgR_congr {m m' : Nat → By} {len : Nat} {sm : Nat → Wd} {pd : Nat → By} (h : ∀ j, j < len → m j = m' j) (hR : dgR m len sm pd) : dgR m' len sm pd :=
  ⟨fun j hj => (hR.1 j hj).trans (sh_H_congr _ (fun q hq => h q (by omega)) j hj), fun j hj => (hR.2 j hj).trans (h _ (by omega))⟩
theorem dgR_s1 {m : Nat → By} {L : Nat} {sm : Nat → Wd} {pd pd' : Nat → By} {v : By} (hR : dgR m L sm pd) (hv : v = m L) (h : pd' = va_up pd (L % 64) v) (hne : L % 64 + 1 ≠ 64) : dgR m (L + 1) sm pd' := by
  have e1 : (L + 1) / 64 = L / 64 := by omega
  have e2 : (L + 1) % 64 = L % 64 + 1 := by omega
  refine ⟨fun j hj => by rw [e1]; exact hR.1 j hj, fun j hj => ?_⟩
  rw [e1, h]
  unfold va_up
  by_cases e : j = L % 64
  · rw [if_pos e, hv]; congr 1; omega
  · rw [if_neg e]; exact hR.2 j (by omega)
theorem dgR_s2 {m : Nat → By} {L : Nat} {sm sm' : Nat → Wd} {pd pd' : Nat → By} {v : By} (hR : dgR m L sm pd) (hv : v = m L) (h : pd' = va_up pd (L % 64) v) (he : L % 64 + 1 = 64) (hs : ∀ j, j < 8 → sm' j = sh_c sm pd' j) : dgR m (L + 1) sm' pd' := by
  have e1 : (L + 1) / 64 = L / 64 + 1 := by omega
  refine ⟨fun j hj => ?_, fun j hj => absurd hj (by omega)⟩
  rw [e1, hs j hj]
  simp only [sh_H]
  refine sh_c_congr hR.1 (fun q hq => ?_) j hj
  rw [h]
  unfold va_up
  by_cases e : q = L % 64
  · rw [if_pos e, hv]; congr 1; omega
  · rw [if_neg e]; exact hR.2 q (by omega)
theorem xb_byte (a : By) (x : Wd) : (a.signExtend 32 ^^^ x).setWidth 8 = a ^^^ x.setWidth 8 := by
  ext i hi
  simp only [BitVec.getElem_setWidth, BitVec.getLsbD_xor, BitVec.getElem_xor]
  rw [BitVec.getLsbD_signExtend]
  have h1 : i < 32 := by omega
  simp [h1, hi]
theorem cat_at (m : Nat → By) (len : Nat) (r : Nat → By) (i : Nat) : r i = cat m len r (len + i) := by
  unfold cat; rw [if_neg (by omega), show len + i - len = i by omega]
theorem cat_lo (m : Nat → By) (len : Nat) (r : Nat → By) {j : Nat} (h : j < len) : cat m len r j = m j := by
  unfold cat; rw [if_pos h]
theorem sh_pws {b : Nat → By} {t0 tw t' : Nat → Wd} {i : Nat} (hi : i < 64) (hv : ∀ q, q < 16 → tw q = sh_pw (t0 q) b q (min 4 (i - 4 * q))) (ht : t' = va_up tw (i / 2 ^ 2) (tw (i / 2 ^ 2) <<< 8 ||| (b i).setWidth 32)) : ∀ q, q < 16 → t' q = sh_pw (t0 q) b q (min 4 (i + 1 - 4 * q)) := by
  intro q hq
  rw [ht, show i / 2 ^ 2 = i / 4 from rfl]
  unfold va_up
  by_cases e : q = i / 4
  · rw [if_pos e, ← e, hv q hq]
    have e1 : min 4 (i + 1 - 4 * q) = min 4 (i - 4 * q) + 1 := by omega
    have e2 : 4 * q + min 4 (i - 4 * q) = i := by omega
    rw [e1]
    simp only [sh_pw]
    rw [e2]
  · rw [if_neg e, hv q hq]
    have e1 : min 4 (i + 1 - 4 * q) = min 4 (i - 4 * q) := by omega
    rw [e1]
theorem shw_step {b : Nat → By} {tw t' : Nat → Wd} {i : Nat} (hv : ∀ q, q < 16 + i → tw q = sh_w b i q) (ht : t' = va_up tw (16 + i) (tw (16 + i - 16) + (rotr (tw (16 + i - 15)) 7 ^^^ rotr (tw (16 + i - 15)) 18 ^^^ tw (16 + i - 15) >>> 3) + tw (16 + i - 7) + (rotr (tw (16 + i - 2)) 17 ^^^ rotr (tw (16 + i - 2)) 19 ^^^ tw (16 + i - 2) >>> 10))) : ∀ q, q < 16 + (i + 1) → t' q = sh_w b (i + 1) q := by
  intro q hq
  rw [ht, show 16 + i - 16 = i by omega, show 16 + i - 15 = i + 1 by omega, show 16 + i - 7 = i + 9 by omega, show 16 + i - 2 = i + 14 by omega]
  unfold va_up
  by_cases e : q = 16 + i
  · rw [if_pos e, e, sh_w_new, hv i (by omega), hv (i + 1) (by omega), hv (i + 9) (by omega), hv (i + 14) (by omega)]
    rfl
  · rw [if_neg e, sh_w_keep b i q e]; exact hv q (by omega)
theorem cz_s (t : Nat → By) (a i : Nat) : va_up (cz t a (a + i)) (a + i) 0#8 = cz t a (a + (i + 1)) := by
  funext j
  unfold va_up cz
  by_cases e : j = a + i
  · rw [if_pos e, if_pos (by omega)]
  · rw [if_neg e]
    by_cases h : a ≤ j ∧ j < a + i
    · rw [if_pos h, if_pos (by omega)]
    · rw [if_neg h, if_neg (by omega)]
theorem cz_n (t : Nat → By) {a b : Nat} (h : b ≤ a) : cz t a b = t := by
  funext j; unfold cz; rw [if_neg (by omega)]
/-- the last block, where the length fits behind the 128 -/
theorem fin_A {m pd p4 : Nat → By} {len : Nat} (hp : ∀ j, j < len % 64 → pd j = m (64 * (len / 64) + j)) (hA : len % 64 + 1 ≤ 56)
    (h4 : ∀ j, j < 56 → p4 j = cz (va_up pd (len % 64) 128#8) (len % 64 + 1) 56 j) (h8 : ∀ i, i < 8 → p4 (63 - i) = BitVec.ofNat 8 (8 * len / 2 ^ (8 * i))) : ∀ j, j < 64 → p4 j = sh_pad m len (64 * (len / 64) + j) := by
  intro j hj
  have eq : (len + 8) / 64 = len / 64 := by omega
  unfold sh_pad
  rw [eq]
  by_cases h1 : j < 56
  · rw [h4 j h1]
    unfold cz va_up
    by_cases h2 : j < len % 64
    · rw [if_neg (by omega), if_neg (by omega), if_pos (by omega)]; exact hp j h2
    · by_cases h3 : j = len % 64
      · rw [if_neg (by omega), if_pos h3, if_neg (by omega), if_pos (by omega)]
      · rw [if_pos (by omega), if_neg (by omega), if_neg (by omega), if_neg (by omega)]
  · rw [if_neg (by omega), if_neg (by omega), if_pos (by omega)]
    have e := h8 (63 - j) (by omega)
    rw [show 63 - (63 - j) = j by omega] at e
    rw [e]
    congr 4
    omega
theorem fin_B1 {m pd p2 : Nat → By} {len : Nat} (hp : ∀ j, j < len % 64 → pd j = m (64 * (len / 64) + j)) (hB : 56 < len % 64 + 1)
    (h2 : p2 = cz (va_up pd (len % 64) 128#8) (len % 64 + 1) 64) : ∀ j, j < 64 → p2 j = sh_pad m len (64 * (len / 64) + j) := by
  intro j hj
  have eq : (len + 8) / 64 = len / 64 + 1 := by omega
  unfold sh_pad
  rw [eq, h2]
  unfold cz va_up
  by_cases h2 : j < len % 64
  · rw [if_neg (by omega), if_neg (by omega), if_pos (by omega)]; exact hp j h2
  · by_cases h3 : j = len % 64
    · rw [if_neg (by omega), if_pos h3, if_neg (by omega), if_pos (by omega)]
    · rw [if_pos (by omega), if_neg (by omega), if_neg (by omega), if_neg (by omega)]
theorem fin_B2 {m p2 p4 : Nat → By} {len : Nat} (hB : 56 < len % 64 + 1)
    (h4 : ∀ j, j < 56 → p4 j = cz p2 0 56 j) (h8 : ∀ i, i < 8 → p4 (63 - i) = BitVec.ofNat 8 (8 * len / 2 ^ (8 * i))) : ∀ j, j < 64 → p4 j = sh_pad m len (64 * (len / 64 + 1) + j) := by
  intro j hj
  have eq : (len + 8) / 64 = len / 64 + 1 := by omega
  unfold sh_pad
  rw [eq]
  by_cases h1 : j < 56
  · rw [h4 j h1]
    unfold cz
    rw [if_pos (by omega), if_neg (by omega), if_neg (by omega), if_neg (by omega)]
  · rw [if_neg (by omega), if_neg (by omega), if_pos (by omega)]
    have e := h8 (63 - j) (by omega)
    rw [show 63 - (63 - j) = j by omega] at e
    rw [e]
    congr 4
    omega
theorem fin_H {m : Nat → By} {len : Nat} {sm : Nat → Wd} (h : ∀ j, j < 8 → sm j = sh_H m (len / 64) j) : ∀ j, j < 8 → sm j = sh_H (sh_pad m len) (len / 64) j := by
  intro j hj
  rw [h j hj]
  exact sh_H_congr _ (fun q hq => by unfold sh_pad; rw [if_pos (by omega)]) j hj
theorem fin_next {pm p4 : Nat → By} {q : Nat} {sm s' : Nat → Wd} (h : ∀ j, j < 8 → sm j = sh_H pm q j) (hp : ∀ j, j < 64 → p4 j = pm (64 * q + j)) (hs : ∀ j, j < 8 → s' j = sh_c sm p4 j) : ∀ j, j < 8 → s' j = sh_H pm (q + 1) j := by
  intro j hj
  rw [hs j hj]
  simp only [sh_H]
  exact sh_c_congr h hp j hj
theorem up_down {α : Type} {t t' F : Nat → α} {c i : Nat} {v : α} (hi : i ≤ c) (h : ∀ k, k < i → t (c - k) = F k) (hv : v = F i) (ht : t' = va_up t (c - i) v) : ∀ k, k < i + 1 → t' (c - k) = F k := by
  intro k hk
  rw [ht]
  unfold va_up
  by_cases e : k = i
  · rw [if_pos (by rw [e]), hv, e]
  · rw [if_neg (by omega)]; exact h k (by omega)
theorem dg_out {m : Nat → By} {len : Nat} {sm : Nat → Wd} {r r' : Nat → By} {i : Nat} (hi : i < 32) (hs : ∀ j, j < 8 → sm j = digW m len j) (h1 : ∀ j, j < i → r j = digF m len j) (ht : r' = va_up r i ((sm (i / 2 ^ 2) >>> (24 - 8 * (i % 2 ^ 2))).setWidth 8)) : ∀ j, j < i + 1 → r' j = digF m len j := by
  refine up_lt h1 ?_ ht
  rw [hs (i / 2 ^ 2) (by rw [show i / 2 ^ 2 = i / 4 from rfl]; omega)]
  rfl
theorem dX0_mixBlock_0 : decode cX0_mixBlock 0 = .ok (.iconst 0, 1) := by decide +kernel
theorem dX0_mixBlock_1 : decode cX0_mixBlock 1 = .ok (.istore_n 1, 1) := by decide +kernel
theorem dX0_mixBlock_2 : decode cX0_mixBlock 2 = .ok (.iload_n 1, 1) := by decide +kernel
theorem dX0_mixBlock_3 : decode cX0_mixBlock 3 = .ok (.bipush 64, 2) := by decide +kernel
theorem dX0_mixBlock_5 : decode cX0_mixBlock 5 = .ok (.if_icmp .ge 39, 3) := by decide +kernel
theorem dX0_mixBlock_8 : decode cX0_mixBlock 8 = .ok (.aload_n 0, 1) := by decide +kernel
theorem dX0_mixBlock_9 : decode cX0_mixBlock 9 = .ok (.getfield 13, 3) := by decide +kernel
theorem dX0_mixBlock_12 : decode cX0_mixBlock 12 = .ok (.iload_n 1, 1) := by decide +kernel
theorem dX0_mixBlock_13 : decode cX0_mixBlock 13 = .ok (.iconst 2, 1) := by decide +kernel
theorem dX0_mixBlock_14 : decode cX0_mixBlock 14 = .ok (.ishr, 1) := by decide +kernel
theorem dX0_mixBlock_15 : decode cX0_mixBlock 15 = .ok (.aload_n 0, 1) := by decide +kernel
theorem dX0_mixBlock_16 : decode cX0_mixBlock 16 = .ok (.getfield 13, 3) := by decide +kernel
theorem dX0_mixBlock_19 : decode cX0_mixBlock 19 = .ok (.iload_n 1, 1) := by decide +kernel
theorem dX0_mixBlock_20 : decode cX0_mixBlock 20 = .ok (.iconst 2, 1) := by decide +kernel
theorem dX0_mixBlock_21 : decode cX0_mixBlock 21 = .ok (.ishr, 1) := by decide +kernel
theorem dX0_mixBlock_22 : decode cX0_mixBlock 22 = .ok (.iaload, 1) := by decide +kernel
theorem dX0_mixBlock_23 : decode cX0_mixBlock 23 = .ok (.bipush 8, 2) := by decide +kernel
theorem dX0_mixBlock_25 : decode cX0_mixBlock 25 = .ok (.ishl, 1) := by decide +kernel
theorem dX0_mixBlock_26 : decode cX0_mixBlock 26 = .ok (.aload_n 0, 1) := by decide +kernel
theorem dX0_mixBlock_27 : decode cX0_mixBlock 27 = .ok (.getfield 16, 3) := by decide +kernel
theorem dX0_mixBlock_30 : decode cX0_mixBlock 30 = .ok (.iload_n 1, 1) := by decide +kernel
theorem dX0_mixBlock_31 : decode cX0_mixBlock 31 = .ok (.baload, 1) := by decide +kernel
theorem dX0_mixBlock_32 : decode cX0_mixBlock 32 = .ok (.sipush 255, 3) := by decide +kernel
theorem dX0_mixBlock_35 : decode cX0_mixBlock 35 = .ok (.iand, 1) := by decide +kernel
theorem dX0_mixBlock_36 : decode cX0_mixBlock 36 = .ok (.ior, 1) := by decide +kernel
theorem dX0_mixBlock_37 : decode cX0_mixBlock 37 = .ok (.iastore, 1) := by decide +kernel
theorem dX0_mixBlock_38 : decode cX0_mixBlock 38 = .ok (.iinc 1 1, 3) := by decide +kernel
theorem dX0_mixBlock_41 : decode cX0_mixBlock 41 = .ok (.goto (-39), 3) := by decide +kernel
theorem dX0_mixBlock_44 : decode cX0_mixBlock 44 = .ok (.bipush 16, 2) := by decide +kernel
theorem dX0_mixBlock_46 : decode cX0_mixBlock 46 = .ok (.istore_n 1, 1) := by decide +kernel
theorem dX0_mixBlock_47 : decode cX0_mixBlock 47 = .ok (.iload_n 1, 1) := by decide +kernel
theorem dX0_mixBlock_48 : decode cX0_mixBlock 48 = .ok (.bipush 64, 2) := by decide +kernel
theorem dX0_mixBlock_50 : decode cX0_mixBlock 50 = .ok (.if_icmp .ge 98, 3) := by decide +kernel
theorem dX0_mixBlock_53 : decode cX0_mixBlock 53 = .ok (.aload_n 0, 1) := by decide +kernel
theorem dX0_mixBlock_54 : decode cX0_mixBlock 54 = .ok (.getfield 13, 3) := by decide +kernel
theorem dX0_mixBlock_57 : decode cX0_mixBlock 57 = .ok (.iload_n 1, 1) := by decide +kernel
theorem dX0_mixBlock_58 : decode cX0_mixBlock 58 = .ok (.bipush 15, 2) := by decide +kernel
theorem dX0_mixBlock_60 : decode cX0_mixBlock 60 = .ok (.isub, 1) := by decide +kernel
theorem dX0_mixBlock_61 : decode cX0_mixBlock 61 = .ok (.iaload, 1) := by decide +kernel
theorem dX0_mixBlock_62 : decode cX0_mixBlock 62 = .ok (.istore_n 2, 1) := by decide +kernel
theorem dX0_mixBlock_63 : decode cX0_mixBlock 63 = .ok (.aload_n 0, 1) := by decide +kernel
theorem dX0_mixBlock_64 : decode cX0_mixBlock 64 = .ok (.getfield 13, 3) := by decide +kernel
theorem dX0_mixBlock_67 : decode cX0_mixBlock 67 = .ok (.iload_n 1, 1) := by decide +kernel
theorem dX0_mixBlock_68 : decode cX0_mixBlock 68 = .ok (.iconst 2, 1) := by decide +kernel
theorem dX0_mixBlock_69 : decode cX0_mixBlock 69 = .ok (.isub, 1) := by decide +kernel
theorem dX0_mixBlock_70 : decode cX0_mixBlock 70 = .ok (.iaload, 1) := by decide +kernel
theorem dX0_mixBlock_71 : decode cX0_mixBlock 71 = .ok (.istore_n 3, 1) := by decide +kernel
theorem dX0_mixBlock_72 : decode cX0_mixBlock 72 = .ok (.iload_n 2, 1) := by decide +kernel
theorem dX0_mixBlock_73 : decode cX0_mixBlock 73 = .ok (.bipush 7, 2) := by decide +kernel
theorem dX0_mixBlock_75 : decode cX0_mixBlock 75 = .ok (.invokestatic 46, 3) := by decide +kernel
theorem dX0_mixBlock_78 : decode cX0_mixBlock 78 = .ok (.iload_n 2, 1) := by decide +kernel
theorem dX0_mixBlock_79 : decode cX0_mixBlock 79 = .ok (.bipush 18, 2) := by decide +kernel
theorem dX0_mixBlock_81 : decode cX0_mixBlock 81 = .ok (.invokestatic 46, 3) := by decide +kernel
theorem dX0_mixBlock_84 : decode cX0_mixBlock 84 = .ok (.ixor, 1) := by decide +kernel
theorem dX0_mixBlock_85 : decode cX0_mixBlock 85 = .ok (.iload_n 2, 1) := by decide +kernel
theorem dX0_mixBlock_86 : decode cX0_mixBlock 86 = .ok (.iconst 3, 1) := by decide +kernel
theorem dX0_mixBlock_87 : decode cX0_mixBlock 87 = .ok (.iushr, 1) := by decide +kernel
theorem dX0_mixBlock_88 : decode cX0_mixBlock 88 = .ok (.ixor, 1) := by decide +kernel
theorem dX0_mixBlock_89 : decode cX0_mixBlock 89 = .ok (.istore 4, 2) := by decide +kernel
theorem dX0_mixBlock_91 : decode cX0_mixBlock 91 = .ok (.iload_n 3, 1) := by decide +kernel
theorem dX0_mixBlock_92 : decode cX0_mixBlock 92 = .ok (.bipush 17, 2) := by decide +kernel
theorem dX0_mixBlock_94 : decode cX0_mixBlock 94 = .ok (.invokestatic 46, 3) := by decide +kernel
theorem dX0_mixBlock_97 : decode cX0_mixBlock 97 = .ok (.iload_n 3, 1) := by decide +kernel
theorem dX0_mixBlock_98 : decode cX0_mixBlock 98 = .ok (.bipush 19, 2) := by decide +kernel
theorem dX0_mixBlock_100 : decode cX0_mixBlock 100 = .ok (.invokestatic 46, 3) := by decide +kernel
theorem dX0_mixBlock_103 : decode cX0_mixBlock 103 = .ok (.ixor, 1) := by decide +kernel
theorem dX0_mixBlock_104 : decode cX0_mixBlock 104 = .ok (.iload_n 3, 1) := by decide +kernel
theorem dX0_mixBlock_105 : decode cX0_mixBlock 105 = .ok (.bipush 10, 2) := by decide +kernel
theorem dX0_mixBlock_107 : decode cX0_mixBlock 107 = .ok (.iushr, 1) := by decide +kernel
theorem dX0_mixBlock_108 : decode cX0_mixBlock 108 = .ok (.ixor, 1) := by decide +kernel
theorem dX0_mixBlock_109 : decode cX0_mixBlock 109 = .ok (.istore 5, 2) := by decide +kernel
theorem dX0_mixBlock_111 : decode cX0_mixBlock 111 = .ok (.aload_n 0, 1) := by decide +kernel
theorem dX0_mixBlock_112 : decode cX0_mixBlock 112 = .ok (.getfield 13, 3) := by decide +kernel
theorem dX0_mixBlock_115 : decode cX0_mixBlock 115 = .ok (.iload_n 1, 1) := by decide +kernel
theorem dX0_mixBlock_116 : decode cX0_mixBlock 116 = .ok (.aload_n 0, 1) := by decide +kernel
theorem dX0_mixBlock_117 : decode cX0_mixBlock 117 = .ok (.getfield 13, 3) := by decide +kernel
theorem dX0_mixBlock_120 : decode cX0_mixBlock 120 = .ok (.iload_n 1, 1) := by decide +kernel
theorem dX0_mixBlock_121 : decode cX0_mixBlock 121 = .ok (.bipush 16, 2) := by decide +kernel
theorem dX0_mixBlock_123 : decode cX0_mixBlock 123 = .ok (.isub, 1) := by decide +kernel
theorem dX0_mixBlock_124 : decode cX0_mixBlock 124 = .ok (.iaload, 1) := by decide +kernel
theorem dX0_mixBlock_125 : decode cX0_mixBlock 125 = .ok (.iload 4, 2) := by decide +kernel
theorem dX0_mixBlock_127 : decode cX0_mixBlock 127 = .ok (.iadd, 1) := by decide +kernel
theorem dX0_mixBlock_128 : decode cX0_mixBlock 128 = .ok (.aload_n 0, 1) := by decide +kernel
theorem dX0_mixBlock_129 : decode cX0_mixBlock 129 = .ok (.getfield 13, 3) := by decide +kernel
theorem dX0_mixBlock_132 : decode cX0_mixBlock 132 = .ok (.iload_n 1, 1) := by decide +kernel
theorem dX0_mixBlock_133 : decode cX0_mixBlock 133 = .ok (.bipush 7, 2) := by decide +kernel
theorem dX0_mixBlock_135 : decode cX0_mixBlock 135 = .ok (.isub, 1) := by decide +kernel
theorem dX0_mixBlock_136 : decode cX0_mixBlock 136 = .ok (.iaload, 1) := by decide +kernel
theorem dX0_mixBlock_137 : decode cX0_mixBlock 137 = .ok (.iadd, 1) := by decide +kernel
theorem dX0_mixBlock_138 : decode cX0_mixBlock 138 = .ok (.iload 5, 2) := by decide +kernel
theorem dX0_mixBlock_140 : decode cX0_mixBlock 140 = .ok (.iadd, 1) := by decide +kernel
theorem dX0_mixBlock_141 : decode cX0_mixBlock 141 = .ok (.iastore, 1) := by decide +kernel
theorem dX0_mixBlock_142 : decode cX0_mixBlock 142 = .ok (.iinc 1 1, 3) := by decide +kernel
theorem dX0_mixBlock_145 : decode cX0_mixBlock 145 = .ok (.goto (-98), 3) := by decide +kernel
theorem dX0_mixBlock_148 : decode cX0_mixBlock 148 = .ok (.aload_n 0, 1) := by decide +kernel
theorem dX0_mixBlock_149 : decode cX0_mixBlock 149 = .ok (.getfield 7, 3) := by decide +kernel
theorem dX0_mixBlock_152 : decode cX0_mixBlock 152 = .ok (.iconst 0, 1) := by decide +kernel
theorem dX0_mixBlock_153 : decode cX0_mixBlock 153 = .ok (.iaload, 1) := by decide +kernel
theorem dX0_mixBlock_154 : decode cX0_mixBlock 154 = .ok (.istore_n 1, 1) := by decide +kernel
theorem dX0_mixBlock_155 : decode cX0_mixBlock 155 = .ok (.aload_n 0, 1) := by decide +kernel
theorem dX0_mixBlock_156 : decode cX0_mixBlock 156 = .ok (.getfield 7, 3) := by decide +kernel
theorem dX0_mixBlock_159 : decode cX0_mixBlock 159 = .ok (.iconst 1, 1) := by decide +kernel
theorem dX0_mixBlock_160 : decode cX0_mixBlock 160 = .ok (.iaload, 1) := by decide +kernel
theorem dX0_mixBlock_161 : decode cX0_mixBlock 161 = .ok (.istore_n 2, 1) := by decide +kernel
theorem dX0_mixBlock_162 : decode cX0_mixBlock 162 = .ok (.aload_n 0, 1) := by decide +kernel
theorem dX0_mixBlock_163 : decode cX0_mixBlock 163 = .ok (.getfield 7, 3) := by decide +kernel
theorem dX0_mixBlock_166 : decode cX0_mixBlock 166 = .ok (.iconst 2, 1) := by decide +kernel
theorem dX0_mixBlock_167 : decode cX0_mixBlock 167 = .ok (.iaload, 1) := by decide +kernel
theorem dX0_mixBlock_168 : decode cX0_mixBlock 168 = .ok (.istore_n 3, 1) := by decide +kernel
theorem dX0_mixBlock_169 : decode cX0_mixBlock 169 = .ok (.aload_n 0, 1) := by decide +kernel
theorem dX0_mixBlock_170 : decode cX0_mixBlock 170 = .ok (.getfield 7, 3) := by decide +kernel
theorem dX0_mixBlock_173 : decode cX0_mixBlock 173 = .ok (.iconst 3, 1) := by decide +kernel
theorem dX0_mixBlock_174 : decode cX0_mixBlock 174 = .ok (.iaload, 1) := by decide +kernel
theorem dX0_mixBlock_175 : decode cX0_mixBlock 175 = .ok (.istore 4, 2) := by decide +kernel
theorem dX0_mixBlock_177 : decode cX0_mixBlock 177 = .ok (.aload_n 0, 1) := by decide +kernel
theorem dX0_mixBlock_178 : decode cX0_mixBlock 178 = .ok (.getfield 7, 3) := by decide +kernel
theorem dX0_mixBlock_181 : decode cX0_mixBlock 181 = .ok (.iconst 4, 1) := by decide +kernel
theorem dX0_mixBlock_182 : decode cX0_mixBlock 182 = .ok (.iaload, 1) := by decide +kernel
theorem dX0_mixBlock_183 : decode cX0_mixBlock 183 = .ok (.istore 5, 2) := by decide +kernel
theorem dX0_mixBlock_185 : decode cX0_mixBlock 185 = .ok (.aload_n 0, 1) := by decide +kernel
theorem dX0_mixBlock_186 : decode cX0_mixBlock 186 = .ok (.getfield 7, 3) := by decide +kernel
theorem dX0_mixBlock_189 : decode cX0_mixBlock 189 = .ok (.iconst 5, 1) := by decide +kernel
theorem dX0_mixBlock_190 : decode cX0_mixBlock 190 = .ok (.iaload, 1) := by decide +kernel
theorem dX0_mixBlock_191 : decode cX0_mixBlock 191 = .ok (.istore 6, 2) := by decide +kernel
theorem dX0_mixBlock_193 : decode cX0_mixBlock 193 = .ok (.aload_n 0, 1) := by decide +kernel
theorem dX0_mixBlock_194 : decode cX0_mixBlock 194 = .ok (.getfield 7, 3) := by decide +kernel
theorem dX0_mixBlock_197 : decode cX0_mixBlock 197 = .ok (.bipush 6, 2) := by decide +kernel
theorem dX0_mixBlock_199 : decode cX0_mixBlock 199 = .ok (.iaload, 1) := by decide +kernel
theorem dX0_mixBlock_200 : decode cX0_mixBlock 200 = .ok (.istore 7, 2) := by decide +kernel
theorem dX0_mixBlock_202 : decode cX0_mixBlock 202 = .ok (.aload_n 0, 1) := by decide +kernel
theorem dX0_mixBlock_203 : decode cX0_mixBlock 203 = .ok (.getfield 7, 3) := by decide +kernel
theorem dX0_mixBlock_206 : decode cX0_mixBlock 206 = .ok (.bipush 7, 2) := by decide +kernel
theorem dX0_mixBlock_208 : decode cX0_mixBlock 208 = .ok (.iaload, 1) := by decide +kernel
theorem dX0_mixBlock_209 : decode cX0_mixBlock 209 = .ok (.istore 8, 2) := by decide +kernel
theorem dX0_mixBlock_211 : decode cX0_mixBlock 211 = .ok (.iconst 0, 1) := by decide +kernel
theorem dX0_mixBlock_212 : decode cX0_mixBlock 212 = .ok (.istore 9, 2) := by decide +kernel
theorem dX0_mixBlock_214 : decode cX0_mixBlock 214 = .ok (.iload 9, 2) := by decide +kernel
theorem dX0_mixBlock_216 : decode cX0_mixBlock 216 = .ok (.bipush 64, 2) := by decide +kernel
theorem dX0_mixBlock_218 : decode cX0_mixBlock 218 = .ok (.if_icmp .ge 131, 3) := by decide +kernel
theorem dX0_mixBlock_221 : decode cX0_mixBlock 221 = .ok (.iload 8, 2) := by decide +kernel
theorem dX0_mixBlock_223 : decode cX0_mixBlock 223 = .ok (.iload 5, 2) := by decide +kernel
theorem dX0_mixBlock_225 : decode cX0_mixBlock 225 = .ok (.bipush 6, 2) := by decide +kernel
theorem dX0_mixBlock_227 : decode cX0_mixBlock 227 = .ok (.invokestatic 46, 3) := by decide +kernel
theorem dX0_mixBlock_230 : decode cX0_mixBlock 230 = .ok (.iload 5, 2) := by decide +kernel
theorem dX0_mixBlock_232 : decode cX0_mixBlock 232 = .ok (.bipush 11, 2) := by decide +kernel
theorem dX0_mixBlock_234 : decode cX0_mixBlock 234 = .ok (.invokestatic 46, 3) := by decide +kernel
theorem dX0_mixBlock_237 : decode cX0_mixBlock 237 = .ok (.ixor, 1) := by decide +kernel
theorem dX0_mixBlock_238 : decode cX0_mixBlock 238 = .ok (.iload 5, 2) := by decide +kernel
theorem dX0_mixBlock_240 : decode cX0_mixBlock 240 = .ok (.bipush 25, 2) := by decide +kernel
theorem dX0_mixBlock_242 : decode cX0_mixBlock 242 = .ok (.invokestatic 46, 3) := by decide +kernel
theorem dX0_mixBlock_245 : decode cX0_mixBlock 245 = .ok (.ixor, 1) := by decide +kernel
theorem dX0_mixBlock_246 : decode cX0_mixBlock 246 = .ok (.iadd, 1) := by decide +kernel
theorem dX0_mixBlock_247 : decode cX0_mixBlock 247 = .ok (.iload 5, 2) := by decide +kernel
theorem dX0_mixBlock_249 : decode cX0_mixBlock 249 = .ok (.iload 6, 2) := by decide +kernel
theorem dX0_mixBlock_251 : decode cX0_mixBlock 251 = .ok (.iand, 1) := by decide +kernel
theorem dX0_mixBlock_252 : decode cX0_mixBlock 252 = .ok (.iload 5, 2) := by decide +kernel
theorem dX0_mixBlock_254 : decode cX0_mixBlock 254 = .ok (.iconst (-1), 1) := by decide +kernel
theorem dX0_mixBlock_255 : decode cX0_mixBlock 255 = .ok (.ixor, 1) := by decide +kernel
theorem dX0_mixBlock_256 : decode cX0_mixBlock 256 = .ok (.iload 7, 2) := by decide +kernel
theorem dX0_mixBlock_258 : decode cX0_mixBlock 258 = .ok (.iand, 1) := by decide +kernel
theorem dX0_mixBlock_259 : decode cX0_mixBlock 259 = .ok (.ixor, 1) := by decide +kernel
theorem dX0_mixBlock_260 : decode cX0_mixBlock 260 = .ok (.iadd, 1) := by decide +kernel
theorem dX0_mixBlock_261 : decode cX0_mixBlock 261 = .ok (.getstatic 52, 3) := by decide +kernel
theorem dX0_mixBlock_264 : decode cX0_mixBlock 264 = .ok (.iload 9, 2) := by decide +kernel
theorem dX0_mixBlock_266 : decode cX0_mixBlock 266 = .ok (.iaload, 1) := by decide +kernel
theorem dX0_mixBlock_267 : decode cX0_mixBlock 267 = .ok (.iadd, 1) := by decide +kernel
theorem dX0_mixBlock_268 : decode cX0_mixBlock 268 = .ok (.aload_n 0, 1) := by decide +kernel
theorem dX0_mixBlock_269 : decode cX0_mixBlock 269 = .ok (.getfield 13, 3) := by decide +kernel
theorem dX0_mixBlock_272 : decode cX0_mixBlock 272 = .ok (.iload 9, 2) := by decide +kernel
theorem dX0_mixBlock_274 : decode cX0_mixBlock 274 = .ok (.iaload, 1) := by decide +kernel
theorem dX0_mixBlock_275 : decode cX0_mixBlock 275 = .ok (.iadd, 1) := by decide +kernel
theorem dX0_mixBlock_276 : decode cX0_mixBlock 276 = .ok (.istore 10, 2) := by decide +kernel
theorem dX0_mixBlock_278 : decode cX0_mixBlock 278 = .ok (.iload_n 1, 1) := by decide +kernel
theorem dX0_mixBlock_279 : decode cX0_mixBlock 279 = .ok (.iconst 2, 1) := by decide +kernel
theorem dX0_mixBlock_280 : decode cX0_mixBlock 280 = .ok (.invokestatic 46, 3) := by decide +kernel
theorem dX0_mixBlock_283 : decode cX0_mixBlock 283 = .ok (.iload_n 1, 1) := by decide +kernel
theorem dX0_mixBlock_284 : decode cX0_mixBlock 284 = .ok (.bipush 13, 2) := by decide +kernel
theorem dX0_mixBlock_286 : decode cX0_mixBlock 286 = .ok (.invokestatic 46, 3) := by decide +kernel
theorem dX0_mixBlock_289 : decode cX0_mixBlock 289 = .ok (.ixor, 1) := by decide +kernel
theorem dX0_mixBlock_290 : decode cX0_mixBlock 290 = .ok (.iload_n 1, 1) := by decide +kernel
theorem dX0_mixBlock_291 : decode cX0_mixBlock 291 = .ok (.bipush 22, 2) := by decide +kernel
theorem dX0_mixBlock_293 : decode cX0_mixBlock 293 = .ok (.invokestatic 46, 3) := by decide +kernel
theorem dX0_mixBlock_296 : decode cX0_mixBlock 296 = .ok (.ixor, 1) := by decide +kernel
theorem dX0_mixBlock_297 : decode cX0_mixBlock 297 = .ok (.iload_n 1, 1) := by decide +kernel
theorem dX0_mixBlock_298 : decode cX0_mixBlock 298 = .ok (.iload_n 2, 1) := by decide +kernel
theorem dX0_mixBlock_299 : decode cX0_mixBlock 299 = .ok (.iand, 1) := by decide +kernel
theorem dX0_mixBlock_300 : decode cX0_mixBlock 300 = .ok (.iload_n 1, 1) := by decide +kernel
theorem dX0_mixBlock_301 : decode cX0_mixBlock 301 = .ok (.iload_n 3, 1) := by decide +kernel
theorem dX0_mixBlock_302 : decode cX0_mixBlock 302 = .ok (.iand, 1) := by decide +kernel
theorem dX0_mixBlock_303 : decode cX0_mixBlock 303 = .ok (.ixor, 1) := by decide +kernel
theorem dX0_mixBlock_304 : decode cX0_mixBlock 304 = .ok (.iload_n 2, 1) := by decide +kernel
theorem dX0_mixBlock_305 : decode cX0_mixBlock 305 = .ok (.iload_n 3, 1) := by decide +kernel
theorem dX0_mixBlock_306 : decode cX0_mixBlock 306 = .ok (.iand, 1) := by decide +kernel
theorem dX0_mixBlock_307 : decode cX0_mixBlock 307 = .ok (.ixor, 1) := by decide +kernel
theorem dX0_mixBlock_308 : decode cX0_mixBlock 308 = .ok (.iadd, 1) := by decide +kernel
theorem dX0_mixBlock_309 : decode cX0_mixBlock 309 = .ok (.istore 11, 2) := by decide +kernel
theorem dX0_mixBlock_311 : decode cX0_mixBlock 311 = .ok (.iload 7, 2) := by decide +kernel
theorem dX0_mixBlock_313 : decode cX0_mixBlock 313 = .ok (.istore 8, 2) := by decide +kernel
theorem dX0_mixBlock_315 : decode cX0_mixBlock 315 = .ok (.iload 6, 2) := by decide +kernel
theorem dX0_mixBlock_317 : decode cX0_mixBlock 317 = .ok (.istore 7, 2) := by decide +kernel
theorem dX0_mixBlock_319 : decode cX0_mixBlock 319 = .ok (.iload 5, 2) := by decide +kernel
theorem dX0_mixBlock_321 : decode cX0_mixBlock 321 = .ok (.istore 6, 2) := by decide +kernel
theorem dX0_mixBlock_323 : decode cX0_mixBlock 323 = .ok (.iload 4, 2) := by decide +kernel
theorem dX0_mixBlock_325 : decode cX0_mixBlock 325 = .ok (.iload 10, 2) := by decide +kernel
theorem dX0_mixBlock_327 : decode cX0_mixBlock 327 = .ok (.iadd, 1) := by decide +kernel
theorem dX0_mixBlock_328 : decode cX0_mixBlock 328 = .ok (.istore 5, 2) := by decide +kernel
theorem dX0_mixBlock_330 : decode cX0_mixBlock 330 = .ok (.iload_n 3, 1) := by decide +kernel
theorem dX0_mixBlock_331 : decode cX0_mixBlock 331 = .ok (.istore 4, 2) := by decide +kernel
theorem dX0_mixBlock_333 : decode cX0_mixBlock 333 = .ok (.iload_n 2, 1) := by decide +kernel
theorem dX0_mixBlock_334 : decode cX0_mixBlock 334 = .ok (.istore_n 3, 1) := by decide +kernel
theorem dX0_mixBlock_335 : decode cX0_mixBlock 335 = .ok (.iload_n 1, 1) := by decide +kernel
theorem dX0_mixBlock_336 : decode cX0_mixBlock 336 = .ok (.istore_n 2, 1) := by decide +kernel
theorem dX0_mixBlock_337 : decode cX0_mixBlock 337 = .ok (.iload 10, 2) := by decide +kernel
theorem dX0_mixBlock_339 : decode cX0_mixBlock 339 = .ok (.iload 11, 2) := by decide +kernel
theorem dX0_mixBlock_341 : decode cX0_mixBlock 341 = .ok (.iadd, 1) := by decide +kernel
theorem dX0_mixBlock_342 : decode cX0_mixBlock 342 = .ok (.istore_n 1, 1) := by decide +kernel
theorem dX0_mixBlock_343 : decode cX0_mixBlock 343 = .ok (.iinc 9 1, 3) := by decide +kernel
theorem dX0_mixBlock_346 : decode cX0_mixBlock 346 = .ok (.goto (-132), 3) := by decide +kernel
theorem dX0_mixBlock_349 : decode cX0_mixBlock 349 = .ok (.aload_n 0, 1) := by decide +kernel
theorem dX0_mixBlock_350 : decode cX0_mixBlock 350 = .ok (.getfield 7, 3) := by decide +kernel
theorem dX0_mixBlock_353 : decode cX0_mixBlock 353 = .ok (.iconst 0, 1) := by decide +kernel
theorem dX0_mixBlock_354 : decode cX0_mixBlock 354 = .ok (.dup2, 1) := by decide +kernel
theorem dX0_mixBlock_355 : decode cX0_mixBlock 355 = .ok (.iaload, 1) := by decide +kernel
theorem dX0_mixBlock_356 : decode cX0_mixBlock 356 = .ok (.iload_n 1, 1) := by decide +kernel
theorem dX0_mixBlock_357 : decode cX0_mixBlock 357 = .ok (.iadd, 1) := by decide +kernel
theorem dX0_mixBlock_358 : decode cX0_mixBlock 358 = .ok (.iastore, 1) := by decide +kernel
theorem dX0_mixBlock_359 : decode cX0_mixBlock 359 = .ok (.aload_n 0, 1) := by decide +kernel
theorem dX0_mixBlock_360 : decode cX0_mixBlock 360 = .ok (.getfield 7, 3) := by decide +kernel
theorem dX0_mixBlock_363 : decode cX0_mixBlock 363 = .ok (.iconst 1, 1) := by decide +kernel
theorem dX0_mixBlock_364 : decode cX0_mixBlock 364 = .ok (.dup2, 1) := by decide +kernel
theorem dX0_mixBlock_365 : decode cX0_mixBlock 365 = .ok (.iaload, 1) := by decide +kernel
theorem dX0_mixBlock_366 : decode cX0_mixBlock 366 = .ok (.iload_n 2, 1) := by decide +kernel
theorem dX0_mixBlock_367 : decode cX0_mixBlock 367 = .ok (.iadd, 1) := by decide +kernel
theorem dX0_mixBlock_368 : decode cX0_mixBlock 368 = .ok (.iastore, 1) := by decide +kernel
theorem dX0_mixBlock_369 : decode cX0_mixBlock 369 = .ok (.aload_n 0, 1) := by decide +kernel
theorem dX0_mixBlock_370 : decode cX0_mixBlock 370 = .ok (.getfield 7, 3) := by decide +kernel
theorem dX0_mixBlock_373 : decode cX0_mixBlock 373 = .ok (.iconst 2, 1) := by decide +kernel
theorem dX0_mixBlock_374 : decode cX0_mixBlock 374 = .ok (.dup2, 1) := by decide +kernel
theorem dX0_mixBlock_375 : decode cX0_mixBlock 375 = .ok (.iaload, 1) := by decide +kernel
theorem dX0_mixBlock_376 : decode cX0_mixBlock 376 = .ok (.iload_n 3, 1) := by decide +kernel
theorem dX0_mixBlock_377 : decode cX0_mixBlock 377 = .ok (.iadd, 1) := by decide +kernel
theorem dX0_mixBlock_378 : decode cX0_mixBlock 378 = .ok (.iastore, 1) := by decide +kernel
theorem dX0_mixBlock_379 : decode cX0_mixBlock 379 = .ok (.aload_n 0, 1) := by decide +kernel
theorem dX0_mixBlock_380 : decode cX0_mixBlock 380 = .ok (.getfield 7, 3) := by decide +kernel
theorem dX0_mixBlock_383 : decode cX0_mixBlock 383 = .ok (.iconst 3, 1) := by decide +kernel
theorem dX0_mixBlock_384 : decode cX0_mixBlock 384 = .ok (.dup2, 1) := by decide +kernel
theorem dX0_mixBlock_385 : decode cX0_mixBlock 385 = .ok (.iaload, 1) := by decide +kernel
theorem dX0_mixBlock_386 : decode cX0_mixBlock 386 = .ok (.iload 4, 2) := by decide +kernel
theorem dX0_mixBlock_388 : decode cX0_mixBlock 388 = .ok (.iadd, 1) := by decide +kernel
theorem dX0_mixBlock_389 : decode cX0_mixBlock 389 = .ok (.iastore, 1) := by decide +kernel
theorem dX0_mixBlock_390 : decode cX0_mixBlock 390 = .ok (.aload_n 0, 1) := by decide +kernel
theorem dX0_mixBlock_391 : decode cX0_mixBlock 391 = .ok (.getfield 7, 3) := by decide +kernel
theorem dX0_mixBlock_394 : decode cX0_mixBlock 394 = .ok (.iconst 4, 1) := by decide +kernel
theorem dX0_mixBlock_395 : decode cX0_mixBlock 395 = .ok (.dup2, 1) := by decide +kernel
theorem dX0_mixBlock_396 : decode cX0_mixBlock 396 = .ok (.iaload, 1) := by decide +kernel
theorem dX0_mixBlock_397 : decode cX0_mixBlock 397 = .ok (.iload 5, 2) := by decide +kernel
theorem dX0_mixBlock_399 : decode cX0_mixBlock 399 = .ok (.iadd, 1) := by decide +kernel
theorem dX0_mixBlock_400 : decode cX0_mixBlock 400 = .ok (.iastore, 1) := by decide +kernel
theorem dX0_mixBlock_401 : decode cX0_mixBlock 401 = .ok (.aload_n 0, 1) := by decide +kernel
theorem dX0_mixBlock_402 : decode cX0_mixBlock 402 = .ok (.getfield 7, 3) := by decide +kernel
theorem dX0_mixBlock_405 : decode cX0_mixBlock 405 = .ok (.iconst 5, 1) := by decide +kernel
theorem dX0_mixBlock_406 : decode cX0_mixBlock 406 = .ok (.dup2, 1) := by decide +kernel
theorem dX0_mixBlock_407 : decode cX0_mixBlock 407 = .ok (.iaload, 1) := by decide +kernel
theorem dX0_mixBlock_408 : decode cX0_mixBlock 408 = .ok (.iload 6, 2) := by decide +kernel
theorem dX0_mixBlock_410 : decode cX0_mixBlock 410 = .ok (.iadd, 1) := by decide +kernel
theorem dX0_mixBlock_411 : decode cX0_mixBlock 411 = .ok (.iastore, 1) := by decide +kernel
theorem dX0_mixBlock_412 : decode cX0_mixBlock 412 = .ok (.aload_n 0, 1) := by decide +kernel
theorem dX0_mixBlock_413 : decode cX0_mixBlock 413 = .ok (.getfield 7, 3) := by decide +kernel
theorem dX0_mixBlock_416 : decode cX0_mixBlock 416 = .ok (.bipush 6, 2) := by decide +kernel
theorem dX0_mixBlock_418 : decode cX0_mixBlock 418 = .ok (.dup2, 1) := by decide +kernel
theorem dX0_mixBlock_419 : decode cX0_mixBlock 419 = .ok (.iaload, 1) := by decide +kernel
theorem dX0_mixBlock_420 : decode cX0_mixBlock 420 = .ok (.iload 7, 2) := by decide +kernel
theorem dX0_mixBlock_422 : decode cX0_mixBlock 422 = .ok (.iadd, 1) := by decide +kernel
theorem dX0_mixBlock_423 : decode cX0_mixBlock 423 = .ok (.iastore, 1) := by decide +kernel
theorem dX0_mixBlock_424 : decode cX0_mixBlock 424 = .ok (.aload_n 0, 1) := by decide +kernel
theorem dX0_mixBlock_425 : decode cX0_mixBlock 425 = .ok (.getfield 7, 3) := by decide +kernel
theorem dX0_mixBlock_428 : decode cX0_mixBlock 428 = .ok (.bipush 7, 2) := by decide +kernel
theorem dX0_mixBlock_430 : decode cX0_mixBlock 430 = .ok (.dup2, 1) := by decide +kernel
theorem dX0_mixBlock_431 : decode cX0_mixBlock 431 = .ok (.iaload, 1) := by decide +kernel
theorem dX0_mixBlock_432 : decode cX0_mixBlock 432 = .ok (.iload 8, 2) := by decide +kernel
theorem dX0_mixBlock_434 : decode cX0_mixBlock 434 = .ok (.iadd, 1) := by decide +kernel
theorem dX0_mixBlock_435 : decode cX0_mixBlock 435 = .ok (.iastore, 1) := by decide +kernel
theorem dX0_mixBlock_436 : decode cX0_mixBlock 436 = .ok (.return_, 1) := by decide +kernel
theorem dX0_clearPending_0 : decode cX0_clearPending 0 = .ok (.aload_n 0, 1) := by decide +kernel
theorem dX0_clearPending_1 : decode cX0_clearPending 1 = .ok (.getfield 29, 3) := by decide +kernel
theorem dX0_clearPending_4 : decode cX0_clearPending 4 = .ok (.istore_n 2, 1) := by decide +kernel
theorem dX0_clearPending_5 : decode cX0_clearPending 5 = .ok (.iload_n 2, 1) := by decide +kernel
theorem dX0_clearPending_6 : decode cX0_clearPending 6 = .ok (.iload_n 1, 1) := by decide +kernel
theorem dX0_clearPending_7 : decode cX0_clearPending 7 = .ok (.if_icmp .ge 16, 3) := by decide +kernel
theorem dX0_clearPending_10 : decode cX0_clearPending 10 = .ok (.aload_n 0, 1) := by decide +kernel
theorem dX0_clearPending_11 : decode cX0_clearPending 11 = .ok (.getfield 16, 3) := by decide +kernel
theorem dX0_clearPending_14 : decode cX0_clearPending 14 = .ok (.iload_n 2, 1) := by decide +kernel
theorem dX0_clearPending_15 : decode cX0_clearPending 15 = .ok (.iconst 0, 1) := by decide +kernel
theorem dX0_clearPending_16 : decode cX0_clearPending 16 = .ok (.bastore, 1) := by decide +kernel
theorem dX0_clearPending_17 : decode cX0_clearPending 17 = .ok (.iinc 2 1, 3) := by decide +kernel
theorem dX0_clearPending_20 : decode cX0_clearPending 20 = .ok (.goto (-15), 3) := by decide +kernel
theorem dX0_clearPending_23 : decode cX0_clearPending 23 = .ok (.return_, 1) := by decide +kernel
theorem dX0_start_0 : decode cX0_start 0 = .ok (.getstatic 20, 3) := by decide +kernel
theorem dX0_start_3 : decode cX0_start 3 = .ok (.iconst 0, 1) := by decide +kernel
theorem dX0_start_4 : decode cX0_start 4 = .ok (.aload_n 0, 1) := by decide +kernel
theorem dX0_start_5 : decode cX0_start 5 = .ok (.getfield 7, 3) := by decide +kernel
theorem dX0_start_8 : decode cX0_start 8 = .ok (.iconst 0, 1) := by decide +kernel
theorem dX0_start_9 : decode cX0_start 9 = .ok (.bipush 8, 2) := by decide +kernel
theorem dX0_start_11 : decode cX0_start 11 = .ok (.invokestatic 23, 3) := by decide +kernel
theorem dX0_start_14 : decode cX0_start 14 = .ok (.aload_n 0, 1) := by decide +kernel
theorem dX0_start_15 : decode cX0_start 15 = .ok (.iconst 0, 1) := by decide +kernel
theorem dX0_start_16 : decode cX0_start 16 = .ok (.putfield 29, 3) := by decide +kernel
theorem dX0_start_19 : decode cX0_start 19 = .ok (.aload_n 0, 1) := by decide +kernel
theorem dX0_start_20 : decode cX0_start 20 = .ok (.lconst 0, 1) := by decide +kernel
theorem dX0_start_21 : decode cX0_start 21 = .ok (.putfield 33, 3) := by decide +kernel
theorem dX0_start_24 : decode cX0_start 24 = .ok (.return_, 1) := by decide +kernel
theorem dX0_put_0 : decode cX0_put 0 = .ok (.iconst 0, 1) := by decide +kernel
theorem dX0_put_1 : decode cX0_put 1 = .ok (.istore 4, 2) := by decide +kernel
theorem dX0_put_3 : decode cX0_put 3 = .ok (.iload 4, 2) := by decide +kernel
theorem dX0_put_5 : decode cX0_put 5 = .ok (.iload_n 2, 1) := by decide +kernel
theorem dX0_put_6 : decode cX0_put 6 = .ok (.if_icmp .ge 53, 3) := by decide +kernel
theorem dX0_put_9 : decode cX0_put 9 = .ok (.aload_n 0, 1) := by decide +kernel
theorem dX0_put_10 : decode cX0_put 10 = .ok (.getfield 16, 3) := by decide +kernel
theorem dX0_put_13 : decode cX0_put 13 = .ok (.aload_n 0, 1) := by decide +kernel
theorem dX0_put_14 : decode cX0_put 14 = .ok (.getfield 29, 3) := by decide +kernel
theorem dX0_put_17 : decode cX0_put 17 = .ok (.aload_n 1, 1) := by decide +kernel
theorem dX0_put_18 : decode cX0_put 18 = .ok (.iload 4, 2) := by decide +kernel
theorem dX0_put_20 : decode cX0_put 20 = .ok (.baload, 1) := by decide +kernel
theorem dX0_put_21 : decode cX0_put 21 = .ok (.iload_n 3, 1) := by decide +kernel
theorem dX0_put_22 : decode cX0_put 22 = .ok (.ixor, 1) := by decide +kernel
theorem dX0_put_23 : decode cX0_put 23 = .ok (.i2b, 1) := by decide +kernel
theorem dX0_put_24 : decode cX0_put 24 = .ok (.bastore, 1) := by decide +kernel
theorem dX0_put_25 : decode cX0_put 25 = .ok (.aload_n 0, 1) := by decide +kernel
theorem dX0_put_26 : decode cX0_put 26 = .ok (.dup, 1) := by decide +kernel
theorem dX0_put_27 : decode cX0_put 27 = .ok (.getfield 29, 3) := by decide +kernel
theorem dX0_put_30 : decode cX0_put 30 = .ok (.iconst 1, 1) := by decide +kernel
theorem dX0_put_31 : decode cX0_put 31 = .ok (.iadd, 1) := by decide +kernel
theorem dX0_put_32 : decode cX0_put 32 = .ok (.putfield 29, 3) := by decide +kernel
theorem dX0_put_35 : decode cX0_put 35 = .ok (.aload_n 0, 1) := by decide +kernel
theorem dX0_put_36 : decode cX0_put 36 = .ok (.getfield 29, 3) := by decide +kernel
theorem dX0_put_39 : decode cX0_put 39 = .ok (.bipush 64, 2) := by decide +kernel
theorem dX0_put_41 : decode cX0_put 41 = .ok (.if_icmp .ne 12, 3) := by decide +kernel
theorem dX0_put_44 : decode cX0_put 44 = .ok (.aload_n 0, 1) := by decide +kernel
theorem dX0_put_45 : decode cX0_put 45 = .ok (.invokevirtual 37, 3) := by decide +kernel
theorem dX0_put_48 : decode cX0_put 48 = .ok (.aload_n 0, 1) := by decide +kernel
theorem dX0_put_49 : decode cX0_put 49 = .ok (.iconst 0, 1) := by decide +kernel
theorem dX0_put_50 : decode cX0_put 50 = .ok (.putfield 29, 3) := by decide +kernel
theorem dX0_put_53 : decode cX0_put 53 = .ok (.iinc 4 1, 3) := by decide +kernel
theorem dX0_put_56 : decode cX0_put 56 = .ok (.goto (-53), 3) := by decide +kernel
theorem dX0_put_59 : decode cX0_put 59 = .ok (.aload_n 0, 1) := by decide +kernel
theorem dX0_put_60 : decode cX0_put 60 = .ok (.dup, 1) := by decide +kernel
theorem dX0_put_61 : decode cX0_put 61 = .ok (.getfield 33, 3) := by decide +kernel
theorem dX0_put_64 : decode cX0_put 64 = .ok (.iload_n 2, 1) := by decide +kernel
theorem dX0_put_65 : decode cX0_put 65 = .ok (.i2l, 1) := by decide +kernel
theorem dX0_put_66 : decode cX0_put 66 = .ok (.ladd, 1) := by decide +kernel
theorem dX0_put_67 : decode cX0_put 67 = .ok (.putfield 33, 3) := by decide +kernel
theorem dX0_put_70 : decode cX0_put 70 = .ok (.return_, 1) := by decide +kernel
theorem dX0_finish_0 : decode cX0_finish 0 = .ok (.aload_n 0, 1) := by decide +kernel
theorem dX0_finish_1 : decode cX0_finish 1 = .ok (.getfield 16, 3) := by decide +kernel
theorem dX0_finish_4 : decode cX0_finish 4 = .ok (.aload_n 0, 1) := by decide +kernel
theorem dX0_finish_5 : decode cX0_finish 5 = .ok (.getfield 29, 3) := by decide +kernel
theorem dX0_finish_8 : decode cX0_finish 8 = .ok (.bipush (-128), 2) := by decide +kernel
theorem dX0_finish_10 : decode cX0_finish 10 = .ok (.bastore, 1) := by decide +kernel
theorem dX0_finish_11 : decode cX0_finish 11 = .ok (.aload_n 0, 1) := by decide +kernel
theorem dX0_finish_12 : decode cX0_finish 12 = .ok (.dup, 1) := by decide +kernel
theorem dX0_finish_13 : decode cX0_finish 13 = .ok (.getfield 29, 3) := by decide +kernel
theorem dX0_finish_16 : decode cX0_finish 16 = .ok (.iconst 1, 1) := by decide +kernel
theorem dX0_finish_17 : decode cX0_finish 17 = .ok (.iadd, 1) := by decide +kernel
theorem dX0_finish_18 : decode cX0_finish 18 = .ok (.putfield 29, 3) := by decide +kernel
theorem dX0_finish_21 : decode cX0_finish 21 = .ok (.aload_n 0, 1) := by decide +kernel
theorem dX0_finish_22 : decode cX0_finish 22 = .ok (.getfield 29, 3) := by decide +kernel
theorem dX0_finish_25 : decode cX0_finish 25 = .ok (.bipush 56, 2) := by decide +kernel
theorem dX0_finish_27 : decode cX0_finish 27 = .ok (.if_icmp .le 18, 3) := by decide +kernel
theorem dX0_finish_30 : decode cX0_finish 30 = .ok (.aload_n 0, 1) := by decide +kernel
theorem dX0_finish_31 : decode cX0_finish 31 = .ok (.bipush 64, 2) := by decide +kernel
theorem dX0_finish_33 : decode cX0_finish 33 = .ok (.invokevirtual 40, 3) := by decide +kernel
theorem dX0_finish_36 : decode cX0_finish 36 = .ok (.aload_n 0, 1) := by decide +kernel
theorem dX0_finish_37 : decode cX0_finish 37 = .ok (.invokevirtual 37, 3) := by decide +kernel
theorem dX0_finish_40 : decode cX0_finish 40 = .ok (.aload_n 0, 1) := by decide +kernel
theorem dX0_finish_41 : decode cX0_finish 41 = .ok (.iconst 0, 1) := by decide +kernel
theorem dX0_finish_42 : decode cX0_finish 42 = .ok (.putfield 29, 3) := by decide +kernel
theorem dX0_finish_45 : decode cX0_finish 45 = .ok (.aload_n 0, 1) := by decide +kernel
theorem dX0_finish_46 : decode cX0_finish 46 = .ok (.bipush 56, 2) := by decide +kernel
theorem dX0_finish_48 : decode cX0_finish 48 = .ok (.invokevirtual 40, 3) := by decide +kernel
theorem dX0_finish_51 : decode cX0_finish 51 = .ok (.iconst 0, 1) := by decide +kernel
theorem dX0_finish_52 : decode cX0_finish 52 = .ok (.istore_n 2, 1) := by decide +kernel
theorem dX0_finish_53 : decode cX0_finish 53 = .ok (.iload_n 2, 1) := by decide +kernel
theorem dX0_finish_54 : decode cX0_finish 54 = .ok (.bipush 8, 2) := by decide +kernel
theorem dX0_finish_56 : decode cX0_finish 56 = .ok (.if_icmp .ge 33, 3) := by decide +kernel
theorem dX0_finish_59 : decode cX0_finish 59 = .ok (.aload_n 0, 1) := by decide +kernel
theorem dX0_finish_60 : decode cX0_finish 60 = .ok (.getfield 16, 3) := by decide +kernel
theorem dX0_finish_63 : decode cX0_finish 63 = .ok (.bipush 63, 2) := by decide +kernel
theorem dX0_finish_65 : decode cX0_finish 65 = .ok (.iload_n 2, 1) := by decide +kernel
theorem dX0_finish_66 : decode cX0_finish 66 = .ok (.isub, 1) := by decide +kernel
theorem dX0_finish_67 : decode cX0_finish 67 = .ok (.ldc2_w 44, 3) := by decide +kernel
theorem dX0_finish_70 : decode cX0_finish 70 = .ok (.aload_n 0, 1) := by decide +kernel
theorem dX0_finish_71 : decode cX0_finish 71 = .ok (.getfield 33, 3) := by decide +kernel
theorem dX0_finish_74 : decode cX0_finish 74 = .ok (.lmul, 1) := by decide +kernel
theorem dX0_finish_75 : decode cX0_finish 75 = .ok (.bipush 8, 2) := by decide +kernel
theorem dX0_finish_77 : decode cX0_finish 77 = .ok (.iload_n 2, 1) := by decide +kernel
theorem dX0_finish_78 : decode cX0_finish 78 = .ok (.imul, 1) := by decide +kernel
theorem dX0_finish_79 : decode cX0_finish 79 = .ok (.lushr, 1) := by decide +kernel
theorem dX0_finish_80 : decode cX0_finish 80 = .ok (.l2i, 1) := by decide +kernel
theorem dX0_finish_81 : decode cX0_finish 81 = .ok (.i2b, 1) := by decide +kernel
theorem dX0_finish_82 : decode cX0_finish 82 = .ok (.bastore, 1) := by decide +kernel
theorem dX0_finish_83 : decode cX0_finish 83 = .ok (.iinc 2 1, 3) := by decide +kernel
theorem dX0_finish_86 : decode cX0_finish 86 = .ok (.goto (-33), 3) := by decide +kernel
theorem dX0_finish_89 : decode cX0_finish 89 = .ok (.aload_n 0, 1) := by decide +kernel
theorem dX0_finish_90 : decode cX0_finish 90 = .ok (.invokevirtual 37, 3) := by decide +kernel
theorem dX0_finish_93 : decode cX0_finish 93 = .ok (.iconst 0, 1) := by decide +kernel
theorem dX0_finish_94 : decode cX0_finish 94 = .ok (.istore_n 2, 1) := by decide +kernel
theorem dX0_finish_95 : decode cX0_finish 95 = .ok (.iload_n 2, 1) := by decide +kernel
theorem dX0_finish_96 : decode cX0_finish 96 = .ok (.bipush 32, 2) := by decide +kernel
theorem dX0_finish_98 : decode cX0_finish 98 = .ok (.if_icmp .ge 31, 3) := by decide +kernel
theorem dX0_finish_101 : decode cX0_finish 101 = .ok (.aload_n 1, 1) := by decide +kernel
theorem dX0_finish_102 : decode cX0_finish 102 = .ok (.iload_n 2, 1) := by decide +kernel
theorem dX0_finish_103 : decode cX0_finish 103 = .ok (.aload_n 0, 1) := by decide +kernel
theorem dX0_finish_104 : decode cX0_finish 104 = .ok (.getfield 7, 3) := by decide +kernel
theorem dX0_finish_107 : decode cX0_finish 107 = .ok (.iload_n 2, 1) := by decide +kernel
theorem dX0_finish_108 : decode cX0_finish 108 = .ok (.iconst 2, 1) := by decide +kernel
theorem dX0_finish_109 : decode cX0_finish 109 = .ok (.ishr, 1) := by decide +kernel
theorem dX0_finish_110 : decode cX0_finish 110 = .ok (.iaload, 1) := by decide +kernel
theorem dX0_finish_111 : decode cX0_finish 111 = .ok (.bipush 24, 2) := by decide +kernel
theorem dX0_finish_113 : decode cX0_finish 113 = .ok (.bipush 8, 2) := by decide +kernel
theorem dX0_finish_115 : decode cX0_finish 115 = .ok (.iload_n 2, 1) := by decide +kernel
theorem dX0_finish_116 : decode cX0_finish 116 = .ok (.iconst 3, 1) := by decide +kernel
theorem dX0_finish_117 : decode cX0_finish 117 = .ok (.iand, 1) := by decide +kernel
theorem dX0_finish_118 : decode cX0_finish 118 = .ok (.imul, 1) := by decide +kernel
theorem dX0_finish_119 : decode cX0_finish 119 = .ok (.isub, 1) := by decide +kernel
theorem dX0_finish_120 : decode cX0_finish 120 = .ok (.iushr, 1) := by decide +kernel
theorem dX0_finish_121 : decode cX0_finish 121 = .ok (.i2b, 1) := by decide +kernel
theorem dX0_finish_122 : decode cX0_finish 122 = .ok (.bastore, 1) := by decide +kernel
theorem dX0_finish_123 : decode cX0_finish 123 = .ok (.iinc 2 1, 3) := by decide +kernel
theorem dX0_finish_126 : decode cX0_finish 126 = .ok (.goto (-31), 3) := by decide +kernel
theorem dX0_finish_129 : decode cX0_finish 129 = .ok (.return_, 1) := by decide +kernel
set_option maxHeartbeats 4000000 in
set_option maxRecDepth 100000 in
theorem c_DG_mix (l : Launch) (D : va_G) (a0 : Nat) (a0_sums : Nat) (a0_words : Nat) (a0_pending : Nat) (v_a0_filled : Nat) (v_a0_total : Nat) (t_a0_sums : Nat → Wd) (t_a0_words : Nat → Wd) (t_a0_pending : Nat → By)   : vM l D yX0_mixBlock cX0_mixBlock 12 none { frames := 1, cells := 0, slots := 0, locals := 21 } [.ref a0] [(a0, .inr (0, [.ref a0_sums, .ref a0_words, .ref a0_pending, .int (nI v_a0_filled), .long (lN v_a0_total)])), (a0_sums, aW D 8 t_a0_sums), (a0_words, aW D 64 t_a0_words), (a0_pending, aB D 64 t_a0_pending)] (fun r wo => ∃ (s1 : Nat → Wd) (w1 : Nat → Wd), r = none ∧ wo = [(a0, .inr (0, [.ref a0_sums, .ref a0_words, .ref a0_pending, .int (nI v_a0_filled), .long (lN v_a0_total)])), (a0_sums, aW D 8 s1), (a0_words, aW D 64 w1), (a0_pending, aB D 64 t_a0_pending)] ∧ (∀ j, j < 8 → s1 j = sh_c t_a0_sums t_a0_pending j)) := by
  refine vM.of (by decide) (Nat.le_of_ble_eq_true rfl) (fun C hCl hCD g R => ?_)
  subst hCl; subst hCD
  show VJ C 0 0 0 [(0, .ref a0)] [] [(a0, .inr (0, [.ref a0_sums, .ref a0_words, .ref a0_pending, .int (nI v_a0_filled), .long (lN v_a0_total)])), (a0_sums, aW C.D 8 t_a0_sums), (a0_words, aW C.D 64 t_a0_words), (a0_pending, aB C.D 64 t_a0_pending)]
  refine v_iconst g dX0_mixBlock_0 (v := nI 0) (by decide +kernel) ?_
  refine v_istore_n g [(1, .int (nI 0)), (0, .ref a0)] dX0_mixBlock_1 1 rfl (by decide) rfl ?_
  have L2_0 : ∀ i : Nat, i ≤ 64 → ∀ (w1 : Nat → Wd), (∀ q, q < 16 → w1 q = sh_pw (t_a0_words q) t_a0_pending q (min 4 (i - 4 * q))) → VJ C 0 0 2 [(1, .int (nI i)), (0, .ref a0)] [] [(a0, .inr (0, [.ref a0_sums, .ref a0_words, .ref a0_pending, .int (nI v_a0_filled), .long (lN v_a0_total)])), (a0_sums, aW C.D 8 t_a0_sums), (a0_words, aW C.D 64 w1), (a0_pending, aB C.D 64 t_a0_pending)] := by
    refine v_for (64) ?_ ?_
    · skip
      intro i hii ih w1 hv0
      refine v_iload_n g dX0_mixBlock_2 1 rfl 0 rfl ?_
      refine v_bipush g dX0_mixBlock_3 (v := nI 64) (by decide +kernel) ?_
      refine v_icmp_geN g 44 dX0_mixBlock_5 (by decide) (by omega) (by omega) (fun h1 => ?_) (fun h1 => ?_)
      · skip
        exact absurd h1 (by omega)
      · skip
        refine v_aload_n g dX0_mixBlock_8 0 rfl 1 rfl ?_
        refine gf_X0_13 g dX0_mixBlock_9 0 rfl rfl ?_
        refine v_iload_n g dX0_mixBlock_12 1 rfl 0 rfl ?_
        refine v_iconst g dX0_mixBlock_13 (v := nI 2) (by decide +kernel) ?_
        refine v_ishrN g (by omega) (by omega) dX0_mixBlock_14 ?_
        refine v_aload_n g dX0_mixBlock_15 0 rfl 1 rfl ?_
        refine gf_X0_13 g dX0_mixBlock_16 0 rfl rfl ?_
        refine v_iload_n g dX0_mixBlock_19 1 rfl 0 rfl ?_
        refine v_iconst g dX0_mixBlock_20 (v := nI 2) (by decide +kernel) ?_
        refine v_ishrN g (by omega) (by omega) dX0_mixBlock_21 ?_
        refine v_ialdW g 2 rfl (by omega) (by decide) dX0_mixBlock_22 ?_
        refine v_bipush g dX0_mixBlock_23 (v := nI 8) (by decide +kernel) ?_
        refine v_ishlW g (w1 (i / 2 ^ 2)) rfl (by omega) dX0_mixBlock_25 ?_
        refine v_aload_n g dX0_mixBlock_26 0 rfl 1 rfl ?_
        refine gf_X0_16 g dX0_mixBlock_27 0 rfl rfl ?_
        refine v_iload_n g dX0_mixBlock_30 1 rfl 0 rfl ?_
        refine v_baldB g 3 rfl (by omega) (by decide) dX0_mixBlock_31 ?_
        refine v_sipush g dX0_mixBlock_32 (v := nI 255) (by decide +kernel) ?_
        refine v_iandB g dX0_mixBlock_35 ?_
        refine v_iorW g ((w1 (i / 2 ^ 2)) <<< 8) ((t_a0_pending i).setWidth 32) rfl rfl dX0_mixBlock_36 ?_
        obtain ⟨t2, ht2⟩ : ∃ z : Nat → Wd, z = va_up w1 (i / 2 ^ 2) (((w1 (i / 2 ^ 2)) <<< 8) ||| ((t_a0_pending i).setWidth 32)) := ⟨_, rfl⟩
        refine v_iastW g (((w1 (i / 2 ^ 2)) <<< 8) ||| ((t_a0_pending i).setWidth 32)) rfl t2 ht2 2 [(a0, .inr (0, [.ref a0_sums, .ref a0_words, .ref a0_pending, .int (nI v_a0_filled), .long (lN v_a0_total)])), (a0_sums, aW C.D 8 t_a0_sums), (a0_words, aW C.D 64 t2), (a0_pending, aB C.D 64 t_a0_pending)] rfl (by omega) (by decide) dX0_mixBlock_37 rfl ?_
        refine v_iincN g 1 [(1, .int (nI (i + 1))), (0, .ref a0)] dX0_mixBlock_38 0 rfl (by decide +kernel) (by decide) rfl ?_
        refine v_goto g 2 dX0_mixBlock_41 (by decide) ?_
        exact ih t2 (sh_pws hii hv0 ht2)
    · skip
      intro w1 hv0
      refine v_iload_n g dX0_mixBlock_2 1 rfl 0 rfl ?_
      refine v_bipush g dX0_mixBlock_3 (v := nI 64) (by decide +kernel) ?_
      refine v_icmp_geN g 44 dX0_mixBlock_5 (by decide) (by omega) (by omega) (fun h3 => ?_) (fun h3 => ?_)
      · skip
        have z1 : ∀ q, q < 16 + 0 → w1 q = sh_w t_a0_pending 0 q := fun q hq => by rw [hv0 q (by omega), show min 4 (64 - 4 * q) = 4 by omega]; exact sh_pw4 _ _ _
        refine v_bipush g dX0_mixBlock_44 (v := nI 16) (by decide +kernel) ?_
        refine v_istore_n g [(1, .int (nI 16)), (0, .ref a0)] dX0_mixBlock_46 1 rfl (by decide) rfl ?_
        have L47_3 : ∀ i : Nat, i ≤ 48 → ∀ (w2 : Nat → Wd), (∀ q, q < 16 + i → w2 q = sh_w t_a0_pending i q) → VJ C 0 0 47 [(1, .int (nI (16 + i))), (0, .ref a0)] [] [(a0, .inr (0, [.ref a0_sums, .ref a0_words, .ref a0_pending, .int (nI v_a0_filled), .long (lN v_a0_total)])), (a0_sums, aW C.D 8 t_a0_sums), (a0_words, aW C.D 64 w2), (a0_pending, aB C.D 64 t_a0_pending)] := by
          refine v_for (48) ?_ ?_
          · skip
            intro i hii ih w2 hv0
            refine v_iload_n g dX0_mixBlock_47 1 rfl 0 rfl ?_
            refine v_bipush g dX0_mixBlock_48 (v := nI 64) (by decide +kernel) ?_
            refine v_icmp_geN g 148 dX0_mixBlock_50 (by decide) (by omega) (by omega) (fun h4 => ?_) (fun h4 => ?_)
            · skip
              exact absurd h4 (by omega)
            · skip
              refine v_aload_n g dX0_mixBlock_53 0 rfl 1 rfl ?_
              refine gf_X0_13 g dX0_mixBlock_54 0 rfl rfl ?_
              refine v_iload_n g dX0_mixBlock_57 1 rfl 0 rfl ?_
              refine v_bipush g dX0_mixBlock_58 (v := nI 15) (by decide +kernel) ?_
              refine v_isubN g dX0_mixBlock_60 (by omega) ?_
              refine v_ialdW g 2 rfl (by omega) (by decide) dX0_mixBlock_61 ?_
              refine v_istore_n g [(2, .int (wI (w2 ((16 + i) - 15)))), (1, .int (nI (16 + i))), (0, .ref a0)] dX0_mixBlock_62 2 rfl (by decide) rfl ?_
              refine v_aload_n g dX0_mixBlock_63 0 rfl 2 rfl ?_
              refine gf_X0_13 g dX0_mixBlock_64 0 rfl rfl ?_
              refine v_iload_n g dX0_mixBlock_67 1 rfl 1 rfl ?_
              refine v_iconst g dX0_mixBlock_68 (v := nI 2) (by decide +kernel) ?_
              refine v_isubN g dX0_mixBlock_69 (by omega) ?_
              refine v_ialdW g 2 rfl (by omega) (by decide) dX0_mixBlock_70 ?_
              refine v_istore_n g [(3, .int (wI (w2 ((16 + i) - 2)))), (2, .int (wI (w2 ((16 + i) - 15)))), (1, .int (nI (16 + i))), (0, .ref a0)] dX0_mixBlock_71 3 rfl (by decide) rfl ?_
              refine v_iload_n g dX0_mixBlock_72 2 rfl 1 rfl ?_
              refine v_bipush g dX0_mixBlock_73 (v := nI 7) (by decide +kernel) ?_
              refine v_callS (As := [.int (wI (w2 ((16 + i) - 15))), .int (nI 7)]) (rest := []) (wr := [(a0, .inr (0, [.ref a0_sums, .ref a0_words, .ref a0_pending, .int (nI v_a0_filled), .long (lN v_a0_total)])), (a0_sums, aW C.D 8 t_a0_sums), (a0_words, aW C.D 64 w2), (a0_pending, aB C.D 64 t_a0_pending)]) cw_X0_46 (hy_J6_rotateRight) g (c_rotr C.l C.D (w2 ((16 + i) - 15)) 7 (by omega) (by omega)) dX0_mixBlock_75 rfl (by decide) (by decide) (Nat.le_of_ble_eq_true rfl) [] [0, 1, 2, 3] rfl rfl (by decide) rfl (by decide) (by decide) _ rfl (fun r wo hp5 => ?_)
              obtain ⟨rfl, rfl⟩ := hp5
              show VJ C 0 0 78 [(3, .int (wI (w2 ((16 + i) - 2)))), (2, .int (wI (w2 ((16 + i) - 15)))), (1, .int (nI (16 + i))), (0, .ref a0)] [.int (wI (rotr (w2 ((16 + i) - 15)) 7))] [(a0, .inr (0, [.ref a0_sums, .ref a0_words, .ref a0_pending, .int (nI v_a0_filled), .long (lN v_a0_total)])), (a0_sums, aW C.D 8 t_a0_sums), (a0_words, aW C.D 64 w2), (a0_pending, aB C.D 64 t_a0_pending)]
              refine v_iload_n g dX0_mixBlock_78 2 rfl 1 rfl ?_
              refine v_bipush g dX0_mixBlock_79 (v := nI 18) (by decide +kernel) ?_
              refine v_callS (As := [.int (wI (w2 ((16 + i) - 15))), .int (nI 18)]) (rest := [.int (wI (rotr (w2 ((16 + i) - 15)) 7))]) (wr := [(a0, .inr (0, [.ref a0_sums, .ref a0_words, .ref a0_pending, .int (nI v_a0_filled), .long (lN v_a0_total)])), (a0_sums, aW C.D 8 t_a0_sums), (a0_words, aW C.D 64 w2), (a0_pending, aB C.D 64 t_a0_pending)]) cw_X0_46 (hy_J6_rotateRight) g (c_rotr C.l C.D (w2 ((16 + i) - 15)) 18 (by omega) (by omega)) dX0_mixBlock_81 rfl (by decide) (by decide) (Nat.le_of_ble_eq_true rfl) [] [0, 1, 2, 3] rfl rfl (by decide) rfl (by decide) (by decide) _ rfl (fun r wo hp6 => ?_)
              obtain ⟨rfl, rfl⟩ := hp6
              show VJ C 0 0 84 [(3, .int (wI (w2 ((16 + i) - 2)))), (2, .int (wI (w2 ((16 + i) - 15)))), (1, .int (nI (16 + i))), (0, .ref a0)] [.int (wI (rotr (w2 ((16 + i) - 15)) 18)), .int (wI (rotr (w2 ((16 + i) - 15)) 7))] [(a0, .inr (0, [.ref a0_sums, .ref a0_words, .ref a0_pending, .int (nI v_a0_filled), .long (lN v_a0_total)])), (a0_sums, aW C.D 8 t_a0_sums), (a0_words, aW C.D 64 w2), (a0_pending, aB C.D 64 t_a0_pending)]
              refine v_ixorW g (rotr (w2 ((16 + i) - 15)) 7) (rotr (w2 ((16 + i) - 15)) 18) rfl rfl dX0_mixBlock_84 ?_
              refine v_iload_n g dX0_mixBlock_85 2 rfl 1 rfl ?_
              refine v_iconst g dX0_mixBlock_86 (v := nI 3) (by decide +kernel) ?_
              refine v_iushrW g (w2 ((16 + i) - 15)) rfl (by omega) dX0_mixBlock_87 ?_
              refine v_ixorW g ((rotr (w2 ((16 + i) - 15)) 7) ^^^ (rotr (w2 ((16 + i) - 15)) 18)) ((w2 ((16 + i) - 15)) >>> 3) rfl rfl dX0_mixBlock_88 ?_
              refine v_istore g [(4, .int (wI (((rotr (w2 ((16 + i) - 15)) 7) ^^^ (rotr (w2 ((16 + i) - 15)) 18)) ^^^ ((w2 ((16 + i) - 15)) >>> 3)))), (3, .int (wI (w2 ((16 + i) - 2)))), (2, .int (wI (w2 ((16 + i) - 15)))), (1, .int (nI (16 + i))), (0, .ref a0)] dX0_mixBlock_89 (by decide) rfl ?_
              refine v_iload_n g dX0_mixBlock_91 3 rfl 1 rfl ?_
              refine v_bipush g dX0_mixBlock_92 (v := nI 17) (by decide +kernel) ?_
              refine v_callS (As := [.int (wI (w2 ((16 + i) - 2))), .int (nI 17)]) (rest := []) (wr := [(a0, .inr (0, [.ref a0_sums, .ref a0_words, .ref a0_pending, .int (nI v_a0_filled), .long (lN v_a0_total)])), (a0_sums, aW C.D 8 t_a0_sums), (a0_words, aW C.D 64 w2), (a0_pending, aB C.D 64 t_a0_pending)]) cw_X0_46 (hy_J6_rotateRight) g (c_rotr C.l C.D (w2 ((16 + i) - 2)) 17 (by omega) (by omega)) dX0_mixBlock_94 rfl (by decide) (by decide) (Nat.le_of_ble_eq_true rfl) [] [0, 1, 2, 3] rfl rfl (by decide) rfl (by decide) (by decide) _ rfl (fun r wo hp7 => ?_)
              obtain ⟨rfl, rfl⟩ := hp7
              show VJ C 0 0 97 [(4, .int (wI (((rotr (w2 ((16 + i) - 15)) 7) ^^^ (rotr (w2 ((16 + i) - 15)) 18)) ^^^ ((w2 ((16 + i) - 15)) >>> 3)))), (3, .int (wI (w2 ((16 + i) - 2)))), (2, .int (wI (w2 ((16 + i) - 15)))), (1, .int (nI (16 + i))), (0, .ref a0)] [.int (wI (rotr (w2 ((16 + i) - 2)) 17))] [(a0, .inr (0, [.ref a0_sums, .ref a0_words, .ref a0_pending, .int (nI v_a0_filled), .long (lN v_a0_total)])), (a0_sums, aW C.D 8 t_a0_sums), (a0_words, aW C.D 64 w2), (a0_pending, aB C.D 64 t_a0_pending)]
              refine v_iload_n g dX0_mixBlock_97 3 rfl 1 rfl ?_
              refine v_bipush g dX0_mixBlock_98 (v := nI 19) (by decide +kernel) ?_
              refine v_callS (As := [.int (wI (w2 ((16 + i) - 2))), .int (nI 19)]) (rest := [.int (wI (rotr (w2 ((16 + i) - 2)) 17))]) (wr := [(a0, .inr (0, [.ref a0_sums, .ref a0_words, .ref a0_pending, .int (nI v_a0_filled), .long (lN v_a0_total)])), (a0_sums, aW C.D 8 t_a0_sums), (a0_words, aW C.D 64 w2), (a0_pending, aB C.D 64 t_a0_pending)]) cw_X0_46 (hy_J6_rotateRight) g (c_rotr C.l C.D (w2 ((16 + i) - 2)) 19 (by omega) (by omega)) dX0_mixBlock_100 rfl (by decide) (by decide) (Nat.le_of_ble_eq_true rfl) [] [0, 1, 2, 3] rfl rfl (by decide) rfl (by decide) (by decide) _ rfl (fun r wo hp8 => ?_)
              obtain ⟨rfl, rfl⟩ := hp8
              show VJ C 0 0 103 [(4, .int (wI (((rotr (w2 ((16 + i) - 15)) 7) ^^^ (rotr (w2 ((16 + i) - 15)) 18)) ^^^ ((w2 ((16 + i) - 15)) >>> 3)))), (3, .int (wI (w2 ((16 + i) - 2)))), (2, .int (wI (w2 ((16 + i) - 15)))), (1, .int (nI (16 + i))), (0, .ref a0)] [.int (wI (rotr (w2 ((16 + i) - 2)) 19)), .int (wI (rotr (w2 ((16 + i) - 2)) 17))] [(a0, .inr (0, [.ref a0_sums, .ref a0_words, .ref a0_pending, .int (nI v_a0_filled), .long (lN v_a0_total)])), (a0_sums, aW C.D 8 t_a0_sums), (a0_words, aW C.D 64 w2), (a0_pending, aB C.D 64 t_a0_pending)]
              refine v_ixorW g (rotr (w2 ((16 + i) - 2)) 17) (rotr (w2 ((16 + i) - 2)) 19) rfl rfl dX0_mixBlock_103 ?_
              refine v_iload_n g dX0_mixBlock_104 3 rfl 1 rfl ?_
              refine v_bipush g dX0_mixBlock_105 (v := nI 10) (by decide +kernel) ?_
              refine v_iushrW g (w2 ((16 + i) - 2)) rfl (by omega) dX0_mixBlock_107 ?_
              refine v_ixorW g ((rotr (w2 ((16 + i) - 2)) 17) ^^^ (rotr (w2 ((16 + i) - 2)) 19)) ((w2 ((16 + i) - 2)) >>> 10) rfl rfl dX0_mixBlock_108 ?_
              refine v_istore g [(5, .int (wI (((rotr (w2 ((16 + i) - 2)) 17) ^^^ (rotr (w2 ((16 + i) - 2)) 19)) ^^^ ((w2 ((16 + i) - 2)) >>> 10)))), (4, .int (wI (((rotr (w2 ((16 + i) - 15)) 7) ^^^ (rotr (w2 ((16 + i) - 15)) 18)) ^^^ ((w2 ((16 + i) - 15)) >>> 3)))), (3, .int (wI (w2 ((16 + i) - 2)))), (2, .int (wI (w2 ((16 + i) - 15)))), (1, .int (nI (16 + i))), (0, .ref a0)] dX0_mixBlock_109 (by decide) rfl ?_
              refine v_aload_n g dX0_mixBlock_111 0 rfl 5 rfl ?_
              refine gf_X0_13 g dX0_mixBlock_112 0 rfl rfl ?_
              refine v_iload_n g dX0_mixBlock_115 1 rfl 4 rfl ?_
              refine v_aload_n g dX0_mixBlock_116 0 rfl 5 rfl ?_
              refine gf_X0_13 g dX0_mixBlock_117 0 rfl rfl ?_
              refine v_iload_n g dX0_mixBlock_120 1 rfl 4 rfl ?_
              refine v_bipush g dX0_mixBlock_121 (v := nI 16) (by decide +kernel) ?_
              refine v_isubN g dX0_mixBlock_123 (by omega) ?_
              refine v_ialdW g 2 rfl (by omega) (by decide) dX0_mixBlock_124 ?_
              refine v_iload g dX0_mixBlock_125 1 rfl ?_
              refine v_iaddW g (w2 ((16 + i) - 16)) (((rotr (w2 ((16 + i) - 15)) 7) ^^^ (rotr (w2 ((16 + i) - 15)) 18)) ^^^ ((w2 ((16 + i) - 15)) >>> 3)) rfl rfl dX0_mixBlock_127 ?_
              refine v_aload_n g dX0_mixBlock_128 0 rfl 5 rfl ?_
              refine gf_X0_13 g dX0_mixBlock_129 0 rfl rfl ?_
              refine v_iload_n g dX0_mixBlock_132 1 rfl 4 rfl ?_
              refine v_bipush g dX0_mixBlock_133 (v := nI 7) (by decide +kernel) ?_
              refine v_isubN g dX0_mixBlock_135 (by omega) ?_
              refine v_ialdW g 2 rfl (by omega) (by decide) dX0_mixBlock_136 ?_
              refine v_iaddW g ((w2 ((16 + i) - 16)) + (((rotr (w2 ((16 + i) - 15)) 7) ^^^ (rotr (w2 ((16 + i) - 15)) 18)) ^^^ ((w2 ((16 + i) - 15)) >>> 3))) (w2 ((16 + i) - 7)) rfl rfl dX0_mixBlock_137 ?_
              refine v_iload g dX0_mixBlock_138 0 rfl ?_
              refine v_iaddW g (((w2 ((16 + i) - 16)) + (((rotr (w2 ((16 + i) - 15)) 7) ^^^ (rotr (w2 ((16 + i) - 15)) 18)) ^^^ ((w2 ((16 + i) - 15)) >>> 3))) + (w2 ((16 + i) - 7))) (((rotr (w2 ((16 + i) - 2)) 17) ^^^ (rotr (w2 ((16 + i) - 2)) 19)) ^^^ ((w2 ((16 + i) - 2)) >>> 10)) rfl rfl dX0_mixBlock_140 ?_
              obtain ⟨t9, ht9⟩ : ∃ z : Nat → Wd, z = va_up w2 (16 + i) ((((w2 ((16 + i) - 16)) + (((rotr (w2 ((16 + i) - 15)) 7) ^^^ (rotr (w2 ((16 + i) - 15)) 18)) ^^^ ((w2 ((16 + i) - 15)) >>> 3))) + (w2 ((16 + i) - 7))) + (((rotr (w2 ((16 + i) - 2)) 17) ^^^ (rotr (w2 ((16 + i) - 2)) 19)) ^^^ ((w2 ((16 + i) - 2)) >>> 10))) := ⟨_, rfl⟩
              refine v_iastW g ((((w2 ((16 + i) - 16)) + (((rotr (w2 ((16 + i) - 15)) 7) ^^^ (rotr (w2 ((16 + i) - 15)) 18)) ^^^ ((w2 ((16 + i) - 15)) >>> 3))) + (w2 ((16 + i) - 7))) + (((rotr (w2 ((16 + i) - 2)) 17) ^^^ (rotr (w2 ((16 + i) - 2)) 19)) ^^^ ((w2 ((16 + i) - 2)) >>> 10))) rfl t9 ht9 2 [(a0, .inr (0, [.ref a0_sums, .ref a0_words, .ref a0_pending, .int (nI v_a0_filled), .long (lN v_a0_total)])), (a0_sums, aW C.D 8 t_a0_sums), (a0_words, aW C.D 64 t9), (a0_pending, aB C.D 64 t_a0_pending)] rfl (by omega) (by decide) dX0_mixBlock_141 rfl ?_
              refine v_iincN g 1 [(1, .int (nI (16 + i + 1))), (5, .int (wI (((rotr (w2 ((16 + i) - 2)) 17) ^^^ (rotr (w2 ((16 + i) - 2)) 19)) ^^^ ((w2 ((16 + i) - 2)) >>> 10)))), (4, .int (wI (((rotr (w2 ((16 + i) - 15)) 7) ^^^ (rotr (w2 ((16 + i) - 15)) 18)) ^^^ ((w2 ((16 + i) - 15)) >>> 3)))), (3, .int (wI (w2 ((16 + i) - 2)))), (2, .int (wI (w2 ((16 + i) - 15)))), (0, .ref a0)] dX0_mixBlock_142 4 rfl (by decide +kernel) (by decide) rfl ?_
              refine v_goto g 47 dX0_mixBlock_145 (by decide) ?_
              refine v_lpick [0, 5] [(1, .int (nI (16 + i + 1))), (0, .ref a0)] rfl ?_
              exact ih t9 (shw_step hv0 ht9)
          · skip
            intro w2 hv0
            refine v_iload_n g dX0_mixBlock_47 1 rfl 0 rfl ?_
            refine v_bipush g dX0_mixBlock_48 (v := nI 64) (by decide +kernel) ?_
            refine v_icmp_geN g 148 dX0_mixBlock_50 (by decide) (by omega) (by omega) (fun h10 => ?_) (fun h10 => ?_)
            · skip
              have zw : ∀ q, q < 64 → w2 q = sh_w t_a0_pending 48 q := hv0
              refine v_aload_n g dX0_mixBlock_148 0 rfl 1 rfl ?_
              refine gf_X0_7 g dX0_mixBlock_149 0 rfl rfl ?_
              refine v_iconst g dX0_mixBlock_152 (v := nI 0) (by decide +kernel) ?_
              refine v_ialdW g 1 rfl (by decide) (by decide) dX0_mixBlock_153 ?_
              refine v_istore_n g [(1, .int (wI (t_a0_sums 0))), (0, .ref a0)] dX0_mixBlock_154 1 rfl (by decide) rfl ?_
              refine v_aload_n g dX0_mixBlock_155 0 rfl 1 rfl ?_
              refine gf_X0_7 g dX0_mixBlock_156 0 rfl rfl ?_
              refine v_iconst g dX0_mixBlock_159 (v := nI 1) (by decide +kernel) ?_
              refine v_ialdW g 1 rfl (by decide) (by decide) dX0_mixBlock_160 ?_
              refine v_istore_n g [(2, .int (wI (t_a0_sums 1))), (1, .int (wI (t_a0_sums 0))), (0, .ref a0)] dX0_mixBlock_161 2 rfl (by decide) rfl ?_
              refine v_aload_n g dX0_mixBlock_162 0 rfl 2 rfl ?_
              refine gf_X0_7 g dX0_mixBlock_163 0 rfl rfl ?_
              refine v_iconst g dX0_mixBlock_166 (v := nI 2) (by decide +kernel) ?_
              refine v_ialdW g 1 rfl (by decide) (by decide) dX0_mixBlock_167 ?_
              refine v_istore_n g [(3, .int (wI (t_a0_sums 2))), (2, .int (wI (t_a0_sums 1))), (1, .int (wI (t_a0_sums 0))), (0, .ref a0)] dX0_mixBlock_168 3 rfl (by decide) rfl ?_
              refine v_aload_n g dX0_mixBlock_169 0 rfl 3 rfl ?_
              refine gf_X0_7 g dX0_mixBlock_170 0 rfl rfl ?_
              refine v_iconst g dX0_mixBlock_173 (v := nI 3) (by decide +kernel) ?_
              refine v_ialdW g 1 rfl (by decide) (by decide) dX0_mixBlock_174 ?_
              refine v_istore g [(4, .int (wI (t_a0_sums 3))), (3, .int (wI (t_a0_sums 2))), (2, .int (wI (t_a0_sums 1))), (1, .int (wI (t_a0_sums 0))), (0, .ref a0)] dX0_mixBlock_175 (by decide) rfl ?_
              refine v_aload_n g dX0_mixBlock_177 0 rfl 4 rfl ?_
              refine gf_X0_7 g dX0_mixBlock_178 0 rfl rfl ?_
              refine v_iconst g dX0_mixBlock_181 (v := nI 4) (by decide +kernel) ?_
              refine v_ialdW g 1 rfl (by decide) (by decide) dX0_mixBlock_182 ?_
              refine v_istore g [(5, .int (wI (t_a0_sums 4))), (4, .int (wI (t_a0_sums 3))), (3, .int (wI (t_a0_sums 2))), (2, .int (wI (t_a0_sums 1))), (1, .int (wI (t_a0_sums 0))), (0, .ref a0)] dX0_mixBlock_183 (by decide) rfl ?_
              refine v_aload_n g dX0_mixBlock_185 0 rfl 5 rfl ?_
              refine gf_X0_7 g dX0_mixBlock_186 0 rfl rfl ?_
              refine v_iconst g dX0_mixBlock_189 (v := nI 5) (by decide +kernel) ?_
              refine v_ialdW g 1 rfl (by decide) (by decide) dX0_mixBlock_190 ?_
              refine v_istore g [(6, .int (wI (t_a0_sums 5))), (5, .int (wI (t_a0_sums 4))), (4, .int (wI (t_a0_sums 3))), (3, .int (wI (t_a0_sums 2))), (2, .int (wI (t_a0_sums 1))), (1, .int (wI (t_a0_sums 0))), (0, .ref a0)] dX0_mixBlock_191 (by decide) rfl ?_
              refine v_aload_n g dX0_mixBlock_193 0 rfl 6 rfl ?_
              refine gf_X0_7 g dX0_mixBlock_194 0 rfl rfl ?_
              refine v_bipush g dX0_mixBlock_197 (v := nI 6) (by decide +kernel) ?_
              refine v_ialdW g 1 rfl (by decide) (by decide) dX0_mixBlock_199 ?_
              refine v_istore g [(7, .int (wI (t_a0_sums 6))), (6, .int (wI (t_a0_sums 5))), (5, .int (wI (t_a0_sums 4))), (4, .int (wI (t_a0_sums 3))), (3, .int (wI (t_a0_sums 2))), (2, .int (wI (t_a0_sums 1))), (1, .int (wI (t_a0_sums 0))), (0, .ref a0)] dX0_mixBlock_200 (by decide) rfl ?_
              refine v_aload_n g dX0_mixBlock_202 0 rfl 7 rfl ?_
              refine gf_X0_7 g dX0_mixBlock_203 0 rfl rfl ?_
              refine v_bipush g dX0_mixBlock_206 (v := nI 7) (by decide +kernel) ?_
              refine v_ialdW g 1 rfl (by decide) (by decide) dX0_mixBlock_208 ?_
              refine v_istore g [(8, .int (wI (t_a0_sums 7))), (7, .int (wI (t_a0_sums 6))), (6, .int (wI (t_a0_sums 5))), (5, .int (wI (t_a0_sums 4))), (4, .int (wI (t_a0_sums 3))), (3, .int (wI (t_a0_sums 2))), (2, .int (wI (t_a0_sums 1))), (1, .int (wI (t_a0_sums 0))), (0, .ref a0)] dX0_mixBlock_209 (by decide) rfl ?_
              refine v_iconst g dX0_mixBlock_211 (v := nI 0) (by decide +kernel) ?_
              refine v_istore g [(9, .int (nI 0)), (8, .int (wI (t_a0_sums 7))), (7, .int (wI (t_a0_sums 6))), (6, .int (wI (t_a0_sums 5))), (5, .int (wI (t_a0_sums 4))), (4, .int (wI (t_a0_sums 3))), (3, .int (wI (t_a0_sums 2))), (2, .int (wI (t_a0_sums 1))), (1, .int (wI (t_a0_sums 0))), (0, .ref a0)] dX0_mixBlock_212 (by decide) rfl ?_
              have L214_10 : ∀ i : Nat, i ≤ 64 → ∀ (v0 : Wd) (v1 : Wd) (v2 : Wd) (v3 : Wd) (v4 : Wd) (v5 : Wd) (v6 : Wd) (v7 : Wd), (v0 = sh_R (sh_w t_a0_pending 48) t_a0_sums i 0) → (v1 = sh_R (sh_w t_a0_pending 48) t_a0_sums i 1) → (v2 = sh_R (sh_w t_a0_pending 48) t_a0_sums i 2) → (v3 = sh_R (sh_w t_a0_pending 48) t_a0_sums i 3) → (v4 = sh_R (sh_w t_a0_pending 48) t_a0_sums i 4) → (v5 = sh_R (sh_w t_a0_pending 48) t_a0_sums i 5) → (v6 = sh_R (sh_w t_a0_pending 48) t_a0_sums i 6) → (v7 = sh_R (sh_w t_a0_pending 48) t_a0_sums i 7) → VJ C 0 0 214 [(9, .int (nI i)), (8, .int (wI v7)), (7, .int (wI v6)), (6, .int (wI v5)), (5, .int (wI v4)), (4, .int (wI v3)), (3, .int (wI v2)), (2, .int (wI v1)), (1, .int (wI v0)), (0, .ref a0)] [] [(a0, .inr (0, [.ref a0_sums, .ref a0_words, .ref a0_pending, .int (nI v_a0_filled), .long (lN v_a0_total)])), (a0_sums, aW C.D 8 t_a0_sums), (a0_words, aW C.D 64 w2), (a0_pending, aB C.D 64 t_a0_pending)] := by
                refine v_for (64) ?_ ?_
                · skip
                  intro i hii ih v0 v1 v2 v3 v4 v5 v6 v7 hv0 hv1 hv2 hv3 hv4 hv5 hv6 hv7
                  refine v_iload g dX0_mixBlock_214 0 rfl ?_
                  refine v_bipush g dX0_mixBlock_216 (v := nI 64) (by decide +kernel) ?_
                  refine v_icmp_geN g 349 dX0_mixBlock_218 (by decide) (by omega) (by omega) (fun h11 => ?_) (fun h11 => ?_)
                  · skip
                    exact absurd h11 (by omega)
                  · skip
                    refine v_iload g dX0_mixBlock_221 1 rfl ?_
                    refine v_iload g dX0_mixBlock_223 4 rfl ?_
                    refine v_bipush g dX0_mixBlock_225 (v := nI 6) (by decide +kernel) ?_
                    refine v_callS (As := [.int (wI v4), .int (nI 6)]) (rest := [.int (wI v7)]) (wr := [(a0, .inr (0, [.ref a0_sums, .ref a0_words, .ref a0_pending, .int (nI v_a0_filled), .long (lN v_a0_total)])), (a0_sums, aW C.D 8 t_a0_sums), (a0_words, aW C.D 64 w2), (a0_pending, aB C.D 64 t_a0_pending)]) cw_X0_46 (hy_J6_rotateRight) g (c_rotr C.l C.D v4 6 (by omega) (by omega)) dX0_mixBlock_227 rfl (by decide) (by decide) (Nat.le_of_ble_eq_true rfl) [] [0, 1, 2, 3] rfl rfl (by decide) rfl (by decide) (by decide) _ rfl (fun r wo hp12 => ?_)
                    obtain ⟨rfl, rfl⟩ := hp12
                    show VJ C 0 0 230 [(9, .int (nI i)), (8, .int (wI v7)), (7, .int (wI v6)), (6, .int (wI v5)), (5, .int (wI v4)), (4, .int (wI v3)), (3, .int (wI v2)), (2, .int (wI v1)), (1, .int (wI v0)), (0, .ref a0)] [.int (wI (rotr v4 6)), .int (wI v7)] [(a0, .inr (0, [.ref a0_sums, .ref a0_words, .ref a0_pending, .int (nI v_a0_filled), .long (lN v_a0_total)])), (a0_sums, aW C.D 8 t_a0_sums), (a0_words, aW C.D 64 w2), (a0_pending, aB C.D 64 t_a0_pending)]
                    refine v_iload g dX0_mixBlock_230 4 rfl ?_
                    refine v_bipush g dX0_mixBlock_232 (v := nI 11) (by decide +kernel) ?_
                    refine v_callS (As := [.int (wI v4), .int (nI 11)]) (rest := [.int (wI (rotr v4 6)), .int (wI v7)]) (wr := [(a0, .inr (0, [.ref a0_sums, .ref a0_words, .ref a0_pending, .int (nI v_a0_filled), .long (lN v_a0_total)])), (a0_sums, aW C.D 8 t_a0_sums), (a0_words, aW C.D 64 w2), (a0_pending, aB C.D 64 t_a0_pending)]) cw_X0_46 (hy_J6_rotateRight) g (c_rotr C.l C.D v4 11 (by omega) (by omega)) dX0_mixBlock_234 rfl (by decide) (by decide) (Nat.le_of_ble_eq_true rfl) [] [0, 1, 2, 3] rfl rfl (by decide) rfl (by decide) (by decide) _ rfl (fun r wo hp13 => ?_)
                    obtain ⟨rfl, rfl⟩ := hp13
                    show VJ C 0 0 237 [(9, .int (nI i)), (8, .int (wI v7)), (7, .int (wI v6)), (6, .int (wI v5)), (5, .int (wI v4)), (4, .int (wI v3)), (3, .int (wI v2)), (2, .int (wI v1)), (1, .int (wI v0)), (0, .ref a0)] [.int (wI (rotr v4 11)), .int (wI (rotr v4 6)), .int (wI v7)] [(a0, .inr (0, [.ref a0_sums, .ref a0_words, .ref a0_pending, .int (nI v_a0_filled), .long (lN v_a0_total)])), (a0_sums, aW C.D 8 t_a0_sums), (a0_words, aW C.D 64 w2), (a0_pending, aB C.D 64 t_a0_pending)]
                    refine v_ixorW g (rotr v4 6) (rotr v4 11) rfl rfl dX0_mixBlock_237 ?_
                    refine v_iload g dX0_mixBlock_238 4 rfl ?_
                    refine v_bipush g dX0_mixBlock_240 (v := nI 25) (by decide +kernel) ?_
                    refine v_callS (As := [.int (wI v4), .int (nI 25)]) (rest := [.int (wI ((rotr v4 6) ^^^ (rotr v4 11))), .int (wI v7)]) (wr := [(a0, .inr (0, [.ref a0_sums, .ref a0_words, .ref a0_pending, .int (nI v_a0_filled), .long (lN v_a0_total)])), (a0_sums, aW C.D 8 t_a0_sums), (a0_words, aW C.D 64 w2), (a0_pending, aB C.D 64 t_a0_pending)]) cw_X0_46 (hy_J6_rotateRight) g (c_rotr C.l C.D v4 25 (by omega) (by omega)) dX0_mixBlock_242 rfl (by decide) (by decide) (Nat.le_of_ble_eq_true rfl) [] [0, 1, 2, 3] rfl rfl (by decide) rfl (by decide) (by decide) _ rfl (fun r wo hp14 => ?_)
                    obtain ⟨rfl, rfl⟩ := hp14
                    show VJ C 0 0 245 [(9, .int (nI i)), (8, .int (wI v7)), (7, .int (wI v6)), (6, .int (wI v5)), (5, .int (wI v4)), (4, .int (wI v3)), (3, .int (wI v2)), (2, .int (wI v1)), (1, .int (wI v0)), (0, .ref a0)] [.int (wI (rotr v4 25)), .int (wI ((rotr v4 6) ^^^ (rotr v4 11))), .int (wI v7)] [(a0, .inr (0, [.ref a0_sums, .ref a0_words, .ref a0_pending, .int (nI v_a0_filled), .long (lN v_a0_total)])), (a0_sums, aW C.D 8 t_a0_sums), (a0_words, aW C.D 64 w2), (a0_pending, aB C.D 64 t_a0_pending)]
                    refine v_ixorW g ((rotr v4 6) ^^^ (rotr v4 11)) (rotr v4 25) rfl rfl dX0_mixBlock_245 ?_
                    refine v_iaddW g (v7) (((rotr v4 6) ^^^ (rotr v4 11)) ^^^ (rotr v4 25)) rfl rfl dX0_mixBlock_246 ?_
                    refine v_iload g dX0_mixBlock_247 4 rfl ?_
                    refine v_iload g dX0_mixBlock_249 3 rfl ?_
                    refine v_iandW g (v4) (v5) rfl rfl dX0_mixBlock_251 ?_
                    refine v_iload g dX0_mixBlock_252 4 rfl ?_
                    refine v_iconst g dX0_mixBlock_254 (v := wI 4294967295#32) (by decide +kernel) ?_
                    refine v_ixorW g (v4) (4294967295#32) rfl rfl dX0_mixBlock_255 ?_
                    refine v_iload g dX0_mixBlock_256 2 rfl ?_
                    refine v_iandW g (v4 ^^^ 4294967295#32) (v6) rfl rfl dX0_mixBlock_258 ?_
                    refine v_ixorW g (v4 &&& v5) ((v4 ^^^ 4294967295#32) &&& v6) rfl rfl dX0_mixBlock_259 ?_
                    refine v_iaddW g (v7 + (((rotr v4 6) ^^^ (rotr v4 11)) ^^^ (rotr v4 25))) ((v4 &&& v5) ^^^ ((v4 ^^^ 4294967295#32) &&& v6)) rfl rfl dX0_mixBlock_260 ?_
                    refine v_gets g g.g1 sl_X0_52 dX0_mixBlock_261 ?_
                    refine v_iload g dX0_mixBlock_264 0 rfl ?_
                    refine v_ialdT g g.g1 (by omega) (by omega) dX0_mixBlock_266 ?_
                    refine v_iaddW g ((v7 + (((rotr v4 6) ^^^ (rotr v4 11)) ^^^ (rotr v4 25))) + ((v4 &&& v5) ^^^ ((v4 ^^^ 4294967295#32) &&& v6))) (shK i) rfl rfl dX0_mixBlock_267 ?_
                    refine v_aload_n g dX0_mixBlock_268 0 rfl 9 rfl ?_
                    refine gf_X0_13 g dX0_mixBlock_269 0 rfl rfl ?_
                    refine v_iload g dX0_mixBlock_272 0 rfl ?_
                    refine v_ialdW g 2 rfl (by omega) (by decide) dX0_mixBlock_274 ?_
                    refine v_iaddW g (((v7 + (((rotr v4 6) ^^^ (rotr v4 11)) ^^^ (rotr v4 25))) + ((v4 &&& v5) ^^^ ((v4 ^^^ 4294967295#32) &&& v6))) + (shK i)) (w2 i) rfl rfl dX0_mixBlock_275 ?_
                    refine v_nmW (fun p15 hp15 => ?_)
                    refine v_istore g [(10, .int (wI p15)), (9, .int (nI i)), (8, .int (wI v7)), (7, .int (wI v6)), (6, .int (wI v5)), (5, .int (wI v4)), (4, .int (wI v3)), (3, .int (wI v2)), (2, .int (wI v1)), (1, .int (wI v0)), (0, .ref a0)] dX0_mixBlock_276 (by decide) rfl ?_
                    refine v_iload_n g dX0_mixBlock_278 1 rfl 9 rfl ?_
                    refine v_iconst g dX0_mixBlock_279 (v := nI 2) (by decide +kernel) ?_
                    refine v_callS (As := [.int (wI v0), .int (nI 2)]) (rest := []) (wr := [(a0, .inr (0, [.ref a0_sums, .ref a0_words, .ref a0_pending, .int (nI v_a0_filled), .long (lN v_a0_total)])), (a0_sums, aW C.D 8 t_a0_sums), (a0_words, aW C.D 64 w2), (a0_pending, aB C.D 64 t_a0_pending)]) cw_X0_46 (hy_J6_rotateRight) g (c_rotr C.l C.D v0 2 (by omega) (by omega)) dX0_mixBlock_280 rfl (by decide) (by decide) (Nat.le_of_ble_eq_true rfl) [] [0, 1, 2, 3] rfl rfl (by decide) rfl (by decide) (by decide) _ rfl (fun r wo hp16 => ?_)
                    obtain ⟨rfl, rfl⟩ := hp16
                    show VJ C 0 0 283 [(10, .int (wI p15)), (9, .int (nI i)), (8, .int (wI v7)), (7, .int (wI v6)), (6, .int (wI v5)), (5, .int (wI v4)), (4, .int (wI v3)), (3, .int (wI v2)), (2, .int (wI v1)), (1, .int (wI v0)), (0, .ref a0)] [.int (wI (rotr v0 2))] [(a0, .inr (0, [.ref a0_sums, .ref a0_words, .ref a0_pending, .int (nI v_a0_filled), .long (lN v_a0_total)])), (a0_sums, aW C.D 8 t_a0_sums), (a0_words, aW C.D 64 w2), (a0_pending, aB C.D 64 t_a0_pending)]
                    refine v_iload_n g dX0_mixBlock_283 1 rfl 9 rfl ?_
                    refine v_bipush g dX0_mixBlock_284 (v := nI 13) (by decide +kernel) ?_
                    refine v_callS (As := [.int (wI v0), .int (nI 13)]) (rest := [.int (wI (rotr v0 2))]) (wr := [(a0, .inr (0, [.ref a0_sums, .ref a0_words, .ref a0_pending, .int (nI v_a0_filled), .long (lN v_a0_total)])), (a0_sums, aW C.D 8 t_a0_sums), (a0_words, aW C.D 64 w2), (a0_pending, aB C.D 64 t_a0_pending)]) cw_X0_46 (hy_J6_rotateRight) g (c_rotr C.l C.D v0 13 (by omega) (by omega)) dX0_mixBlock_286 rfl (by decide) (by decide) (Nat.le_of_ble_eq_true rfl) [] [0, 1, 2, 3] rfl rfl (by decide) rfl (by decide) (by decide) _ rfl (fun r wo hp17 => ?_)
                    obtain ⟨rfl, rfl⟩ := hp17
                    show VJ C 0 0 289 [(10, .int (wI p15)), (9, .int (nI i)), (8, .int (wI v7)), (7, .int (wI v6)), (6, .int (wI v5)), (5, .int (wI v4)), (4, .int (wI v3)), (3, .int (wI v2)), (2, .int (wI v1)), (1, .int (wI v0)), (0, .ref a0)] [.int (wI (rotr v0 13)), .int (wI (rotr v0 2))] [(a0, .inr (0, [.ref a0_sums, .ref a0_words, .ref a0_pending, .int (nI v_a0_filled), .long (lN v_a0_total)])), (a0_sums, aW C.D 8 t_a0_sums), (a0_words, aW C.D 64 w2), (a0_pending, aB C.D 64 t_a0_pending)]
                    refine v_ixorW g (rotr v0 2) (rotr v0 13) rfl rfl dX0_mixBlock_289 ?_
                    refine v_iload_n g dX0_mixBlock_290 1 rfl 9 rfl ?_
                    refine v_bipush g dX0_mixBlock_291 (v := nI 22) (by decide +kernel) ?_
                    refine v_callS (As := [.int (wI v0), .int (nI 22)]) (rest := [.int (wI ((rotr v0 2) ^^^ (rotr v0 13)))]) (wr := [(a0, .inr (0, [.ref a0_sums, .ref a0_words, .ref a0_pending, .int (nI v_a0_filled), .long (lN v_a0_total)])), (a0_sums, aW C.D 8 t_a0_sums), (a0_words, aW C.D 64 w2), (a0_pending, aB C.D 64 t_a0_pending)]) cw_X0_46 (hy_J6_rotateRight) g (c_rotr C.l C.D v0 22 (by omega) (by omega)) dX0_mixBlock_293 rfl (by decide) (by decide) (Nat.le_of_ble_eq_true rfl) [] [0, 1, 2, 3] rfl rfl (by decide) rfl (by decide) (by decide) _ rfl (fun r wo hp18 => ?_)
                    obtain ⟨rfl, rfl⟩ := hp18
                    show VJ C 0 0 296 [(10, .int (wI p15)), (9, .int (nI i)), (8, .int (wI v7)), (7, .int (wI v6)), (6, .int (wI v5)), (5, .int (wI v4)), (4, .int (wI v3)), (3, .int (wI v2)), (2, .int (wI v1)), (1, .int (wI v0)), (0, .ref a0)] [.int (wI (rotr v0 22)), .int (wI ((rotr v0 2) ^^^ (rotr v0 13)))] [(a0, .inr (0, [.ref a0_sums, .ref a0_words, .ref a0_pending, .int (nI v_a0_filled), .long (lN v_a0_total)])), (a0_sums, aW C.D 8 t_a0_sums), (a0_words, aW C.D 64 w2), (a0_pending, aB C.D 64 t_a0_pending)]
                    refine v_ixorW g ((rotr v0 2) ^^^ (rotr v0 13)) (rotr v0 22) rfl rfl dX0_mixBlock_296 ?_
                    refine v_iload_n g dX0_mixBlock_297 1 rfl 9 rfl ?_
                    refine v_iload_n g dX0_mixBlock_298 2 rfl 8 rfl ?_
                    refine v_iandW g (v0) (v1) rfl rfl dX0_mixBlock_299 ?_
                    refine v_iload_n g dX0_mixBlock_300 1 rfl 9 rfl ?_
                    refine v_iload_n g dX0_mixBlock_301 3 rfl 7 rfl ?_
                    refine v_iandW g (v0) (v2) rfl rfl dX0_mixBlock_302 ?_
                    refine v_ixorW g (v0 &&& v1) (v0 &&& v2) rfl rfl dX0_mixBlock_303 ?_
                    refine v_iload_n g dX0_mixBlock_304 2 rfl 8 rfl ?_
                    refine v_iload_n g dX0_mixBlock_305 3 rfl 7 rfl ?_
                    refine v_iandW g (v1) (v2) rfl rfl dX0_mixBlock_306 ?_
                    refine v_ixorW g ((v0 &&& v1) ^^^ (v0 &&& v2)) (v1 &&& v2) rfl rfl dX0_mixBlock_307 ?_
                    refine v_iaddW g (((rotr v0 2) ^^^ (rotr v0 13)) ^^^ (rotr v0 22)) (((v0 &&& v1) ^^^ (v0 &&& v2)) ^^^ (v1 &&& v2)) rfl rfl dX0_mixBlock_308 ?_
                    refine v_nmW (fun q19 hq19 => ?_)
                    refine v_istore g [(11, .int (wI q19)), (10, .int (wI p15)), (9, .int (nI i)), (8, .int (wI v7)), (7, .int (wI v6)), (6, .int (wI v5)), (5, .int (wI v4)), (4, .int (wI v3)), (3, .int (wI v2)), (2, .int (wI v1)), (1, .int (wI v0)), (0, .ref a0)] dX0_mixBlock_309 (by decide) rfl ?_
                    refine v_iload g dX0_mixBlock_311 4 rfl ?_
                    refine v_istore g [(8, .int (wI v6)), (11, .int (wI q19)), (10, .int (wI p15)), (9, .int (nI i)), (7, .int (wI v6)), (6, .int (wI v5)), (5, .int (wI v4)), (4, .int (wI v3)), (3, .int (wI v2)), (2, .int (wI v1)), (1, .int (wI v0)), (0, .ref a0)] dX0_mixBlock_313 (by decide) rfl ?_
                    refine v_iload g dX0_mixBlock_315 5 rfl ?_
                    refine v_istore g [(7, .int (wI v5)), (8, .int (wI v6)), (11, .int (wI q19)), (10, .int (wI p15)), (9, .int (nI i)), (6, .int (wI v5)), (5, .int (wI v4)), (4, .int (wI v3)), (3, .int (wI v2)), (2, .int (wI v1)), (1, .int (wI v0)), (0, .ref a0)] dX0_mixBlock_317 (by decide) rfl ?_
                    refine v_iload g dX0_mixBlock_319 6 rfl ?_
                    refine v_istore g [(6, .int (wI v4)), (7, .int (wI v5)), (8, .int (wI v6)), (11, .int (wI q19)), (10, .int (wI p15)), (9, .int (nI i)), (5, .int (wI v4)), (4, .int (wI v3)), (3, .int (wI v2)), (2, .int (wI v1)), (1, .int (wI v0)), (0, .ref a0)] dX0_mixBlock_321 (by decide) rfl ?_
                    refine v_iload g dX0_mixBlock_323 7 rfl ?_
                    refine v_iload g dX0_mixBlock_325 4 rfl ?_
                    refine v_iaddW g (v3) (p15) rfl rfl dX0_mixBlock_327 ?_
                    refine v_istore g [(5, .int (wI (v3 + p15))), (6, .int (wI v4)), (7, .int (wI v5)), (8, .int (wI v6)), (11, .int (wI q19)), (10, .int (wI p15)), (9, .int (nI i)), (4, .int (wI v3)), (3, .int (wI v2)), (2, .int (wI v1)), (1, .int (wI v0)), (0, .ref a0)] dX0_mixBlock_328 (by decide) rfl ?_
                    refine v_iload_n g dX0_mixBlock_330 3 rfl 8 rfl ?_
                    refine v_istore g [(4, .int (wI v2)), (5, .int (wI (v3 + p15))), (6, .int (wI v4)), (7, .int (wI v5)), (8, .int (wI v6)), (11, .int (wI q19)), (10, .int (wI p15)), (9, .int (nI i)), (3, .int (wI v2)), (2, .int (wI v1)), (1, .int (wI v0)), (0, .ref a0)] dX0_mixBlock_331 (by decide) rfl ?_
                    refine v_iload_n g dX0_mixBlock_333 2 rfl 9 rfl ?_
                    refine v_istore_n g [(3, .int (wI v1)), (4, .int (wI v2)), (5, .int (wI (v3 + p15))), (6, .int (wI v4)), (7, .int (wI v5)), (8, .int (wI v6)), (11, .int (wI q19)), (10, .int (wI p15)), (9, .int (nI i)), (2, .int (wI v1)), (1, .int (wI v0)), (0, .ref a0)] dX0_mixBlock_334 3 rfl (by decide) rfl ?_
                    refine v_iload_n g dX0_mixBlock_335 1 rfl 10 rfl ?_
                    refine v_istore_n g [(2, .int (wI v0)), (3, .int (wI v1)), (4, .int (wI v2)), (5, .int (wI (v3 + p15))), (6, .int (wI v4)), (7, .int (wI v5)), (8, .int (wI v6)), (11, .int (wI q19)), (10, .int (wI p15)), (9, .int (nI i)), (1, .int (wI v0)), (0, .ref a0)] dX0_mixBlock_336 2 rfl (by decide) rfl ?_
                    refine v_iload g dX0_mixBlock_337 8 rfl ?_
                    refine v_iload g dX0_mixBlock_339 7 rfl ?_
                    refine v_iaddW g (p15) (q19) rfl rfl dX0_mixBlock_341 ?_
                    refine v_istore_n g [(1, .int (wI (p15 + q19))), (2, .int (wI v0)), (3, .int (wI v1)), (4, .int (wI v2)), (5, .int (wI (v3 + p15))), (6, .int (wI v4)), (7, .int (wI v5)), (8, .int (wI v6)), (11, .int (wI q19)), (10, .int (wI p15)), (9, .int (nI i)), (0, .ref a0)] dX0_mixBlock_342 1 rfl (by decide) rfl ?_
                    refine v_iincN g 1 [(9, .int (nI (i + 1))), (1, .int (wI (p15 + q19))), (2, .int (wI v0)), (3, .int (wI v1)), (4, .int (wI v2)), (5, .int (wI (v3 + p15))), (6, .int (wI v4)), (7, .int (wI v5)), (8, .int (wI v6)), (11, .int (wI q19)), (10, .int (wI p15)), (0, .ref a0)] dX0_mixBlock_343 10 rfl (by decide +kernel) (by decide) rfl ?_
                    refine v_goto g 214 dX0_mixBlock_346 (by decide) ?_
                    have ep : p15 = sh_p (shK i) (sh_w t_a0_pending 48 i) (sh_R (sh_w t_a0_pending 48) t_a0_sums i) := by rw [hp15, zw i hii, hv4, hv5, hv6, hv7]; rfl
                    have eq : q19 = sh_q (sh_R (sh_w t_a0_pending 48) t_a0_sums i) := by rw [hq19, hv0, hv1, hv2]; rfl
                    refine v_lpick [0, 8, 7, 6, 5, 4, 3, 2, 1, 11] [(9, .int (nI (i + 1))), (8, .int (wI v6)), (7, .int (wI v5)), (6, .int (wI v4)), (5, .int (wI (v3 + p15))), (4, .int (wI v2)), (3, .int (wI v1)), (2, .int (wI v0)), (1, .int (wI (p15 + q19))), (0, .ref a0)] rfl ?_
                    exact ih (p15 + q19) v0 v1 v2 (v3 + p15) v4 v5 v6 (by rw [ep, eq]; rfl) hv0 hv1 hv2 (by rw [ep, hv3]; rfl) hv4 hv5 hv6
                · skip
                  intro v0 v1 v2 v3 v4 v5 v6 v7 hv0 hv1 hv2 hv3 hv4 hv5 hv6 hv7
                  refine v_iload g dX0_mixBlock_214 0 rfl ?_
                  refine v_bipush g dX0_mixBlock_216 (v := nI 64) (by decide +kernel) ?_
                  refine v_icmp_geN g 349 dX0_mixBlock_218 (by decide) (by omega) (by omega) (fun h20 => ?_) (fun h20 => ?_)
                  · skip
                    refine v_aload_n g dX0_mixBlock_349 0 rfl 9 rfl ?_
                    refine gf_X0_7 g dX0_mixBlock_350 0 rfl rfl ?_
                    refine v_iconst g dX0_mixBlock_353 (v := nI 0) (by decide +kernel) ?_
                    refine v_dup2 g dX0_mixBlock_354 rfl rfl ?_
                    refine v_ialdW g 1 rfl (by decide) (by decide) dX0_mixBlock_355 ?_
                    refine v_iload_n g dX0_mixBlock_356 1 rfl 8 rfl ?_
                    refine v_iaddW g (t_a0_sums 0) (v0) rfl rfl dX0_mixBlock_357 ?_
                    obtain ⟨t21, ht21⟩ : ∃ z : Nat → Wd, z = va_up t_a0_sums 0 ((t_a0_sums 0) + v0) := ⟨_, rfl⟩
                    refine v_iastW g ((t_a0_sums 0) + v0) rfl t21 ht21 1 [(a0, .inr (0, [.ref a0_sums, .ref a0_words, .ref a0_pending, .int (nI v_a0_filled), .long (lN v_a0_total)])), (a0_sums, aW C.D 8 t21), (a0_words, aW C.D 64 w2), (a0_pending, aB C.D 64 t_a0_pending)] rfl (by decide) (by decide) dX0_mixBlock_358 rfl ?_
                    refine v_aload_n g dX0_mixBlock_359 0 rfl 9 rfl ?_
                    refine gf_X0_7 g dX0_mixBlock_360 0 rfl rfl ?_
                    refine v_iconst g dX0_mixBlock_363 (v := nI 1) (by decide +kernel) ?_
                    refine v_dup2 g dX0_mixBlock_364 rfl rfl ?_
                    refine v_ialdW g 1 rfl (by decide) (by decide) dX0_mixBlock_365 ?_
                    refine v_iload_n g dX0_mixBlock_366 2 rfl 7 rfl ?_
                    refine v_iaddW g (t21 1) (v1) rfl rfl dX0_mixBlock_367 ?_
                    obtain ⟨t22, ht22⟩ : ∃ z : Nat → Wd, z = va_up t21 1 ((t21 1) + v1) := ⟨_, rfl⟩
                    refine v_iastW g ((t21 1) + v1) rfl t22 ht22 1 [(a0, .inr (0, [.ref a0_sums, .ref a0_words, .ref a0_pending, .int (nI v_a0_filled), .long (lN v_a0_total)])), (a0_sums, aW C.D 8 t22), (a0_words, aW C.D 64 w2), (a0_pending, aB C.D 64 t_a0_pending)] rfl (by decide) (by decide) dX0_mixBlock_368 rfl ?_
                    refine v_aload_n g dX0_mixBlock_369 0 rfl 9 rfl ?_
                    refine gf_X0_7 g dX0_mixBlock_370 0 rfl rfl ?_
                    refine v_iconst g dX0_mixBlock_373 (v := nI 2) (by decide +kernel) ?_
                    refine v_dup2 g dX0_mixBlock_374 rfl rfl ?_
                    refine v_ialdW g 1 rfl (by decide) (by decide) dX0_mixBlock_375 ?_
                    refine v_iload_n g dX0_mixBlock_376 3 rfl 6 rfl ?_
                    refine v_iaddW g (t22 2) (v2) rfl rfl dX0_mixBlock_377 ?_
                    obtain ⟨t23, ht23⟩ : ∃ z : Nat → Wd, z = va_up t22 2 ((t22 2) + v2) := ⟨_, rfl⟩
                    refine v_iastW g ((t22 2) + v2) rfl t23 ht23 1 [(a0, .inr (0, [.ref a0_sums, .ref a0_words, .ref a0_pending, .int (nI v_a0_filled), .long (lN v_a0_total)])), (a0_sums, aW C.D 8 t23), (a0_words, aW C.D 64 w2), (a0_pending, aB C.D 64 t_a0_pending)] rfl (by decide) (by decide) dX0_mixBlock_378 rfl ?_
                    refine v_aload_n g dX0_mixBlock_379 0 rfl 9 rfl ?_
                    refine gf_X0_7 g dX0_mixBlock_380 0 rfl rfl ?_
                    refine v_iconst g dX0_mixBlock_383 (v := nI 3) (by decide +kernel) ?_
                    refine v_dup2 g dX0_mixBlock_384 rfl rfl ?_
                    refine v_ialdW g 1 rfl (by decide) (by decide) dX0_mixBlock_385 ?_
                    refine v_iload g dX0_mixBlock_386 5 rfl ?_
                    refine v_iaddW g (t23 3) (v3) rfl rfl dX0_mixBlock_388 ?_
                    obtain ⟨t24, ht24⟩ : ∃ z : Nat → Wd, z = va_up t23 3 ((t23 3) + v3) := ⟨_, rfl⟩
                    refine v_iastW g ((t23 3) + v3) rfl t24 ht24 1 [(a0, .inr (0, [.ref a0_sums, .ref a0_words, .ref a0_pending, .int (nI v_a0_filled), .long (lN v_a0_total)])), (a0_sums, aW C.D 8 t24), (a0_words, aW C.D 64 w2), (a0_pending, aB C.D 64 t_a0_pending)] rfl (by decide) (by decide) dX0_mixBlock_389 rfl ?_
                    refine v_aload_n g dX0_mixBlock_390 0 rfl 9 rfl ?_
                    refine gf_X0_7 g dX0_mixBlock_391 0 rfl rfl ?_
                    refine v_iconst g dX0_mixBlock_394 (v := nI 4) (by decide +kernel) ?_
                    refine v_dup2 g dX0_mixBlock_395 rfl rfl ?_
                    refine v_ialdW g 1 rfl (by decide) (by decide) dX0_mixBlock_396 ?_
                    refine v_iload g dX0_mixBlock_397 4 rfl ?_
                    refine v_iaddW g (t24 4) (v4) rfl rfl dX0_mixBlock_399 ?_
                    obtain ⟨t25, ht25⟩ : ∃ z : Nat → Wd, z = va_up t24 4 ((t24 4) + v4) := ⟨_, rfl⟩
                    refine v_iastW g ((t24 4) + v4) rfl t25 ht25 1 [(a0, .inr (0, [.ref a0_sums, .ref a0_words, .ref a0_pending, .int (nI v_a0_filled), .long (lN v_a0_total)])), (a0_sums, aW C.D 8 t25), (a0_words, aW C.D 64 w2), (a0_pending, aB C.D 64 t_a0_pending)] rfl (by decide) (by decide) dX0_mixBlock_400 rfl ?_
                    refine v_aload_n g dX0_mixBlock_401 0 rfl 9 rfl ?_
                    refine gf_X0_7 g dX0_mixBlock_402 0 rfl rfl ?_
                    refine v_iconst g dX0_mixBlock_405 (v := nI 5) (by decide +kernel) ?_
                    refine v_dup2 g dX0_mixBlock_406 rfl rfl ?_
                    refine v_ialdW g 1 rfl (by decide) (by decide) dX0_mixBlock_407 ?_
                    refine v_iload g dX0_mixBlock_408 3 rfl ?_
                    refine v_iaddW g (t25 5) (v5) rfl rfl dX0_mixBlock_410 ?_
                    obtain ⟨t26, ht26⟩ : ∃ z : Nat → Wd, z = va_up t25 5 ((t25 5) + v5) := ⟨_, rfl⟩
                    refine v_iastW g ((t25 5) + v5) rfl t26 ht26 1 [(a0, .inr (0, [.ref a0_sums, .ref a0_words, .ref a0_pending, .int (nI v_a0_filled), .long (lN v_a0_total)])), (a0_sums, aW C.D 8 t26), (a0_words, aW C.D 64 w2), (a0_pending, aB C.D 64 t_a0_pending)] rfl (by decide) (by decide) dX0_mixBlock_411 rfl ?_
                    refine v_aload_n g dX0_mixBlock_412 0 rfl 9 rfl ?_
                    refine gf_X0_7 g dX0_mixBlock_413 0 rfl rfl ?_
                    refine v_bipush g dX0_mixBlock_416 (v := nI 6) (by decide +kernel) ?_
                    refine v_dup2 g dX0_mixBlock_418 rfl rfl ?_
                    refine v_ialdW g 1 rfl (by decide) (by decide) dX0_mixBlock_419 ?_
                    refine v_iload g dX0_mixBlock_420 2 rfl ?_
                    refine v_iaddW g (t26 6) (v6) rfl rfl dX0_mixBlock_422 ?_
                    obtain ⟨t27, ht27⟩ : ∃ z : Nat → Wd, z = va_up t26 6 ((t26 6) + v6) := ⟨_, rfl⟩
                    refine v_iastW g ((t26 6) + v6) rfl t27 ht27 1 [(a0, .inr (0, [.ref a0_sums, .ref a0_words, .ref a0_pending, .int (nI v_a0_filled), .long (lN v_a0_total)])), (a0_sums, aW C.D 8 t27), (a0_words, aW C.D 64 w2), (a0_pending, aB C.D 64 t_a0_pending)] rfl (by decide) (by decide) dX0_mixBlock_423 rfl ?_
                    refine v_aload_n g dX0_mixBlock_424 0 rfl 9 rfl ?_
                    refine gf_X0_7 g dX0_mixBlock_425 0 rfl rfl ?_
                    refine v_bipush g dX0_mixBlock_428 (v := nI 7) (by decide +kernel) ?_
                    refine v_dup2 g dX0_mixBlock_430 rfl rfl ?_
                    refine v_ialdW g 1 rfl (by decide) (by decide) dX0_mixBlock_431 ?_
                    refine v_iload g dX0_mixBlock_432 1 rfl ?_
                    refine v_iaddW g (t27 7) (v7) rfl rfl dX0_mixBlock_434 ?_
                    obtain ⟨t28, ht28⟩ : ∃ z : Nat → Wd, z = va_up t27 7 ((t27 7) + v7) := ⟨_, rfl⟩
                    refine v_iastW g ((t27 7) + v7) rfl t28 ht28 1 [(a0, .inr (0, [.ref a0_sums, .ref a0_words, .ref a0_pending, .int (nI v_a0_filled), .long (lN v_a0_total)])), (a0_sums, aW C.D 8 t28), (a0_words, aW C.D 64 w2), (a0_pending, aB C.D 64 t_a0_pending)] rfl (by decide) (by decide) dX0_mixBlock_435 rfl ?_
                    have zz : ∀ j, j < 8 → t28 j = sh_c t_a0_sums t_a0_pending j := by
                      intro j hj
                      have h9 : j = 0 ∨ j = 1 ∨ j = 2 ∨ j = 3 ∨ j = 4 ∨ j = 5 ∨ j = 6 ∨ j = 7 := by omega
                      rcases h9 with rfl | rfl | rfl | rfl | rfl | rfl | rfl | rfl <;> simp [ht28, ht27, ht26, ht25, ht24, ht23, ht22, ht21, va_up, sh_c, hv0, hv1, hv2, hv3, hv4, hv5, hv6, hv7]
                    exact v_ret g R dX0_mixBlock_436 (by decide) (by decide) ⟨t28, w2, rfl, rfl, zz⟩
                  · skip
                    exact absurd h20 (by omega)
              exact L214_10 0 (by omega) (t_a0_sums 0) (t_a0_sums 1) (t_a0_sums 2) (t_a0_sums 3) (t_a0_sums 4) (t_a0_sums 5) (t_a0_sums 6) (t_a0_sums 7) rfl rfl rfl rfl rfl rfl rfl rfl
            · skip
              exact absurd h10 (by omega)
        exact L47_3 0 (by omega) w1 z1
      · skip
        exact absurd h3 (by omega)
  exact L2_0 0 (by omega) t_a0_words (fun q hq => by rw [show min 4 (0 - 4 * q) = 0 by omega]; rfl)
set_option maxHeartbeats 4000000 in
set_option maxRecDepth 100000 in
theorem c_DG_clear (l : Launch) (D : va_G) (a0 : Nat) (p1 : Nat) (a0_sums : Nat) (a0_words : Nat) (a0_pending : Nat) (v_a0_filled : Nat) (v_a0_total : Nat) (t_a0_pending : Nat → By)  (h1 : p1 ≤ 64) (h2 : v_a0_filled ≤ p1) : vM l D yX0_clearPending cX0_clearPending 3 none { frames := 0, cells := 0, slots := 0, locals := 0 } [.ref a0, .int (nI p1)] [(a0, .inr (0, [.ref a0_sums, .ref a0_words, .ref a0_pending, .int (nI v_a0_filled), .long (lN v_a0_total)])), (a0_pending, aB D 64 t_a0_pending)] (fun r wo => r = none ∧ wo = [(a0, .inr (0, [.ref a0_sums, .ref a0_words, .ref a0_pending, .int (nI v_a0_filled), .long (lN v_a0_total)])), (a0_pending, aB D 64 (cz t_a0_pending v_a0_filled p1))]) := by
  refine vM.of (by decide) (Nat.le_of_ble_eq_true rfl) (fun C hCl hCD g R => ?_)
  subst hCl; subst hCD
  show VJ C 0 0 0 [(0, .ref a0), (1, .int (nI p1))] [] [(a0, .inr (0, [.ref a0_sums, .ref a0_words, .ref a0_pending, .int (nI v_a0_filled), .long (lN v_a0_total)])), (a0_pending, aB C.D 64 t_a0_pending)]
  refine v_aload_n g dX0_clearPending_0 0 rfl 0 rfl ?_
  refine gf_X0_29 g dX0_clearPending_1 0 rfl rfl ?_
  refine v_istore_n g [(2, .int (nI v_a0_filled)), (0, .ref a0), (1, .int (nI p1))] dX0_clearPending_4 2 rfl (by decide) rfl ?_
  have L5_0 : ∀ i : Nat, i ≤ (p1 - v_a0_filled) → ∀ (tt : Nat → By), (tt = cz t_a0_pending v_a0_filled (v_a0_filled + i)) → VJ C 0 0 5 [(2, .int (nI (v_a0_filled + i))), (0, .ref a0), (1, .int (nI p1))] [] [(a0, .inr (0, [.ref a0_sums, .ref a0_words, .ref a0_pending, .int (nI v_a0_filled), .long (lN v_a0_total)])), (a0_pending, aB C.D 64 tt)] := by
    refine v_for ((p1 - v_a0_filled)) ?_ ?_
    · skip
      intro i hii ih tt hv0
      refine v_iload_n g dX0_clearPending_5 2 rfl 0 rfl ?_
      refine v_iload_n g dX0_clearPending_6 1 rfl 2 rfl ?_
      refine v_icmp_geN g 23 dX0_clearPending_7 (by decide) (by omega) (by omega) (fun h1 => ?_) (fun h1 => ?_)
      · skip
        exact absurd h1 (by omega)
      · skip
        refine v_aload_n g dX0_clearPending_10 0 rfl 1 rfl ?_
        refine gf_X0_16 g dX0_clearPending_11 0 rfl rfl ?_
        refine v_iload_n g dX0_clearPending_14 2 rfl 0 rfl ?_
        refine v_iconst g dX0_clearPending_15 (v := nI 0) (by decide +kernel) ?_
        obtain ⟨t2, ht2⟩ : ∃ z : Nat → By, z = va_up tt (v_a0_filled + i) 0#8 := ⟨_, rfl⟩
        refine v_bastB g (0#8) (by decide +kernel) t2 ht2 1 [(a0, .inr (0, [.ref a0_sums, .ref a0_words, .ref a0_pending, .int (nI v_a0_filled), .long (lN v_a0_total)])), (a0_pending, aB C.D 64 t2)] rfl (by omega) (by decide) dX0_clearPending_16 rfl ?_
        refine v_iincN g 1 [(2, .int (nI (v_a0_filled + i + 1))), (0, .ref a0), (1, .int (nI p1))] dX0_clearPending_17 0 rfl (by decide +kernel) (by decide) rfl ?_
        refine v_goto g 5 dX0_clearPending_20 (by decide) ?_
        exact ih t2 (by rw [ht2, hv0]; exact cz_s _ _ _)
    · skip
      intro tt hv0
      refine v_iload_n g dX0_clearPending_5 2 rfl 0 rfl ?_
      refine v_iload_n g dX0_clearPending_6 1 rfl 2 rfl ?_
      refine v_icmp_geN g 23 dX0_clearPending_7 (by decide) (by omega) (by omega) (fun h3 => ?_) (fun h3 => ?_)
      · skip
        have e4 : tt = cz t_a0_pending v_a0_filled p1 := by rw [hv0, show v_a0_filled + (p1 - v_a0_filled) = p1 by omega]
        rw [e4]
        exact v_ret g R dX0_clearPending_23 (by decide) (by decide) ⟨rfl, rfl⟩
      · skip
        exact absurd h3 (by omega)
  exact L5_0 0 (by omega) t_a0_pending ((cz_n _ (Nat.le_refl _)).symm)
set_option maxHeartbeats 4000000 in
set_option maxRecDepth 100000 in
theorem c_DG_start (l : Launch) (D : va_G) (a0 : Nat) (a0_sums : Nat) (a0_words : Nat) (a0_pending : Nat) (v_a0_filled : Nat) (v_a0_total : Nat) (t_a0_sums : Nat → Wd)   : vM l D yX0_start cX0_start 1 none { frames := 1, cells := 0, slots := 0, locals := 26 } [.ref a0] [(a0, .inr (0, [.ref a0_sums, .ref a0_words, .ref a0_pending, .int (nI v_a0_filled), .long (lN v_a0_total)])), (a0_sums, aW D 8 t_a0_sums)] (fun r wo => ∃ (s1 : Nat → Wd), r = none ∧ wo = [(a0, .inr (0, [.ref a0_sums, .ref a0_words, .ref a0_pending, .int (nI 0), .long (lN 0)])), (a0_sums, aW D 8 s1)] ∧ (∀ j, j < 8 → s1 j = shI j)) := by
  refine vM.of (by decide) (Nat.le_of_ble_eq_true rfl) (fun C hCl hCD g R => ?_)
  subst hCl; subst hCD
  show VJ C 0 0 0 [(0, .ref a0)] [] [(a0, .inr (0, [.ref a0_sums, .ref a0_words, .ref a0_pending, .int (nI v_a0_filled), .long (lN v_a0_total)])), (a0_sums, aW C.D 8 t_a0_sums)]
  refine v_gets g g.g0 sl_X0_20 dX0_start_0 ?_
  refine v_iconst g dX0_start_3 (v := nI 0) (by decide +kernel) ?_
  refine v_aload_n g dX0_start_4 0 rfl 0 rfl ?_
  refine gf_X0_7 g dX0_start_5 0 rfl rfl ?_
  refine v_iconst g dX0_start_8 (v := nI 0) (by decide +kernel) ?_
  refine v_bipush g dX0_start_9 (v := nI 8) (by decide +kernel) ?_
  obtain ⟨t1, ht1⟩ : ∃ z : Nat → Wd, z = va_cpy shI t_a0_sums 0 0 8 := ⟨_, rfl⟩
  refine v_acpT g ac_X0_23 g.g0.2 t1 ht1 1 [(a0, .inr (0, [.ref a0_sums, .ref a0_words, .ref a0_pending, .int (nI v_a0_filled), .long (lN v_a0_total)])), (a0_sums, aW C.D 8 t1)] rfl (by omega) (by omega) (by omega) (by decide) (Nat.le_of_ble_eq_true rfl) dX0_start_11 rfl ?_
  refine v_aload_n g dX0_start_14 0 rfl 0 rfl ?_
  refine v_iconst g dX0_start_15 (v := nI 0) (by decide +kernel) ?_
  refine pf_X0_29 g dX0_start_16 0 [(a0, .inr (0, [.ref a0_sums, .ref a0_words, .ref a0_pending, .int (nI 0), .long (lN v_a0_total)])), (a0_sums, aW C.D 8 t1)] rfl (Nat.le_of_ble_eq_true rfl) rfl ?_
  refine v_aload_n g dX0_start_19 0 rfl 0 rfl ?_
  refine v_lconst g dX0_start_20 (v := lN 0) (by decide +kernel) ?_
  refine pf_X0_33 g dX0_start_21 0 [(a0, .inr (0, [.ref a0_sums, .ref a0_words, .ref a0_pending, .int (nI 0), .long (lN 0)])), (a0_sums, aW C.D 8 t1)] rfl (Nat.le_of_ble_eq_true rfl) rfl ?_
  exact v_ret g R dX0_start_24 (by decide) (by decide) ⟨t1, rfl, rfl, (fun j hj => by rw [ht1, pk_cpy_in (by omega) (by omega), Nat.zero_add, Nat.sub_zero])⟩
set_option maxHeartbeats 4000000 in
set_option maxRecDepth 100000 in
theorem c_DG_put (l : Launch) (D : va_G) (a0 : Nat) (a1 : Nat) (p2 : Nat) (p3 : Wd) (a0_sums : Nat) (a0_words : Nat) (a0_pending : Nat) (v_a0_filled : Nat) (v_a0_total : Nat) (t_a0_sums : Nat → Wd) (t_a0_words : Nat → Wd) (t_a0_pending : Nat → By) (n1 : Nat) (t_a1 : Nat → By) (m : Nat → By) (len : Nat) (hf : v_a0_filled = len % 64) (ht : v_a0_total = len) (hR : dgR m len t_a0_sums t_a0_pending) (h2 : p2 ≤ n1) (hn : n1 < 2 ^ 31) : vM l D yX0_put cX0_put 5 none { frames := 2, cells := 0, slots := 0, locals := 52 } [.ref a0, .ref a1, .int (nI p2), .int (wI p3)] [(a0, .inr (0, [.ref a0_sums, .ref a0_words, .ref a0_pending, .int (nI v_a0_filled), .long (lN v_a0_total)])), (a0_sums, aW D 8 t_a0_sums), (a0_words, aW D 64 t_a0_words), (a0_pending, aB D 64 t_a0_pending), (a1, aB D n1 t_a1)] (fun r wo => ∃ (s1 : Nat → Wd) (w1 : Nat → Wd) (b1 : Nat → By), r = none ∧ wo = [(a0, .inr (0, [.ref a0_sums, .ref a0_words, .ref a0_pending, .int (nI ((len + p2) % 64)), .long (lN (len + p2))])), (a0_sums, aW D 8 s1), (a0_words, aW D 64 w1), (a0_pending, aB D 64 b1), (a1, aB D n1 t_a1)] ∧ (dgR (cat m len (fun j => t_a1 j ^^^ p3.setWidth 8)) (len + p2) s1 b1)) := by
  refine vM.of (by decide) (Nat.le_of_ble_eq_true rfl) (fun C hCl hCD g R => ?_)
  subst hCl; subst hCD
  show VJ C 0 0 0 [(0, .ref a0), (1, .ref a1), (2, .int (nI p2)), (3, .int (wI p3))] [] [(a0, .inr (0, [.ref a0_sums, .ref a0_words, .ref a0_pending, .int (nI v_a0_filled), .long (lN v_a0_total)])), (a0_sums, aW C.D 8 t_a0_sums), (a0_words, aW C.D 64 t_a0_words), (a0_pending, aB C.D 64 t_a0_pending), (a1, aB C.D n1 t_a1)]
  refine v_iconst g dX0_put_0 (v := nI 0) (by decide +kernel) ?_
  refine v_istore g [(4, .int (nI 0)), (0, .ref a0), (1, .ref a1), (2, .int (nI p2)), (3, .int (wI p3))] dX0_put_1 (by decide) rfl ?_
  have L3_0 : ∀ i : Nat, i ≤ p2 → ∀ (s2 : Nat → Wd) (w2 : Nat → Wd) (b2 : Nat → By) (f2 : Nat), (f2 = (len + i) % 64) → (dgR (cat m len (fun j => t_a1 j ^^^ p3.setWidth 8)) (len + i) s2 b2) → VJ C 0 0 3 [(4, .int (nI i)), (0, .ref a0), (1, .ref a1), (2, .int (nI p2)), (3, .int (wI p3))] [] [(a0, .inr (0, [.ref a0_sums, .ref a0_words, .ref a0_pending, .int (nI f2), .long (lN v_a0_total)])), (a0_sums, aW C.D 8 s2), (a0_words, aW C.D 64 w2), (a0_pending, aB C.D 64 b2), (a1, aB C.D n1 t_a1)] := by
    refine v_for (p2) ?_ ?_
    · skip
      intro i hii ih s2 w2 b2 f2 hv0 hv1
      refine v_iload g dX0_put_3 0 rfl ?_
      refine v_iload_n g dX0_put_5 2 rfl 3 rfl ?_
      refine v_icmp_geN g 59 dX0_put_6 (by decide) (by omega) (by omega) (fun h1 => ?_) (fun h1 => ?_)
      · skip
        exact absurd h1 (by omega)
      · skip
        refine v_aload_n g dX0_put_9 0 rfl 1 rfl ?_
        refine gf_X0_16 g dX0_put_10 0 rfl rfl ?_
        refine v_aload_n g dX0_put_13 0 rfl 1 rfl ?_
        refine gf_X0_29 g dX0_put_14 0 rfl rfl ?_
        refine v_aload_n g dX0_put_17 1 rfl 2 rfl ?_
        refine v_iload g dX0_put_18 0 rfl ?_
        refine v_baldB g 4 rfl (by omega) (by omega) dX0_put_20 ?_
        refine v_iload_n g dX0_put_21 3 rfl 4 rfl ?_
        refine v_ixorW g ((t_a1 i).signExtend 32) (p3) (bI_w (t_a1 i)) rfl dX0_put_22 ?_
        refine v_i2bW g (((t_a1 i).signExtend 32) ^^^ p3) rfl dX0_put_23 ?_
        obtain ⟨t2, ht2⟩ : ∃ z : Nat → By, z = va_up b2 f2 ((((t_a1 i).signExtend 32) ^^^ p3).setWidth 8) := ⟨_, rfl⟩
        refine v_bastB g ((((t_a1 i).signExtend 32) ^^^ p3).setWidth 8) rfl t2 ht2 3 [(a0, .inr (0, [.ref a0_sums, .ref a0_words, .ref a0_pending, .int (nI f2), .long (lN v_a0_total)])), (a0_sums, aW C.D 8 s2), (a0_words, aW C.D 64 w2), (a0_pending, aB C.D 64 t2), (a1, aB C.D n1 t_a1)] rfl (by omega) (by decide) dX0_put_24 rfl ?_
        refine v_aload_n g dX0_put_25 0 rfl 1 rfl ?_
        refine v_dup g dX0_put_26 rfl ?_
        refine gf_X0_29 g dX0_put_27 0 rfl rfl ?_
        refine v_iconst g dX0_put_30 (v := nI 1) (by decide +kernel) ?_
        refine v_iaddN g dX0_put_31 ?_
        refine pf_X0_29 g dX0_put_32 0 [(a0, .inr (0, [.ref a0_sums, .ref a0_words, .ref a0_pending, .int (nI (f2 + 1)), .long (lN v_a0_total)])), (a0_sums, aW C.D 8 s2), (a0_words, aW C.D 64 w2), (a0_pending, aB C.D 64 t2), (a1, aB C.D n1 t_a1)] rfl (Nat.le_of_ble_eq_true rfl) rfl ?_
        refine v_aload_n g dX0_put_35 0 rfl 1 rfl ?_
        refine gf_X0_29 g dX0_put_36 0 rfl rfl ?_
        refine v_bipush g dX0_put_39 (v := nI 64) (by decide +kernel) ?_
        have qv : ((t_a1 i).signExtend 32 ^^^ p3).setWidth 8 = cat m len (fun j => t_a1 j ^^^ p3.setWidth 8) (len + i) := by rw [xb_byte]; exact cat_at m len (fun j => t_a1 j ^^^ p3.setWidth 8) i
        have qt : t2 = va_up b2 ((len + i) % 64) (((t_a1 i).signExtend 32 ^^^ p3).setWidth 8) := by rw [ht2, hv0]
        refine v_icmp_neN g 53 dX0_put_41 (by decide) (by omega) (by omega) (fun h3 => ?_) (fun h3 => ?_)
        · skip
          refine v_iincN g 1 [(4, .int (nI (i + 1))), (0, .ref a0), (1, .ref a1), (2, .int (nI p2)), (3, .int (wI p3))] dX0_put_53 0 rfl (by decide +kernel) (by decide) rfl ?_
          refine v_goto g 3 dX0_put_56 (by decide) ?_
          exact ih s2 w2 t2 (f2 + 1) (by omega) (dgR_s1 (L := len + i) hv1 qv qt (by omega))
        · skip
          refine v_aload_n g dX0_put_44 0 rfl 1 rfl ?_
          refine v_callV (As := []) (rest := []) (wr := [(a1, aB C.D n1 t_a1)]) cw_X0_37 (hy_X0_mixBlock) g (c_DG_mix C.l C.D a0 a0_sums a0_words a0_pending (f2 + 1) v_a0_total s2 w2 t2 ) dX0_put_45 0 rfl rfl rfl (by decide) (by decide) (Nat.le_of_ble_eq_true rfl) [0, 1, 2, 3] [4] rfl rfl (by decide) rfl (by decide) (by decide) _ rfl (fun r wo hp4 => ?_)
          obtain ⟨sB, wB, rfl, rfl, hB⟩ := hp4
          refine v_perm [1, 2, 3, 4, 0] [(a0, .inr (0, [.ref a0_sums, .ref a0_words, .ref a0_pending, .int (nI (f2 + 1)), .long (lN v_a0_total)])), (a0_sums, aW C.D 8 sB), (a0_words, aW C.D 64 wB), (a0_pending, aB C.D 64 t2), (a1, aB C.D n1 t_a1)] (by decide) rfl rfl ?_
          show VJ C 0 0 48 [(4, .int (nI i)), (0, .ref a0), (1, .ref a1), (2, .int (nI p2)), (3, .int (wI p3))] [] [(a0, .inr (0, [.ref a0_sums, .ref a0_words, .ref a0_pending, .int (nI (f2 + 1)), .long (lN v_a0_total)])), (a0_sums, aW C.D 8 sB), (a0_words, aW C.D 64 wB), (a0_pending, aB C.D 64 t2), (a1, aB C.D n1 t_a1)]
          refine v_aload_n g dX0_put_48 0 rfl 1 rfl ?_
          refine v_iconst g dX0_put_49 (v := nI 0) (by decide +kernel) ?_
          refine pf_X0_29 g dX0_put_50 0 [(a0, .inr (0, [.ref a0_sums, .ref a0_words, .ref a0_pending, .int (nI 0), .long (lN v_a0_total)])), (a0_sums, aW C.D 8 sB), (a0_words, aW C.D 64 wB), (a0_pending, aB C.D 64 t2), (a1, aB C.D n1 t_a1)] rfl (Nat.le_of_ble_eq_true rfl) rfl ?_
          refine v_iincN g 1 [(4, .int (nI (i + 1))), (0, .ref a0), (1, .ref a1), (2, .int (nI p2)), (3, .int (wI p3))] dX0_put_53 0 rfl (by decide +kernel) (by decide) rfl ?_
          refine v_goto g 3 dX0_put_56 (by decide) ?_
          exact ih sB wB t2 0 (by omega) (dgR_s2 (L := len + i) hv1 qv qt (by omega) hB)
    · skip
      intro s2 w2 b2 f2 hv0 hv1
      refine v_iload g dX0_put_3 0 rfl ?_
      refine v_iload_n g dX0_put_5 2 rfl 3 rfl ?_
      refine v_icmp_geN g 59 dX0_put_6 (by decide) (by omega) (by omega) (fun h5 => ?_) (fun h5 => ?_)
      · skip
        refine v_aload_n g dX0_put_59 0 rfl 1 rfl ?_
        refine v_dup g dX0_put_60 rfl ?_
        refine gf_X0_33 g dX0_put_61 0 rfl rfl ?_
        refine v_iload_n g dX0_put_64 2 rfl 3 rfl ?_
        refine v_i2lN g (by omega) dX0_put_65 ?_
        refine v_laddN g dX0_put_66 ?_
        refine pf_X0_33 g dX0_put_67 0 [(a0, .inr (0, [.ref a0_sums, .ref a0_words, .ref a0_pending, .int (nI f2), .long (lN (v_a0_total + p2))])), (a0_sums, aW C.D 8 s2), (a0_words, aW C.D 64 w2), (a0_pending, aB C.D 64 b2), (a1, aB C.D n1 t_a1)] rfl (Nat.le_of_ble_eq_true rfl) rfl ?_
        have e6 : f2 = (len + p2) % 64 := by exact hv0
        rw [e6]
        have e7 : v_a0_total + p2 = len + p2 := by rw [ht]
        rw [e7]
        exact v_ret g R dX0_put_70 (by decide) (by decide) ⟨s2, w2, b2, rfl, rfl, hv1⟩
      · skip
        exact absurd h5 (by omega)
  exact L3_0 0 (by omega) t_a0_sums t_a0_words t_a0_pending v_a0_filled (by omega) (dgR_congr (fun j hj => (cat_lo _ _ _ hj).symm) hR)
set_option maxHeartbeats 4000000 in
set_option maxRecDepth 100000 in
theorem c_DG_fin (l : Launch) (D : va_G) (a0 : Nat) (a1 : Nat) (a0_sums : Nat) (a0_words : Nat) (a0_pending : Nat) (v_a0_filled : Nat) (v_a0_total : Nat) (t_a0_sums : Nat → Wd) (t_a0_words : Nat → Wd) (t_a0_pending : Nat → By) (n1 : Nat) (t_a1 : Nat → By) (m : Nat → By) (len : Nat) (hf : v_a0_filled = len % 64) (ht : v_a0_total = len) (hR : dgR m len t_a0_sums t_a0_pending) (hl : len < 2 ^ 60) (h2 : 32 ≤ n1) (hn : n1 < 2 ^ 31) : vM l D yX0_finish cX0_finish 3 none { frames := 2, cells := 0, slots := 0, locals := 52 } [.ref a0, .ref a1] [(a0, .inr (0, [.ref a0_sums, .ref a0_words, .ref a0_pending, .int (nI v_a0_filled), .long (lN v_a0_total)])), (a0_sums, aW D 8 t_a0_sums), (a0_words, aW D 64 t_a0_words), (a0_pending, aB D 64 t_a0_pending), (a1, aB D n1 t_a1)] (fun r wo => ∃ (f1 : Nat) (s1 : Nat → Wd) (w1 : Nat → Wd) (b1 : Nat → By) (r1 : Nat → By), r = none ∧ wo = [(a0, .inr (0, [.ref a0_sums, .ref a0_words, .ref a0_pending, .int (nI f1), .long (lN v_a0_total)])), (a0_sums, aW D 8 s1), (a0_words, aW D 64 w1), (a0_pending, aB D 64 b1), (a1, aB D n1 r1)] ∧ (∀ j, j < 32 → r1 j = digF m len j) ∧ (∀ j, 32 ≤ j → r1 j = t_a1 j)) := by
  refine vM.of (by decide) (Nat.le_of_ble_eq_true rfl) (fun C hCl hCD g R => ?_)
  subst hCl; subst hCD
  show VJ C 0 0 0 [(0, .ref a0), (1, .ref a1)] [] [(a0, .inr (0, [.ref a0_sums, .ref a0_words, .ref a0_pending, .int (nI v_a0_filled), .long (lN v_a0_total)])), (a0_sums, aW C.D 8 t_a0_sums), (a0_words, aW C.D 64 t_a0_words), (a0_pending, aB C.D 64 t_a0_pending), (a1, aB C.D n1 t_a1)]
  have J45 : ∀ (f4 : Nat) (s4 : Nat → Wd) (w4 : Nat → Wd) (b4 : Nat → By) (q : Nat), (f4 ≤ 56) → (∀ j, j < 8 → s4 j = sh_H (sh_pad m len) q j) → (q + 1 = sh_bl len) → (∀ p4 : Nat → By, (∀ j, j < 56 → p4 j = cz b4 f4 56 j) → (∀ i, i < 8 → p4 (63 - i) = BitVec.ofNat 8 (8 * len / 2 ^ (8 * i))) → ∀ j, j < 64 → p4 j = sh_pad m len (64 * q + j)) → VJ C 0 0 45 [(0, .ref a0), (1, .ref a1)] [] [(a0, .inr (0, [.ref a0_sums, .ref a0_words, .ref a0_pending, .int (nI f4), .long (lN v_a0_total)])), (a0_sums, aW C.D 8 s4), (a0_words, aW C.D 64 w4), (a0_pending, aB C.D 64 b4), (a1, aB C.D n1 t_a1)] := by
    intro f4 s4 w4 b4 q hj0 hj1 hj2 hj3
    refine v_aload_n g dX0_finish_45 0 rfl 0 rfl ?_
    refine v_bipush g dX0_finish_46 (v := nI 56) (by decide +kernel) ?_
    refine v_callV (As := [.int (nI 56)]) (rest := []) (wr := [(a0_sums, aW C.D 8 s4), (a0_words, aW C.D 64 w4), (a1, aB C.D n1 t_a1)]) cw_X0_40 (hy_X0_clearPending) g (c_DG_clear C.l C.D a0 56 a0_sums a0_words a0_pending f4 v_a0_total b4 (by omega) hj0) dX0_finish_48 0 rfl rfl rfl (by decide) (by decide) (Nat.le_of_ble_eq_true rfl) [0, 3] [1, 2, 4] rfl rfl (by decide) rfl (by decide) (by decide) _ rfl (fun r wo hp1 => ?_)
    obtain ⟨rfl, rfl⟩ := hp1
    refine v_perm [3, 0, 1, 4, 2] [(a0, .inr (0, [.ref a0_sums, .ref a0_words, .ref a0_pending, .int (nI f4), .long (lN v_a0_total)])), (a0_sums, aW C.D 8 s4), (a0_words, aW C.D 64 w4), (a0_pending, aB C.D 64 (cz b4 f4 56)), (a1, aB C.D n1 t_a1)] (by decide) rfl rfl ?_
    show VJ C 0 0 51 [(0, .ref a0), (1, .ref a1)] [] [(a0, .inr (0, [.ref a0_sums, .ref a0_words, .ref a0_pending, .int (nI f4), .long (lN v_a0_total)])), (a0_sums, aW C.D 8 s4), (a0_words, aW C.D 64 w4), (a0_pending, aB C.D 64 (cz b4 f4 56)), (a1, aB C.D n1 t_a1)]
    refine v_iconst g dX0_finish_51 (v := nI 0) (by decide +kernel) ?_
    refine v_istore_n g [(2, .int (nI 0)), (0, .ref a0), (1, .ref a1)] dX0_finish_52 2 rfl (by decide) rfl ?_
    have L53_1 : ∀ i : Nat, i ≤ 8 → ∀ (t5 : Nat → By), (∀ j, j < 56 → t5 j = cz b4 f4 56 j) → (∀ k, k < i → t5 (63 - k) = BitVec.ofNat 8 (8 * v_a0_total / 2 ^ (8 * k))) → VJ C 0 0 53 [(2, .int (nI i)), (0, .ref a0), (1, .ref a1)] [] [(a0, .inr (0, [.ref a0_sums, .ref a0_words, .ref a0_pending, .int (nI f4), .long (lN v_a0_total)])), (a0_sums, aW C.D 8 s4), (a0_words, aW C.D 64 w4), (a0_pending, aB C.D 64 t5), (a1, aB C.D n1 t_a1)] := by
      refine v_for (8) ?_ ?_
      · skip
        intro i hii ih t5 hv0 hv1
        refine v_iload_n g dX0_finish_53 2 rfl 0 rfl ?_
        refine v_bipush g dX0_finish_54 (v := nI 8) (by decide +kernel) ?_
        refine v_icmp_geN g 89 dX0_finish_56 (by decide) (by omega) (by omega) (fun h2 => ?_) (fun h2 => ?_)
        · skip
          exact absurd h2 (by omega)
        · skip
          refine v_aload_n g dX0_finish_59 0 rfl 1 rfl ?_
          refine gf_X0_16 g dX0_finish_60 0 rfl rfl ?_
          refine v_bipush g dX0_finish_63 (v := nI 63) (by decide +kernel) ?_
          refine v_iload_n g dX0_finish_65 2 rfl 0 rfl ?_
          refine v_isubN g dX0_finish_66 (by omega) ?_
          refine v_ldc2 g dX0_finish_67 kl_X0_44 ?_
          refine v_aload_n g dX0_finish_70 0 rfl 1 rfl ?_
          refine gf_X0_33 g dX0_finish_71 0 rfl rfl ?_
          refine v_lmulN g dX0_finish_74 ?_
          refine v_bipush g dX0_finish_75 (v := nI 8) (by decide +kernel) ?_
          refine v_iload_n g dX0_finish_77 2 rfl 0 rfl ?_
          refine v_imulN g dX0_finish_78 ?_
          refine v_lushrN g (by omega) (by omega) dX0_finish_79 ?_
          refine v_l2iN g dX0_finish_80 ?_
          refine v_i2bN g dX0_finish_81 ?_
          obtain ⟨t3, ht3⟩ : ∃ z : Nat → By, z = va_up t5 (63 - i) (BitVec.ofNat 8 ((8 * v_a0_total) / 2 ^ (8 * i))) := ⟨_, rfl⟩
          refine v_bastB g (BitVec.ofNat 8 ((8 * v_a0_total) / 2 ^ (8 * i))) rfl t3 ht3 3 [(a0, .inr (0, [.ref a0_sums, .ref a0_words, .ref a0_pending, .int (nI f4), .long (lN v_a0_total)])), (a0_sums, aW C.D 8 s4), (a0_words, aW C.D 64 w4), (a0_pending, aB C.D 64 t3), (a1, aB C.D n1 t_a1)] rfl (by omega) (by decide) dX0_finish_82 rfl ?_
          refine v_iincN g 1 [(2, .int (nI (i + 1))), (0, .ref a0), (1, .ref a1)] dX0_finish_83 0 rfl (by decide +kernel) (by decide) rfl ?_
          refine v_goto g 53 dX0_finish_86 (by decide) ?_
          exact ih t3 (fun j hj => by rw [ht3, va_up_ne _ _ (by omega)]; exact hv0 j hj) (up_down (F := fun k => BitVec.ofNat 8 (8 * v_a0_total / 2 ^ (8 * k))) (by omega) hv1 rfl ht3)
      · skip
        intro t5 hv0 hv1
        refine v_iload_n g dX0_finish_53 2 rfl 0 rfl ?_
        refine v_bipush g dX0_finish_54 (v := nI 8) (by decide +kernel) ?_
        refine v_icmp_geN g 89 dX0_finish_56 (by decide) (by omega) (by omega) (fun h4 => ?_) (fun h4 => ?_)
        · skip
          refine v_aload_n g dX0_finish_89 0 rfl 1 rfl ?_
          refine v_callV (As := []) (rest := []) (wr := [(a1, aB C.D n1 t_a1)]) cw_X0_37 (hy_X0_mixBlock) g (c_DG_mix C.l C.D a0 a0_sums a0_words a0_pending f4 v_a0_total s4 w4 t5 ) dX0_finish_90 0 rfl rfl rfl (by decide) (by decide) (Nat.le_of_ble_eq_true rfl) [0, 1, 2, 3] [4] rfl rfl (by decide) rfl (by decide) (by decide) _ rfl (fun r wo hp5 => ?_)
          obtain ⟨sD, wD, rfl, rfl, hD⟩ := hp5
          refine v_perm [1, 2, 3, 4, 0] [(a0, .inr (0, [.ref a0_sums, .ref a0_words, .ref a0_pending, .int (nI f4), .long (lN v_a0_total)])), (a0_sums, aW C.D 8 sD), (a0_words, aW C.D 64 wD), (a0_pending, aB C.D 64 t5), (a1, aB C.D n1 t_a1)] (by decide) rfl rfl ?_
          show VJ C 0 0 93 [(2, .int (nI 8)), (0, .ref a0), (1, .ref a1)] [] [(a0, .inr (0, [.ref a0_sums, .ref a0_words, .ref a0_pending, .int (nI f4), .long (lN v_a0_total)])), (a0_sums, aW C.D 8 sD), (a0_words, aW C.D 64 wD), (a0_pending, aB C.D 64 t5), (a1, aB C.D n1 t_a1)]
          have zD : ∀ j, j < 8 → sD j = digW m len j := by
            have h1 := fin_next hj1 (hj3 t5 hv0 (fun k hk => by rw [hv1 k hk, ht])) hD
            rw [hj2] at h1; exact h1
          refine v_iconst g dX0_finish_93 (v := nI 0) (by decide +kernel) ?_
          refine v_istore_n g [(2, .int (nI 0)), (0, .ref a0), (1, .ref a1)] dX0_finish_94 2 rfl (by decide) rfl ?_
          have L95_5 : ∀ i : Nat, i ≤ 32 → ∀ (r6 : Nat → By), (∀ j, j < i → r6 j = digF m len j) → (∀ j, 32 ≤ j → r6 j = t_a1 j) → VJ C 0 0 95 [(2, .int (nI i)), (0, .ref a0), (1, .ref a1)] [] [(a0, .inr (0, [.ref a0_sums, .ref a0_words, .ref a0_pending, .int (nI f4), .long (lN v_a0_total)])), (a0_sums, aW C.D 8 sD), (a0_words, aW C.D 64 wD), (a0_pending, aB C.D 64 t5), (a1, aB C.D n1 r6)] := by
            refine v_for (32) ?_ ?_
            · skip
              intro i hii ih r6 hv0 hv1
              refine v_iload_n g dX0_finish_95 2 rfl 0 rfl ?_
              refine v_bipush g dX0_finish_96 (v := nI 32) (by decide +kernel) ?_
              refine v_icmp_geN g 129 dX0_finish_98 (by decide) (by omega) (by omega) (fun h6 => ?_) (fun h6 => ?_)
              · skip
                exact absurd h6 (by omega)
              · skip
                refine v_aload_n g dX0_finish_101 1 rfl 2 rfl ?_
                refine v_iload_n g dX0_finish_102 2 rfl 0 rfl ?_
                refine v_aload_n g dX0_finish_103 0 rfl 1 rfl ?_
                refine gf_X0_7 g dX0_finish_104 0 rfl rfl ?_
                refine v_iload_n g dX0_finish_107 2 rfl 0 rfl ?_
                refine v_iconst g dX0_finish_108 (v := nI 2) (by decide +kernel) ?_
                refine v_ishrN g (by omega) (by omega) dX0_finish_109 ?_
                refine v_ialdW g 1 rfl (by omega) (by decide) dX0_finish_110 ?_
                refine v_bipush g dX0_finish_111 (v := nI 24) (by decide +kernel) ?_
                refine v_bipush g dX0_finish_113 (v := nI 8) (by decide +kernel) ?_
                refine v_iload_n g dX0_finish_115 2 rfl 0 rfl ?_
                refine v_iconst g dX0_finish_116 (v := nI 3) (by decide +kernel) ?_
                refine v_iandM g 2 (by decide) dX0_finish_117 ?_
                refine v_imulN g dX0_finish_118 ?_
                refine v_isubN g dX0_finish_119 (by omega) ?_
                refine v_iushrW g (sD (i / 2 ^ 2)) rfl (by omega) dX0_finish_120 ?_
                refine v_i2bW g ((sD (i / 2 ^ 2)) >>> (24 - (8 * (i % 2 ^ 2)))) rfl dX0_finish_121 ?_
                obtain ⟨t7, ht7⟩ : ∃ z : Nat → By, z = va_up r6 i (((sD (i / 2 ^ 2)) >>> (24 - (8 * (i % 2 ^ 2)))).setWidth 8) := ⟨_, rfl⟩
                refine v_bastB g (((sD (i / 2 ^ 2)) >>> (24 - (8 * (i % 2 ^ 2)))).setWidth 8) rfl t7 ht7 4 [(a0, .inr (0, [.ref a0_sums, .ref a0_words, .ref a0_pending, .int (nI f4), .long (lN v_a0_total)])), (a0_sums, aW C.D 8 sD), (a0_words, aW C.D 64 wD), (a0_pending, aB C.D 64 t5), (a1, aB C.D n1 t7)] rfl (by omega) (by omega) dX0_finish_122 rfl ?_
                refine v_iincN g 1 [(2, .int (nI (i + 1))), (0, .ref a0), (1, .ref a1)] dX0_finish_123 0 rfl (by decide +kernel) (by decide) rfl ?_
                refine v_goto g 95 dX0_finish_126 (by decide) ?_
                exact ih t7 (dg_out hii zD hv0 ht7) (fun j hj => by rw [ht7, va_up_ne _ _ (by omega)]; exact hv1 j hj)
            · skip
              intro r6 hv0 hv1
              refine v_iload_n g dX0_finish_95 2 rfl 0 rfl ?_
              refine v_bipush g dX0_finish_96 (v := nI 32) (by decide +kernel) ?_
              refine v_icmp_geN g 129 dX0_finish_98 (by decide) (by omega) (by omega) (fun h8 => ?_) (fun h8 => ?_)
              · skip
                exact v_ret g R dX0_finish_129 (by decide) (by decide) ⟨f4, sD, wD, t5, r6, rfl, rfl, hv0, hv1⟩
              · skip
                exact absurd h8 (by omega)
          exact L95_5 0 (by omega) t_a1 (fun j hj => absurd hj (by omega)) (fun j hj => rfl)
        · skip
          exact absurd h4 (by omega)
    exact L53_1 0 (by omega) (cz b4 f4 56) (fun j hj => rfl) (fun k hk => absurd hk (by omega))
  refine v_aload_n g dX0_finish_0 0 rfl 0 rfl ?_
  refine gf_X0_16 g dX0_finish_1 0 rfl rfl ?_
  refine v_aload_n g dX0_finish_4 0 rfl 0 rfl ?_
  refine gf_X0_29 g dX0_finish_5 0 rfl rfl ?_
  refine v_bipush g dX0_finish_8 (v := wI 4294967168#32) (by decide +kernel) ?_
  obtain ⟨t9, ht9⟩ : ∃ z : Nat → By, z = va_up t_a0_pending v_a0_filled 128#8 := ⟨_, rfl⟩
  refine v_bastB g (128#8) (by decide +kernel) t9 ht9 3 [(a0, .inr (0, [.ref a0_sums, .ref a0_words, .ref a0_pending, .int (nI v_a0_filled), .long (lN v_a0_total)])), (a0_sums, aW C.D 8 t_a0_sums), (a0_words, aW C.D 64 t_a0_words), (a0_pending, aB C.D 64 t9), (a1, aB C.D n1 t_a1)] rfl (by omega) (by decide) dX0_finish_10 rfl ?_
  refine v_aload_n g dX0_finish_11 0 rfl 0 rfl ?_
  refine v_dup g dX0_finish_12 rfl ?_
  refine gf_X0_29 g dX0_finish_13 0 rfl rfl ?_
  refine v_iconst g dX0_finish_16 (v := nI 1) (by decide +kernel) ?_
  refine v_iaddN g dX0_finish_17 ?_
  refine pf_X0_29 g dX0_finish_18 0 [(a0, .inr (0, [.ref a0_sums, .ref a0_words, .ref a0_pending, .int (nI (v_a0_filled + 1)), .long (lN v_a0_total)])), (a0_sums, aW C.D 8 t_a0_sums), (a0_words, aW C.D 64 t_a0_words), (a0_pending, aB C.D 64 t9), (a1, aB C.D n1 t_a1)] rfl (Nat.le_of_ble_eq_true rfl) rfl ?_
  refine v_aload_n g dX0_finish_21 0 rfl 0 rfl ?_
  refine gf_X0_29 g dX0_finish_22 0 rfl rfl ?_
  refine v_bipush g dX0_finish_25 (v := nI 56) (by decide +kernel) ?_
  have qt : t9 = va_up t_a0_pending (len % 64) 128#8 := by rw [ht9, hf]
  refine v_icmp_leN g 45 dX0_finish_27 (by decide) (by omega) (by omega) (fun h10 => ?_) (fun h10 => ?_)
  · skip
    have hA : len % 64 + 1 ≤ 56 := by omega
    exact J45 (v_a0_filled + 1) t_a0_sums t_a0_words t9 (len / 64) (by omega) (fin_H hR.1) (by unfold sh_bl; omega) (fun p4 h4 h8 => fin_A hR.2 hA (fun j hj => by rw [h4 j hj, qt, hf]) h8)
  · skip
    have hB : 56 < len % 64 + 1 := by omega
    refine v_aload_n g dX0_finish_30 0 rfl 0 rfl ?_
    refine v_bipush g dX0_finish_31 (v := nI 64) (by decide +kernel) ?_
    refine v_callV (As := [.int (nI 64)]) (rest := []) (wr := [(a0_sums, aW C.D 8 t_a0_sums), (a0_words, aW C.D 64 t_a0_words), (a1, aB C.D n1 t_a1)]) cw_X0_40 (hy_X0_clearPending) g (c_DG_clear C.l C.D a0 64 a0_sums a0_words a0_pending (v_a0_filled + 1) v_a0_total t9 (by omega) (by omega)) dX0_finish_33 0 rfl rfl rfl (by decide) (by decide) (Nat.le_of_ble_eq_true rfl) [0, 3] [1, 2, 4] rfl rfl (by decide) rfl (by decide) (by decide) _ rfl (fun r wo hp11 => ?_)
    obtain ⟨rfl, rfl⟩ := hp11
    refine v_perm [3, 0, 1, 4, 2] [(a0, .inr (0, [.ref a0_sums, .ref a0_words, .ref a0_pending, .int (nI (v_a0_filled + 1)), .long (lN v_a0_total)])), (a0_sums, aW C.D 8 t_a0_sums), (a0_words, aW C.D 64 t_a0_words), (a0_pending, aB C.D 64 (cz t9 (v_a0_filled + 1) 64)), (a1, aB C.D n1 t_a1)] (by decide) rfl rfl ?_
    show VJ C 0 0 36 [(0, .ref a0), (1, .ref a1)] [] [(a0, .inr (0, [.ref a0_sums, .ref a0_words, .ref a0_pending, .int (nI (v_a0_filled + 1)), .long (lN v_a0_total)])), (a0_sums, aW C.D 8 t_a0_sums), (a0_words, aW C.D 64 t_a0_words), (a0_pending, aB C.D 64 (cz t9 (v_a0_filled + 1) 64)), (a1, aB C.D n1 t_a1)]
    refine v_aload_n g dX0_finish_36 0 rfl 0 rfl ?_
    refine v_callV (As := []) (rest := []) (wr := [(a1, aB C.D n1 t_a1)]) cw_X0_37 (hy_X0_mixBlock) g (c_DG_mix C.l C.D a0 a0_sums a0_words a0_pending (v_a0_filled + 1) v_a0_total t_a0_sums t_a0_words (cz t9 (v_a0_filled + 1) 64) ) dX0_finish_37 0 rfl rfl rfl (by decide) (by decide) (Nat.le_of_ble_eq_true rfl) [0, 1, 2, 3] [4] rfl rfl (by decide) rfl (by decide) (by decide) _ rfl (fun r wo hp12 => ?_)
    obtain ⟨sB, wB, rfl, rfl, hB2⟩ := hp12
    refine v_perm [1, 2, 3, 4, 0] [(a0, .inr (0, [.ref a0_sums, .ref a0_words, .ref a0_pending, .int (nI (v_a0_filled + 1)), .long (lN v_a0_total)])), (a0_sums, aW C.D 8 sB), (a0_words, aW C.D 64 wB), (a0_pending, aB C.D 64 (cz t9 (v_a0_filled + 1) 64)), (a1, aB C.D n1 t_a1)] (by decide) rfl rfl ?_
    show VJ C 0 0 40 [(0, .ref a0), (1, .ref a1)] [] [(a0, .inr (0, [.ref a0_sums, .ref a0_words, .ref a0_pending, .int (nI (v_a0_filled + 1)), .long (lN v_a0_total)])), (a0_sums, aW C.D 8 sB), (a0_words, aW C.D 64 wB), (a0_pending, aB C.D 64 (cz t9 (v_a0_filled + 1) 64)), (a1, aB C.D n1 t_a1)]
    refine v_aload_n g dX0_finish_40 0 rfl 0 rfl ?_
    refine v_iconst g dX0_finish_41 (v := nI 0) (by decide +kernel) ?_
    refine pf_X0_29 g dX0_finish_42 0 [(a0, .inr (0, [.ref a0_sums, .ref a0_words, .ref a0_pending, .int (nI 0), .long (lN v_a0_total)])), (a0_sums, aW C.D 8 sB), (a0_words, aW C.D 64 wB), (a0_pending, aB C.D 64 (cz t9 (v_a0_filled + 1) 64)), (a1, aB C.D n1 t_a1)] rfl (Nat.le_of_ble_eq_true rfl) rfl ?_
    have hb1 := fin_B1 hR.2 hB (p2 := cz t9 (v_a0_filled + 1) 64) (by rw [qt, hf])
    exact J45 0 sB wB (cz t9 (v_a0_filled + 1) 64) (len / 64 + 1) (by omega) (fin_next (fin_H hR.1) hb1 hB2) (by unfold sh_bl; omega) (fun p4 h4 h8 => fin_B2 hB h4 h8)
