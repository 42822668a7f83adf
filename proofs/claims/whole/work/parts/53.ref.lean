/-! the reference's sealing -/
section LLT
variable {C : Cx} {cc : ByteArray} {own : String} {nL : Nat} {rm : Room} {k n pc : Nat} {lv : List (Nat × Value)} {st : List Value} {ws : va_W}
theorem v_llt0 (g : vG C cc own nL rm) {x : Int64} {off : Int} (tgt : Nat) (hd : decode cc pc = .ok (.lcmp, 1)) (hd2 : decode cc (pc + 1) = .ok (.ifCond .lt off, 3)) (ht : ((pc + 1 : Nat) : Int) + off = (tgt : Int)) (kt : x < 0 → VJ C k n tgt lv st ws) (kf : ¬ x < 0 → VJ C k n (pc + 4) lv st ws) : VJ C k n pc lv (.long (lN 0) :: .long x :: st) ws :=
  v_lcmp g hd (v_if_lt g tgt hd2 ht (fun h => kt ((lg0 x).2 (Int32.not_le.mpr h))) (fun h => kf ((lg0 x).1 (Int32.not_lt.mp h))))
end LLT
theorem on64 (n : Nat) : (BitVec.ofNat 64 n).setWidth 32 = BitVec.ofNat 32 n := by
  apply BitVec.eq_of_toNat_eq
  rw [BitVec.toNat_setWidth, BitVec.toNat_ofNat, BitVec.toNat_ofNat]
  exact Nat.mod_mod_of_dvd n (by decide)
theorem non_k {iv : Nat → By} {x : BitVec 64} {k : Nat} (h : ¬ k < 4) : iv k ^^^ (x >>> (8 * (11 - k))).setWidth 8 = nonF iv x k := by unfold nonF; rw [if_neg h]
theorem non_0 {iv : Nat → By} {x : BitVec 64} {k : Nat} (h : k < 4) : iv k ^^^ 0#8 = nonF iv x k := by unfold nonF; rw [if_pos h, BitVec.xor_zero]
theorem rcov_0 (K Nn t : Nat → By) (h : Nat) : ∀ j, t j = covF K Nn t h (h + 0) j := fun j => by unfold covF; rw [if_neg (by omega)]
theorem rcov_s {K Nn t ta t' bl : Nat → By} {h i : Nat} (hv : ∀ j, ta j = covF K Nn t h (h + i) j) (hb : bl (i % 64) = ccF K Nn (BitVec.ofNat 32 (1 + i / 64)) (i % 64)) (ht : t' = va_up ta (h + i) (ta (h + i) ^^^ bl ((h + i - h) % 64))) : ∀ j, t' j = covF K Nn t h (h + (i + 1)) j := by
  intro j
  rw [ht]
  unfold va_up
  by_cases e : j = h + i
  · rw [if_pos e, hv, show h + i - h = i by omega, hb]
    unfold covF
    rw [if_neg (by omega), if_pos (by omega), e, show h + i - h = i by omega]
  · rw [if_neg e, hv]
    unfold covF
    by_cases e2 : h ≤ j ∧ j < h + i
    · rw [if_pos e2, if_pos (by omega)]
    · rw [if_neg e2, if_neg (by omega)]
def hpN (h : Nat) : Nat := 16 * ((h + 15) / 16)
def slF (t : Nat → By) (h n : Nat) : Nat → By := fun j => if j < h then t j else if j < hpN h then 0#8 else if j < hpN h + n then t (h + (j - hpN h)) else 0#8
def psN (h k : Nat) : Nat := if k ≤ h then k else hpN h + (k - h)
def pqN (h k : Nat) : Nat := if k < h then k else hpN h + (k - h)
theorem ps_ne {h k : Nat} (e : k ≠ h) : psN h k = pqN h k := by
  unfold psN pqN
  by_cases q : k < h
  · rw [if_pos (by omega), if_pos q]
  · rw [if_neg (by omega), if_neg q]
theorem pq_s (h k : Nat) : pqN h k + 1 = psN h (k + 1) := by
  unfold psN pqN
  by_cases q : k < h
  · rw [if_pos q, if_pos (by omega)]
  · rw [if_neg q, if_neg (by omega)]; omega
theorem pq_v {t : Nat → By} {h n k : Nat} (hk : k < h + n) : t k = slF t h n (pqN h k) := by
  unfold pqN slF
  have q0 : h ≤ hpN h := by unfold hpN; omega
  by_cases q : k < h
  · rw [if_pos q, if_pos q]
  · rw [if_neg q, if_neg (by omega), if_neg (by omega), if_pos (by omega), show h + (hpN h + (k - h) - hpN h) = k by omega]
theorem pq_le (h k : Nat) : pqN h k ≤ k + 15 := by unfold pqN hpN; split <;> omega
theorem sl_pad {t : Nat → By} {h n m j : Nat} (hc : n = 0 ∧ m = h ∨ 0 < n ∧ m = hpN h + n) (hj : m ≤ j) : 0#8 = slF t h n j := by
  have hp : h ≤ hpN h := by unfold hpN; omega
  unfold slF
  rcases hc with ⟨a, b⟩ | ⟨a, b⟩
  · rw [if_neg (by omega)]
    split
    · rfl
    · rw [if_neg (by omega)]
  · rw [if_neg (by omega), if_neg (by omega), if_neg (by omega)]
theorem leN_pad {a b : Nat → By} {m n : Nat} (hmn : m ≤ n) (h1 : ∀ j, j < m → a j = b j) (h2 : ∀ j, m ≤ j → j < n → a j = 0#8) : leN a n = leN b m := by
  obtain ⟨d, rfl⟩ : ∃ d, n = m + d := ⟨n - m, by omega⟩
  rw [leN_split a m d, leN_congr m h1, leN_0 d (t := fun j => a (m + j)) (fun j hj => h2 _ (by omega) (by omega)), Nat.mul_zero, Nat.add_zero]
/-- pieces of a padded row are the pieces of the two rows in it -/
theorem po_run {R : Nat} {s t : Nat → By} {N acc o n a : Nat} (hN : 16 * a + 16 * ((n + 15) / 16) ≤ N) (hs : ∀ j, j < 16 * ((n + 15) / 16) → s (16 * a + j) = if j < n then t (o + j) else 0#8) : ∀ i, i ≤ (n + 15) / 16 → po_it R s 0 N 0 acc (a + i) = po_it R t o n 1 (po_it R s 0 N 0 acc a) i := by
  intro i
  induction i with
  | zero => intro _; rfl
  | succ i ih =>
    intro h
    rw [← Nat.add_assoc]
    simp only [po_it]
    rw [ih (by omega)]
    congr 3
    unfold po_pc
    rw [if_pos rfl, if_neg (by decide), show min 16 (N - 16 * (a + i)) = 16 by omega]
    congr 1
    refine leN_pad (by omega) (fun j hj => ?_) (fun j h1 h2 => ?_)
    · rw [show 0 + 16 * (a + i) + j = 16 * a + (16 * i + j) by omega, hs _ (by omega), if_pos (by omega), Nat.add_assoc]
    · rw [show 0 + 16 * (a + i) + j = 16 * a + (16 * i + j) by omega, hs _ (by omega), if_neg (by omega)]
theorem tal_tag {kb sl t : Nat → By} {h n : Nat} (h1 : ∀ j, j < hpN h + 16 * ((n + 15) / 16) → sl j = slF t h n j) (h2 : ∀ j, j < 16 → sl (hpN h + 16 * ((n + 15) / 16) + j) = szF h n j) : talF kb sl (hpN h + 16 * ((n + 15) / 16) + 16) = tagF kb t h n := by
  funext j
  unfold talF tagF tagA
  congr 3
  obtain ⟨A, hA⟩ : ∃ A, A = (h + 15) / 16 := ⟨_, rfl⟩
  obtain ⟨B, hB⟩ : ∃ B, B = (n + 15) / 16 := ⟨_, rfl⟩
  have hp : hpN h = 16 * A := by unfold hpN; rw [hA]
  have r1 := po_run (R := po_R kb) (s := sl) (t := t) (N := hpN h + 16 * ((n + 15) / 16) + 16) (acc := 0) (o := 0) (n := h) (a := 0) (by rw [hp, ← hA]; omega) (fun j hj => by
    rw [show 16 * 0 + j = j by omega, h1 j (by rw [hp, hA]; omega)]
    unfold slF
    by_cases e : j < h
    · rw [if_pos e, if_pos e]
    · rw [if_neg e, if_neg e, if_pos (by rw [hp, hA]; omega)]) ((h + 15) / 16) (Nat.le_refl _)
  have r2 := po_run (R := po_R kb) (s := sl) (t := t) (N := hpN h + 16 * ((n + 15) / 16) + 16) (acc := 0) (o := h) (n := n) (a := A) (by rw [hp]; omega) (fun j hj => by
    have q0 : h ≤ 16 * A := by omega
    rw [h1 _ (by rw [hp]; omega)]
    unfold slF
    rw [hp, if_neg (by omega), if_neg (by omega)]
    by_cases e : j < n
    · rw [if_pos (by omega), if_pos e, show 16 * A + j - 16 * A = j by omega]
    · rw [if_neg (by omega), if_neg e]) B (by omega)
  have r3 := po_run (R := po_R kb) (s := sl) (t := szF h n) (N := hpN h + 16 * ((n + 15) / 16) + 16) (acc := 0) (o := 0) (n := 16) (a := A + B) (by rw [hp, ← hB]; omega) (fun j hj => by
    rw [if_pos (by omega), Nat.zero_add, ← h2 j (by omega)]
    congr 1
    rw [hp, ← hB]
    omega) 1 (by decide)
  have r0 : po_it (po_R kb) sl 0 (hpN h + 16 * ((n + 15) / 16) + 16) 0 0 0 = 0 := rfl
  rw [Nat.zero_add, ← hA, r0] at r1
  rw [show (hpN h + 16 * ((n + 15) / 16) + 16 + 15) / 16 = A + B + 1 by rw [hp, ← hB]; omega, r3, r2, r1, ← hA, ← hB]
theorem sz_lo {h n k : Nat} (hk : k < 4) : BitVec.ofNat 8 (h / 2 ^ (8 * k)) = szF h n k ∧ BitVec.ofNat 8 (n / 2 ^ (8 * k)) = szF h n (8 + k) := by
  have e : ∀ z : Nat, BitVec.ofNat 8 (z / 2 ^ (8 * k)) = ((BitVec.ofNat 64 z) >>> (8 * k)).setWidth 8 := fun z => by
    apply BitVec.eq_of_toNat_eq
    rw [BitVec.toNat_ofNat, BitVec.toNat_setWidth, BitVec.toNat_ushiftRight, BitVec.toNat_ofNat, Nat.shiftRight_eq_div_pow]
    have : k = 0 ∨ k = 1 ∨ k = 2 ∨ k = 3 := by omega
    rcases this with rfl | rfl | rfl | rfl <;> simp <;> omega
  unfold szF
  constructor
  · rw [wb_out (o := 8) (by omega), wb_in (o := 0) (by omega) (by omega), Nat.sub_zero, e]
  · rw [wb_in (o := 8) (by omega) (by omega), show 8 + k - 8 = k by omega, e]
theorem sz_hi {h n k : Nat} (hh : h < 2 ^ 32) (hn : n < 2 ^ 32) (h1 : 4 ≤ k) (h2 : k < 8) : 0#8 = szF h n k ∧ 0#8 = szF h n (8 + k) := by
  have e : ∀ z : Nat, z < 2 ^ 32 → 0#8 = ((BitVec.ofNat 64 z) >>> (8 * k)).setWidth 8 := fun z hz => by
    have e1 : (BitVec.ofNat 64 z).toNat = z := by rw [BitVec.toNat_ofNat, Nat.mod_eq_of_lt (by omega)]
    apply BitVec.eq_of_toNat_eq
    rw [BitVec.toNat_setWidth, BitVec.toNat_ushiftRight, e1, Nat.shiftRight_eq_div_pow, Nat.div_eq_of_lt (Nat.lt_of_lt_of_le hz (Nat.pow_le_pow_right (by decide) (by omega)))]
    rfl
  unfold szF
  constructor
  · rw [wb_out (o := 8) (by omega), wb_in (o := 0) (by omega) (by omega), Nat.sub_zero]; exact e h hh
  · rw [wb_in (o := 8) (by omega) (by omega), show 8 + k - 8 = k by omega]; exact e n hn
theorem dX8_nonceOf_0 : decode cX8_nonceOf 0 = .ok (.iconst 0, 1) := by decide +kernel
theorem dX8_nonceOf_1 : decode cX8_nonceOf 1 = .ok (.istore 4, 2) := by decide +kernel
theorem dX8_nonceOf_3 : decode cX8_nonceOf 3 = .ok (.iload 4, 2) := by decide +kernel
theorem dX8_nonceOf_5 : decode cX8_nonceOf 5 = .ok (.bipush 32, 2) := by decide +kernel
theorem dX8_nonceOf_7 : decode cX8_nonceOf 7 = .ok (.if_icmp .ge 28, 3) := by decide +kernel
theorem dX8_nonceOf_10 : decode cX8_nonceOf 10 = .ok (.aload_n 0, 1) := by decide +kernel
theorem dX8_nonceOf_11 : decode cX8_nonceOf 11 = .ok (.getfield 77, 3) := by decide +kernel
theorem dX8_nonceOf_14 : decode cX8_nonceOf 14 = .ok (.iload 4, 2) := by decide +kernel
theorem dX8_nonceOf_16 : decode cX8_nonceOf 16 = .ok (.aload_n 0, 1) := by decide +kernel
theorem dX8_nonceOf_17 : decode cX8_nonceOf 17 = .ok (.getfield 28, 3) := by decide +kernel
theorem dX8_nonceOf_20 : decode cX8_nonceOf 20 = .ok (.bipush 32, 2) := by decide +kernel
theorem dX8_nonceOf_22 : decode cX8_nonceOf 22 = .ok (.iload_n 1, 1) := by decide +kernel
theorem dX8_nonceOf_23 : decode cX8_nonceOf 23 = .ok (.imul, 1) := by decide +kernel
theorem dX8_nonceOf_24 : decode cX8_nonceOf 24 = .ok (.iload 4, 2) := by decide +kernel
theorem dX8_nonceOf_26 : decode cX8_nonceOf 26 = .ok (.iadd, 1) := by decide +kernel
theorem dX8_nonceOf_27 : decode cX8_nonceOf 27 = .ok (.iaload, 1) := by decide +kernel
theorem dX8_nonceOf_28 : decode cX8_nonceOf 28 = .ok (.iastore, 1) := by decide +kernel
theorem dX8_nonceOf_29 : decode cX8_nonceOf 29 = .ok (.iinc 4 1, 3) := by decide +kernel
theorem dX8_nonceOf_32 : decode cX8_nonceOf 32 = .ok (.goto (-29), 3) := by decide +kernel
theorem dX8_nonceOf_35 : decode cX8_nonceOf 35 = .ok (.iconst 0, 1) := by decide +kernel
theorem dX8_nonceOf_36 : decode cX8_nonceOf 36 = .ok (.istore 4, 2) := by decide +kernel
theorem dX8_nonceOf_38 : decode cX8_nonceOf 38 = .ok (.iload 4, 2) := by decide +kernel
theorem dX8_nonceOf_40 : decode cX8_nonceOf 40 = .ok (.bipush 12, 2) := by decide +kernel
theorem dX8_nonceOf_42 : decode cX8_nonceOf 42 = .ok (.if_icmp .ge 54, 3) := by decide +kernel
theorem dX8_nonceOf_45 : decode cX8_nonceOf 45 = .ok (.aload_n 0, 1) := by decide +kernel
theorem dX8_nonceOf_46 : decode cX8_nonceOf 46 = .ok (.getfield 80, 3) := by decide +kernel
theorem dX8_nonceOf_49 : decode cX8_nonceOf 49 = .ok (.iload 4, 2) := by decide +kernel
theorem dX8_nonceOf_51 : decode cX8_nonceOf 51 = .ok (.aload_n 0, 1) := by decide +kernel
theorem dX8_nonceOf_52 : decode cX8_nonceOf 52 = .ok (.getfield 34, 3) := by decide +kernel
theorem dX8_nonceOf_55 : decode cX8_nonceOf 55 = .ok (.bipush 32, 2) := by decide +kernel
theorem dX8_nonceOf_57 : decode cX8_nonceOf 57 = .ok (.iload_n 1, 1) := by decide +kernel
theorem dX8_nonceOf_58 : decode cX8_nonceOf 58 = .ok (.imul, 1) := by decide +kernel
theorem dX8_nonceOf_59 : decode cX8_nonceOf 59 = .ok (.iload 4, 2) := by decide +kernel
theorem dX8_nonceOf_61 : decode cX8_nonceOf 61 = .ok (.iadd, 1) := by decide +kernel
theorem dX8_nonceOf_62 : decode cX8_nonceOf 62 = .ok (.iaload, 1) := by decide +kernel
theorem dX8_nonceOf_63 : decode cX8_nonceOf 63 = .ok (.iload 4, 2) := by decide +kernel
theorem dX8_nonceOf_65 : decode cX8_nonceOf 65 = .ok (.iconst 4, 1) := by decide +kernel
theorem dX8_nonceOf_66 : decode cX8_nonceOf 66 = .ok (.if_icmp .ge 7, 3) := by decide +kernel
theorem dX8_nonceOf_69 : decode cX8_nonceOf 69 = .ok (.iconst 0, 1) := by decide +kernel
theorem dX8_nonceOf_70 : decode cX8_nonceOf 70 = .ok (.goto 18, 3) := by decide +kernel
theorem dX8_nonceOf_73 : decode cX8_nonceOf 73 = .ok (.lload_n 2, 1) := by decide +kernel
theorem dX8_nonceOf_74 : decode cX8_nonceOf 74 = .ok (.bipush 8, 2) := by decide +kernel
theorem dX8_nonceOf_76 : decode cX8_nonceOf 76 = .ok (.bipush 11, 2) := by decide +kernel
theorem dX8_nonceOf_78 : decode cX8_nonceOf 78 = .ok (.iload 4, 2) := by decide +kernel
theorem dX8_nonceOf_80 : decode cX8_nonceOf 80 = .ok (.isub, 1) := by decide +kernel
theorem dX8_nonceOf_81 : decode cX8_nonceOf 81 = .ok (.imul, 1) := by decide +kernel
theorem dX8_nonceOf_82 : decode cX8_nonceOf 82 = .ok (.lshr, 1) := by decide +kernel
theorem dX8_nonceOf_83 : decode cX8_nonceOf 83 = .ok (.ldc2_w 134, 3) := by decide +kernel
theorem dX8_nonceOf_86 : decode cX8_nonceOf 86 = .ok (.land, 1) := by decide +kernel
theorem dX8_nonceOf_87 : decode cX8_nonceOf 87 = .ok (.l2i, 1) := by decide +kernel
theorem dX8_nonceOf_88 : decode cX8_nonceOf 88 = .ok (.ixor, 1) := by decide +kernel
theorem dX8_nonceOf_89 : decode cX8_nonceOf 89 = .ok (.iastore, 1) := by decide +kernel
theorem dX8_nonceOf_90 : decode cX8_nonceOf 90 = .ok (.iinc 4 1, 3) := by decide +kernel
theorem dX8_nonceOf_93 : decode cX8_nonceOf 93 = .ok (.goto (-55), 3) := by decide +kernel
theorem dX8_nonceOf_96 : decode cX8_nonceOf 96 = .ok (.return_, 1) := by decide +kernel
theorem dX8_change_0 : decode cX8_change 0 = .ok (.iload_n 1, 1) := by decide +kernel
theorem dX8_change_1 : decode cX8_change 1 = .ok (.istore_n 3, 1) := by decide +kernel
theorem dX8_change_2 : decode cX8_change 2 = .ok (.iload_n 3, 1) := by decide +kernel
theorem dX8_change_3 : decode cX8_change 3 = .ok (.iload_n 2, 1) := by decide +kernel
theorem dX8_change_4 : decode cX8_change 4 = .ok (.if_icmp .ge 55, 3) := by decide +kernel
theorem dX8_change_7 : decode cX8_change 7 = .ok (.iload_n 3, 1) := by decide +kernel
theorem dX8_change_8 : decode cX8_change 8 = .ok (.iload_n 1, 1) := by decide +kernel
theorem dX8_change_9 : decode cX8_change 9 = .ok (.isub, 1) := by decide +kernel
theorem dX8_change_10 : decode cX8_change 10 = .ok (.bipush 64, 2) := by decide +kernel
theorem dX8_change_12 : decode cX8_change 12 = .ok (.irem, 1) := by decide +kernel
theorem dX8_change_13 : decode cX8_change 13 = .ok (.ifCond .ne 16, 3) := by decide +kernel
theorem dX8_change_16 : decode cX8_change 16 = .ok (.aload_n 0, 1) := by decide +kernel
theorem dX8_change_17 : decode cX8_change 17 = .ok (.iload_n 3, 1) := by decide +kernel
theorem dX8_change_18 : decode cX8_change 18 = .ok (.iload_n 1, 1) := by decide +kernel
theorem dX8_change_19 : decode cX8_change 19 = .ok (.isub, 1) := by decide +kernel
theorem dX8_change_20 : decode cX8_change 20 = .ok (.bipush 64, 2) := by decide +kernel
theorem dX8_change_22 : decode cX8_change 22 = .ok (.idiv, 1) := by decide +kernel
theorem dX8_change_23 : decode cX8_change 23 = .ok (.iconst 1, 1) := by decide +kernel
theorem dX8_change_24 : decode cX8_change 24 = .ok (.iadd, 1) := by decide +kernel
theorem dX8_change_25 : decode cX8_change 25 = .ok (.i2l, 1) := by decide +kernel
theorem dX8_change_26 : decode cX8_change 26 = .ok (.invokevirtual 240, 3) := by decide +kernel
theorem dX8_change_29 : decode cX8_change 29 = .ok (.aload_n 0, 1) := by decide +kernel
theorem dX8_change_30 : decode cX8_change 30 = .ok (.getfield 7, 3) := by decide +kernel
theorem dX8_change_33 : decode cX8_change 33 = .ok (.iload_n 3, 1) := by decide +kernel
theorem dX8_change_34 : decode cX8_change 34 = .ok (.aload_n 0, 1) := by decide +kernel
theorem dX8_change_35 : decode cX8_change 35 = .ok (.getfield 7, 3) := by decide +kernel
theorem dX8_change_38 : decode cX8_change 38 = .ok (.iload_n 3, 1) := by decide +kernel
theorem dX8_change_39 : decode cX8_change 39 = .ok (.iaload, 1) := by decide +kernel
theorem dX8_change_40 : decode cX8_change 40 = .ok (.aload_n 0, 1) := by decide +kernel
theorem dX8_change_41 : decode cX8_change 41 = .ok (.getfield 89, 3) := by decide +kernel
theorem dX8_change_44 : decode cX8_change 44 = .ok (.iload_n 3, 1) := by decide +kernel
theorem dX8_change_45 : decode cX8_change 45 = .ok (.iload_n 1, 1) := by decide +kernel
theorem dX8_change_46 : decode cX8_change 46 = .ok (.isub, 1) := by decide +kernel
theorem dX8_change_47 : decode cX8_change 47 = .ok (.bipush 64, 2) := by decide +kernel
theorem dX8_change_49 : decode cX8_change 49 = .ok (.irem, 1) := by decide +kernel
theorem dX8_change_50 : decode cX8_change 50 = .ok (.iaload, 1) := by decide +kernel
theorem dX8_change_51 : decode cX8_change 51 = .ok (.ixor, 1) := by decide +kernel
theorem dX8_change_52 : decode cX8_change 52 = .ok (.iastore, 1) := by decide +kernel
theorem dX8_change_53 : decode cX8_change 53 = .ok (.iinc 3 1, 3) := by decide +kernel
theorem dX8_change_56 : decode cX8_change 56 = .ok (.goto (-54), 3) := by decide +kernel
theorem dX8_change_59 : decode cX8_change 59 = .ok (.return_, 1) := by decide +kernel
theorem dX8_tagOf_0 : decode cX8_tagOf 0 = .ok (.iconst 0, 1) := by decide +kernel
theorem dX8_tagOf_1 : decode cX8_tagOf 1 = .ok (.istore_n 3, 1) := by decide +kernel
theorem dX8_tagOf_2 : decode cX8_tagOf 2 = .ok (.iconst 0, 1) := by decide +kernel
theorem dX8_tagOf_3 : decode cX8_tagOf 3 = .ok (.istore 4, 2) := by decide +kernel
theorem dX8_tagOf_5 : decode cX8_tagOf 5 = .ok (.iload 4, 2) := by decide +kernel
theorem dX8_tagOf_7 : decode cX8_tagOf 7 = .ok (.iload_n 2, 1) := by decide +kernel
theorem dX8_tagOf_8 : decode cX8_tagOf 8 = .ok (.if_icmp .ge 51, 3) := by decide +kernel
theorem dX8_tagOf_11 : decode cX8_tagOf 11 = .ok (.iload 4, 2) := by decide +kernel
theorem dX8_tagOf_13 : decode cX8_tagOf 13 = .ok (.iload_n 1, 1) := by decide +kernel
theorem dX8_tagOf_14 : decode cX8_tagOf 14 = .ok (.if_icmp .ne 23, 3) := by decide +kernel
theorem dX8_tagOf_17 : decode cX8_tagOf 17 = .ok (.iload_n 3, 1) := by decide +kernel
theorem dX8_tagOf_18 : decode cX8_tagOf 18 = .ok (.bipush 16, 2) := by decide +kernel
theorem dX8_tagOf_20 : decode cX8_tagOf 20 = .ok (.irem, 1) := by decide +kernel
theorem dX8_tagOf_21 : decode cX8_tagOf 21 = .ok (.ifCond .le 16, 3) := by decide +kernel
theorem dX8_tagOf_24 : decode cX8_tagOf 24 = .ok (.aload_n 0, 1) := by decide +kernel
theorem dX8_tagOf_25 : decode cX8_tagOf 25 = .ok (.getfield 104, 3) := by decide +kernel
theorem dX8_tagOf_28 : decode cX8_tagOf 28 = .ok (.iload_n 3, 1) := by decide +kernel
theorem dX8_tagOf_29 : decode cX8_tagOf 29 = .ok (.iconst 0, 1) := by decide +kernel
theorem dX8_tagOf_30 : decode cX8_tagOf 30 = .ok (.iastore, 1) := by decide +kernel
theorem dX8_tagOf_31 : decode cX8_tagOf 31 = .ok (.iinc 3 1, 3) := by decide +kernel
theorem dX8_tagOf_34 : decode cX8_tagOf 34 = .ok (.goto (-23), 3) := by decide +kernel
theorem dX8_tagOf_37 : decode cX8_tagOf 37 = .ok (.aload_n 0, 1) := by decide +kernel
theorem dX8_tagOf_38 : decode cX8_tagOf 38 = .ok (.getfield 104, 3) := by decide +kernel
theorem dX8_tagOf_41 : decode cX8_tagOf 41 = .ok (.iload_n 3, 1) := by decide +kernel
theorem dX8_tagOf_42 : decode cX8_tagOf 42 = .ok (.aload_n 0, 1) := by decide +kernel
theorem dX8_tagOf_43 : decode cX8_tagOf 43 = .ok (.getfield 7, 3) := by decide +kernel
theorem dX8_tagOf_46 : decode cX8_tagOf 46 = .ok (.iload 4, 2) := by decide +kernel
theorem dX8_tagOf_48 : decode cX8_tagOf 48 = .ok (.iaload, 1) := by decide +kernel
theorem dX8_tagOf_49 : decode cX8_tagOf 49 = .ok (.iastore, 1) := by decide +kernel
theorem dX8_tagOf_50 : decode cX8_tagOf 50 = .ok (.iinc 3 1, 3) := by decide +kernel
theorem dX8_tagOf_53 : decode cX8_tagOf 53 = .ok (.iinc 4 1, 3) := by decide +kernel
theorem dX8_tagOf_56 : decode cX8_tagOf 56 = .ok (.goto (-51), 3) := by decide +kernel
theorem dX8_tagOf_59 : decode cX8_tagOf 59 = .ok (.iload_n 3, 1) := by decide +kernel
theorem dX8_tagOf_60 : decode cX8_tagOf 60 = .ok (.bipush 16, 2) := by decide +kernel
theorem dX8_tagOf_62 : decode cX8_tagOf 62 = .ok (.irem, 1) := by decide +kernel
theorem dX8_tagOf_63 : decode cX8_tagOf 63 = .ok (.ifCond .le 16, 3) := by decide +kernel
theorem dX8_tagOf_66 : decode cX8_tagOf 66 = .ok (.aload_n 0, 1) := by decide +kernel
theorem dX8_tagOf_67 : decode cX8_tagOf 67 = .ok (.getfield 104, 3) := by decide +kernel
theorem dX8_tagOf_70 : decode cX8_tagOf 70 = .ok (.iload_n 3, 1) := by decide +kernel
theorem dX8_tagOf_71 : decode cX8_tagOf 71 = .ok (.iconst 0, 1) := by decide +kernel
theorem dX8_tagOf_72 : decode cX8_tagOf 72 = .ok (.iastore, 1) := by decide +kernel
theorem dX8_tagOf_73 : decode cX8_tagOf 73 = .ok (.iinc 3 1, 3) := by decide +kernel
theorem dX8_tagOf_76 : decode cX8_tagOf 76 = .ok (.goto (-17), 3) := by decide +kernel
theorem dX8_tagOf_79 : decode cX8_tagOf 79 = .ok (.iconst 0, 1) := by decide +kernel
theorem dX8_tagOf_80 : decode cX8_tagOf 80 = .ok (.istore 4, 2) := by decide +kernel
theorem dX8_tagOf_82 : decode cX8_tagOf 82 = .ok (.iload 4, 2) := by decide +kernel
theorem dX8_tagOf_84 : decode cX8_tagOf 84 = .ok (.bipush 16, 2) := by decide +kernel
theorem dX8_tagOf_86 : decode cX8_tagOf 86 = .ok (.if_icmp .ge 72, 3) := by decide +kernel
theorem dX8_tagOf_89 : decode cX8_tagOf 89 = .ok (.aload_n 0, 1) := by decide +kernel
theorem dX8_tagOf_90 : decode cX8_tagOf 90 = .ok (.getfield 104, 3) := by decide +kernel
theorem dX8_tagOf_93 : decode cX8_tagOf 93 = .ok (.iload_n 3, 1) := by decide +kernel
theorem dX8_tagOf_94 : decode cX8_tagOf 94 = .ok (.iload 4, 2) := by decide +kernel
theorem dX8_tagOf_96 : decode cX8_tagOf 96 = .ok (.iadd, 1) := by decide +kernel
theorem dX8_tagOf_97 : decode cX8_tagOf 97 = .ok (.iload 4, 2) := by decide +kernel
theorem dX8_tagOf_99 : decode cX8_tagOf 99 = .ok (.bipush 8, 2) := by decide +kernel
theorem dX8_tagOf_101 : decode cX8_tagOf 101 = .ok (.if_icmp .ge 7, 3) := by decide +kernel
theorem dX8_tagOf_104 : decode cX8_tagOf 104 = .ok (.iload_n 1, 1) := by decide +kernel
theorem dX8_tagOf_105 : decode cX8_tagOf 105 = .ok (.goto 6, 3) := by decide +kernel
theorem dX8_tagOf_108 : decode cX8_tagOf 108 = .ok (.iload_n 2, 1) := by decide +kernel
theorem dX8_tagOf_109 : decode cX8_tagOf 109 = .ok (.iload_n 1, 1) := by decide +kernel
theorem dX8_tagOf_110 : decode cX8_tagOf 110 = .ok (.isub, 1) := by decide +kernel
theorem dX8_tagOf_111 : decode cX8_tagOf 111 = .ok (.iload 4, 2) := by decide +kernel
theorem dX8_tagOf_113 : decode cX8_tagOf 113 = .ok (.bipush 8, 2) := by decide +kernel
theorem dX8_tagOf_115 : decode cX8_tagOf 115 = .ok (.irem, 1) := by decide +kernel
theorem dX8_tagOf_116 : decode cX8_tagOf 116 = .ok (.iconst 4, 1) := by decide +kernel
theorem dX8_tagOf_117 : decode cX8_tagOf 117 = .ok (.if_icmp .ge 14, 3) := by decide +kernel
theorem dX8_tagOf_120 : decode cX8_tagOf 120 = .ok (.bipush 8, 2) := by decide +kernel
theorem dX8_tagOf_122 : decode cX8_tagOf 122 = .ok (.iload 4, 2) := by decide +kernel
theorem dX8_tagOf_124 : decode cX8_tagOf 124 = .ok (.bipush 8, 2) := by decide +kernel
theorem dX8_tagOf_126 : decode cX8_tagOf 126 = .ok (.irem, 1) := by decide +kernel
theorem dX8_tagOf_127 : decode cX8_tagOf 127 = .ok (.imul, 1) := by decide +kernel
theorem dX8_tagOf_128 : decode cX8_tagOf 128 = .ok (.goto 5, 3) := by decide +kernel
theorem dX8_tagOf_131 : decode cX8_tagOf 131 = .ok (.bipush 31, 2) := by decide +kernel
theorem dX8_tagOf_133 : decode cX8_tagOf 133 = .ok (.ishr, 1) := by decide +kernel
theorem dX8_tagOf_134 : decode cX8_tagOf 134 = .ok (.iload 4, 2) := by decide +kernel
theorem dX8_tagOf_136 : decode cX8_tagOf 136 = .ok (.bipush 8, 2) := by decide +kernel
theorem dX8_tagOf_138 : decode cX8_tagOf 138 = .ok (.irem, 1) := by decide +kernel
theorem dX8_tagOf_139 : decode cX8_tagOf 139 = .ok (.iconst 4, 1) := by decide +kernel
theorem dX8_tagOf_140 : decode cX8_tagOf 140 = .ok (.if_icmp .ge 9, 3) := by decide +kernel
theorem dX8_tagOf_143 : decode cX8_tagOf 143 = .ok (.sipush 255, 3) := by decide +kernel
theorem dX8_tagOf_146 : decode cX8_tagOf 146 = .ok (.goto 4, 3) := by decide +kernel
theorem dX8_tagOf_149 : decode cX8_tagOf 149 = .ok (.iconst 0, 1) := by decide +kernel
theorem dX8_tagOf_150 : decode cX8_tagOf 150 = .ok (.iand, 1) := by decide +kernel
theorem dX8_tagOf_151 : decode cX8_tagOf 151 = .ok (.iastore, 1) := by decide +kernel
theorem dX8_tagOf_152 : decode cX8_tagOf 152 = .ok (.iinc 4 1, 3) := by decide +kernel
theorem dX8_tagOf_155 : decode cX8_tagOf 155 = .ok (.goto (-73), 3) := by decide +kernel
theorem dX8_tagOf_158 : decode cX8_tagOf 158 = .ok (.aload_n 0, 1) := by decide +kernel
theorem dX8_tagOf_159 : decode cX8_tagOf 159 = .ok (.lconst 0, 1) := by decide +kernel
theorem dX8_tagOf_160 : decode cX8_tagOf 160 = .ok (.invokevirtual 240, 3) := by decide +kernel
theorem dX8_tagOf_163 : decode cX8_tagOf 163 = .ok (.aload_n 0, 1) := by decide +kernel
theorem dX8_tagOf_164 : decode cX8_tagOf 164 = .ok (.aload_n 0, 1) := by decide +kernel
theorem dX8_tagOf_165 : decode cX8_tagOf 165 = .ok (.getfield 89, 3) := by decide +kernel
theorem dX8_tagOf_168 : decode cX8_tagOf 168 = .ok (.iconst 0, 1) := by decide +kernel
theorem dX8_tagOf_169 : decode cX8_tagOf 169 = .ok (.iload_n 3, 1) := by decide +kernel
theorem dX8_tagOf_170 : decode cX8_tagOf 170 = .ok (.bipush 16, 2) := by decide +kernel
theorem dX8_tagOf_172 : decode cX8_tagOf 172 = .ok (.iadd, 1) := by decide +kernel
theorem dX8_tagOf_173 : decode cX8_tagOf 173 = .ok (.invokevirtual 244, 3) := by decide +kernel
theorem dX8_tagOf_176 : decode cX8_tagOf 176 = .ok (.return_, 1) := by decide +kernel
set_option maxHeartbeats 4000000 in
set_option maxRecDepth 100000 in
theorem c_R_nonce (l : Launch) (D : va_G) (a0 : Nat) (p1 : Nat) (p2 : BitVec 64) (v_a0_thrown : Nat) (a0_tape : Nat) (v_a0_taped : Nat) (a0_out : Nat) (v_a0_outs : Nat) (a0_slots : Nat) (a0_kept : Nat) (a0_phase : Nat) (a0_secret : Nat) (a0_key : Nat) (a0_hide : Nat) (a0_iv : Nat) (a0_begin : Nat) (a0_each : Nat) (a0_root : Nat) (a0_power : Nat) (a0_work : Nat) (a0_w : Nat) (a0_h : Nat) (a0_state : Nat) (a0_sum : Nat) (a0_pad : Nat) (a0_text : Nat) (v_a0_texts : Nat) (a0_info : Nat) (v_a0_infos : Nat) (a0_made : Nat) (a0_blockKey : Nat) (a0_nonce : Nat) (a0_x : Nat) (a0_first : Nat) (a0_block : Nat) (a0_a : Nat) (a0_r : Nat) (a0_product : Nat) (a0_tag : Nat) (a0_sealed : Nat) (t_a0_blockKey : Nat → By) (t_a0_nonce : Nat → By) (t_a0_key : Nat → By) (t_a0_iv : Nat → By)  (hg1 : p1 < 4) : vM l D yX8_nonceOf cX8_nonceOf 5 none { frames := 0, cells := 0, slots := 0, locals := 0 } [.ref a0, .int (nI p1), .long (xL p2)] [(a0, .inr (8, [.int (nI v_a0_thrown), .ref a0_tape, .int (nI v_a0_taped), .ref a0_out, .int (nI v_a0_outs), .ref a0_slots, .ref a0_kept, .ref a0_phase, .ref a0_secret, .ref a0_key, .ref a0_hide, .ref a0_iv, .ref a0_begin, .ref a0_each, .ref a0_root, .ref a0_power, .ref a0_work, .ref a0_w, .ref a0_h, .ref a0_state, .ref a0_sum, .ref a0_pad, .ref a0_text, .int (nI v_a0_texts), .ref a0_info, .int (nI v_a0_infos), .ref a0_made, .ref a0_blockKey, .ref a0_nonce, .ref a0_x, .ref a0_first, .ref a0_block, .ref a0_a, .ref a0_r, .ref a0_product, .ref a0_tag, .ref a0_sealed])), (a0_blockKey, aY D 32 t_a0_blockKey), (a0_nonce, aY D 12 t_a0_nonce), (a0_key, aY D 128 t_a0_key), (a0_iv, aY D 128 t_a0_iv)] (fun r wo => ∃ (bk : Nat → By) (bn : Nat → By), r = none ∧ wo = [(a0, .inr (8, [.int (nI v_a0_thrown), .ref a0_tape, .int (nI v_a0_taped), .ref a0_out, .int (nI v_a0_outs), .ref a0_slots, .ref a0_kept, .ref a0_phase, .ref a0_secret, .ref a0_key, .ref a0_hide, .ref a0_iv, .ref a0_begin, .ref a0_each, .ref a0_root, .ref a0_power, .ref a0_work, .ref a0_w, .ref a0_h, .ref a0_state, .ref a0_sum, .ref a0_pad, .ref a0_text, .int (nI v_a0_texts), .ref a0_info, .int (nI v_a0_infos), .ref a0_made, .ref a0_blockKey, .ref a0_nonce, .ref a0_x, .ref a0_first, .ref a0_block, .ref a0_a, .ref a0_r, .ref a0_product, .ref a0_tag, .ref a0_sealed])), (a0_blockKey, aY D 32 bk), (a0_nonce, aY D 12 bn), (a0_key, aY D 128 t_a0_key), (a0_iv, aY D 128 t_a0_iv)] ∧ (∀ j, j < 32 → bk j = (fun j => t_a0_key (32 * p1 + j)) j) ∧ (∀ j, j < 12 → bn j = nonF (fun j => t_a0_iv (32 * p1 + j)) p2 j)) := by
  refine vM.of (by decide) (Nat.le_of_ble_eq_true rfl) (fun C hCl hCD g R => ?_)
  subst hCl; subst hCD
  show VJ C 0 0 0 [(0, .ref a0), (1, .int (nI p1)), (2, .long (xL p2))] [] [(a0, .inr (8, [.int (nI v_a0_thrown), .ref a0_tape, .int (nI v_a0_taped), .ref a0_out, .int (nI v_a0_outs), .ref a0_slots, .ref a0_kept, .ref a0_phase, .ref a0_secret, .ref a0_key, .ref a0_hide, .ref a0_iv, .ref a0_begin, .ref a0_each, .ref a0_root, .ref a0_power, .ref a0_work, .ref a0_w, .ref a0_h, .ref a0_state, .ref a0_sum, .ref a0_pad, .ref a0_text, .int (nI v_a0_texts), .ref a0_info, .int (nI v_a0_infos), .ref a0_made, .ref a0_blockKey, .ref a0_nonce, .ref a0_x, .ref a0_first, .ref a0_block, .ref a0_a, .ref a0_r, .ref a0_product, .ref a0_tag, .ref a0_sealed])), (a0_blockKey, aY C.D 32 t_a0_blockKey), (a0_nonce, aY C.D 12 t_a0_nonce), (a0_key, aY C.D 128 t_a0_key), (a0_iv, aY C.D 128 t_a0_iv)]
  refine v_iconst g dX8_nonceOf_0 (v := nI 0) (by decide +kernel) ?_
  refine v_istore g [(4, .int (nI 0)), (0, .ref a0), (1, .int (nI p1)), (2, .long (xL p2))] dX8_nonceOf_1 (by decide) rfl ?_
  have L3_0 : ∀ i : Nat, i ≤ 32 → ∀ (bk0 : Nat → By), (bk0 = cpo t_a0_blockKey 0 i (fun j => t_a0_key (32 * p1 + j))) → VJ C 0 0 3 [(4, .int (nI i)), (0, .ref a0), (1, .int (nI p1)), (2, .long (xL p2))] [] [(a0, .inr (8, [.int (nI v_a0_thrown), .ref a0_tape, .int (nI v_a0_taped), .ref a0_out, .int (nI v_a0_outs), .ref a0_slots, .ref a0_kept, .ref a0_phase, .ref a0_secret, .ref a0_key, .ref a0_hide, .ref a0_iv, .ref a0_begin, .ref a0_each, .ref a0_root, .ref a0_power, .ref a0_work, .ref a0_w, .ref a0_h, .ref a0_state, .ref a0_sum, .ref a0_pad, .ref a0_text, .int (nI v_a0_texts), .ref a0_info, .int (nI v_a0_infos), .ref a0_made, .ref a0_blockKey, .ref a0_nonce, .ref a0_x, .ref a0_first, .ref a0_block, .ref a0_a, .ref a0_r, .ref a0_product, .ref a0_tag, .ref a0_sealed])), (a0_blockKey, aY C.D 32 bk0), (a0_nonce, aY C.D 12 t_a0_nonce), (a0_key, aY C.D 128 t_a0_key), (a0_iv, aY C.D 128 t_a0_iv)] := by
    refine v_for (32) ?_ ?_
    · skip
      intro i hii ih bk0 hv0
      refine v_iload g dX8_nonceOf_3 0 rfl ?_
      refine v_bipush g dX8_nonceOf_5 (v := nI 32) (by decide +kernel) ?_
      refine v_icmp_geN g 35 dX8_nonceOf_7 (by decide) (by omega) (by omega) (fun h1 => ?_) (fun h1 => ?_)
      · skip
        exact absurd h1 (by omega)
      · skip
        refine v_aload_n g dX8_nonceOf_10 0 rfl 1 rfl ?_
        refine gf_X8_77 g dX8_nonceOf_11 0 rfl rfl ?_
        refine v_iload g dX8_nonceOf_14 0 rfl ?_
        refine v_aload_n g dX8_nonceOf_16 0 rfl 1 rfl ?_
        refine gf_X8_28 g dX8_nonceOf_17 0 rfl rfl ?_
        refine v_bipush g dX8_nonceOf_20 (v := nI 32) (by decide +kernel) ?_
        refine v_iload_n g dX8_nonceOf_22 1 rfl 2 rfl ?_
        refine v_imulN g dX8_nonceOf_23 ?_
        refine v_iload g dX8_nonceOf_24 0 rfl ?_
        refine v_iaddN g dX8_nonceOf_26 ?_
        refine v_ialdY g 3 rfl (by omega) (by decide) dX8_nonceOf_27 ?_
        obtain ⟨t2, ht2⟩ : ∃ z : Nat → By, z = va_up bk0 i (t_a0_key ((32 * p1) + i)) := ⟨_, rfl⟩
        refine v_iastY g ((t_a0_key ((32 * p1) + i))) rfl t2 ht2 1 [(a0, .inr (8, [.int (nI v_a0_thrown), .ref a0_tape, .int (nI v_a0_taped), .ref a0_out, .int (nI v_a0_outs), .ref a0_slots, .ref a0_kept, .ref a0_phase, .ref a0_secret, .ref a0_key, .ref a0_hide, .ref a0_iv, .ref a0_begin, .ref a0_each, .ref a0_root, .ref a0_power, .ref a0_work, .ref a0_w, .ref a0_h, .ref a0_state, .ref a0_sum, .ref a0_pad, .ref a0_text, .int (nI v_a0_texts), .ref a0_info, .int (nI v_a0_infos), .ref a0_made, .ref a0_blockKey, .ref a0_nonce, .ref a0_x, .ref a0_first, .ref a0_block, .ref a0_a, .ref a0_r, .ref a0_product, .ref a0_tag, .ref a0_sealed])), (a0_blockKey, aY C.D 32 t2), (a0_nonce, aY C.D 12 t_a0_nonce), (a0_key, aY C.D 128 t_a0_key), (a0_iv, aY C.D 128 t_a0_iv)] rfl (by omega) (by decide) dX8_nonceOf_28 rfl ?_
        refine v_iincN g 1 [(4, .int (nI (i + 1))), (0, .ref a0), (1, .int (nI p1)), (2, .long (xL p2))] dX8_nonceOf_29 0 rfl (by decide +kernel) (by decide) rfl ?_
        refine v_goto g 3 dX8_nonceOf_32 (by decide) ?_
        exact ih t2 (by show _ = cpo t_a0_blockKey 0 (i + 1) (fun j => t_a0_key (32 * p1 + j)); rw [ht2, hv0, ← cpo_s t_a0_blockKey 0 i (fun j => t_a0_key (32 * p1 + j)), Nat.zero_add])
    · skip
      intro bk0 hv0
      refine v_iload g dX8_nonceOf_3 0 rfl ?_
      refine v_bipush g dX8_nonceOf_5 (v := nI 32) (by decide +kernel) ?_
      refine v_icmp_geN g 35 dX8_nonceOf_7 (by decide) (by omega) (by omega) (fun h3 => ?_) (fun h3 => ?_)
      · skip
        subst hv0
        show VJ C 0 0 35 [(4, .int (nI 32)), (0, .ref a0), (1, .int (nI p1)), (2, .long (xL p2))] [] [(a0, .inr (8, [.int (nI v_a0_thrown), .ref a0_tape, .int (nI v_a0_taped), .ref a0_out, .int (nI v_a0_outs), .ref a0_slots, .ref a0_kept, .ref a0_phase, .ref a0_secret, .ref a0_key, .ref a0_hide, .ref a0_iv, .ref a0_begin, .ref a0_each, .ref a0_root, .ref a0_power, .ref a0_work, .ref a0_w, .ref a0_h, .ref a0_state, .ref a0_sum, .ref a0_pad, .ref a0_text, .int (nI v_a0_texts), .ref a0_info, .int (nI v_a0_infos), .ref a0_made, .ref a0_blockKey, .ref a0_nonce, .ref a0_x, .ref a0_first, .ref a0_block, .ref a0_a, .ref a0_r, .ref a0_product, .ref a0_tag, .ref a0_sealed])), (a0_blockKey, aY C.D 32 (cpo t_a0_blockKey 0 32 (fun j => t_a0_key (32 * p1 + j)))), (a0_nonce, aY C.D 12 t_a0_nonce), (a0_key, aY C.D 128 t_a0_key), (a0_iv, aY C.D 128 t_a0_iv)]
        refine v_iconst g dX8_nonceOf_35 (v := nI 0) (by decide +kernel) ?_
        refine v_istore g [(4, .int (nI 0)), (0, .ref a0), (1, .int (nI p1)), (2, .long (xL p2))] dX8_nonceOf_36 (by decide) rfl ?_
        have L38_3 : ∀ i : Nat, i ≤ 12 → ∀ (na : Nat → By), (∀ j, j < i → na j = nonF (fun j => t_a0_iv (32 * p1 + j)) p2 j) → VJ C 0 0 38 [(4, .int (nI i)), (0, .ref a0), (1, .int (nI p1)), (2, .long (xL p2))] [] [(a0, .inr (8, [.int (nI v_a0_thrown), .ref a0_tape, .int (nI v_a0_taped), .ref a0_out, .int (nI v_a0_outs), .ref a0_slots, .ref a0_kept, .ref a0_phase, .ref a0_secret, .ref a0_key, .ref a0_hide, .ref a0_iv, .ref a0_begin, .ref a0_each, .ref a0_root, .ref a0_power, .ref a0_work, .ref a0_w, .ref a0_h, .ref a0_state, .ref a0_sum, .ref a0_pad, .ref a0_text, .int (nI v_a0_texts), .ref a0_info, .int (nI v_a0_infos), .ref a0_made, .ref a0_blockKey, .ref a0_nonce, .ref a0_x, .ref a0_first, .ref a0_block, .ref a0_a, .ref a0_r, .ref a0_product, .ref a0_tag, .ref a0_sealed])), (a0_blockKey, aY C.D 32 (cpo t_a0_blockKey 0 32 (fun j => t_a0_key (32 * p1 + j)))), (a0_nonce, aY C.D 12 na), (a0_key, aY C.D 128 t_a0_key), (a0_iv, aY C.D 128 t_a0_iv)] := by
          refine v_for (12) ?_ ?_
          · skip
            intro i hii ih na hv0
            refine v_iload g dX8_nonceOf_38 0 rfl ?_
            refine v_bipush g dX8_nonceOf_40 (v := nI 12) (by decide +kernel) ?_
            refine v_icmp_geN g 96 dX8_nonceOf_42 (by decide) (by omega) (by omega) (fun h4 => ?_) (fun h4 => ?_)
            · skip
              exact absurd h4 (by omega)
            · skip
              refine v_aload_n g dX8_nonceOf_45 0 rfl 1 rfl ?_
              refine gf_X8_80 g dX8_nonceOf_46 0 rfl rfl ?_
              refine v_iload g dX8_nonceOf_49 0 rfl ?_
              refine v_aload_n g dX8_nonceOf_51 0 rfl 1 rfl ?_
              refine gf_X8_34 g dX8_nonceOf_52 0 rfl rfl ?_
              refine v_bipush g dX8_nonceOf_55 (v := nI 32) (by decide +kernel) ?_
              refine v_iload_n g dX8_nonceOf_57 1 rfl 2 rfl ?_
              refine v_imulN g dX8_nonceOf_58 ?_
              refine v_iload g dX8_nonceOf_59 0 rfl ?_
              refine v_iaddN g dX8_nonceOf_61 ?_
              refine v_ialdY g 4 rfl (by omega) (by decide) dX8_nonceOf_62 ?_
              refine v_iload g dX8_nonceOf_63 0 rfl ?_
              refine v_iconst g dX8_nonceOf_65 (v := nI 4) (by decide +kernel) ?_
              refine v_icmp_geN g 73 dX8_nonceOf_66 (by decide) (by omega) (by omega) (fun h5 => ?_) (fun h5 => ?_)
              · skip
                refine v_lload_n g dX8_nonceOf_73 2 rfl 3 rfl ?_
                refine v_bipush g dX8_nonceOf_74 (v := nI 8) (by decide +kernel) ?_
                refine v_bipush g dX8_nonceOf_76 (v := nI 11) (by decide +kernel) ?_
                refine v_iload g dX8_nonceOf_78 0 rfl ?_
                refine v_isubN g dX8_nonceOf_80 (by omega) ?_
                refine v_imulN g dX8_nonceOf_81 ?_
                refine v_lshrX g (by omega) dX8_nonceOf_82 ?_
                refine v_ldc2 g dX8_nonceOf_83 kl_X8_134 ?_
                refine v_landX g (p2.sshiftRight (8 * (11 - i))) (255#64) rfl (xL_n _) dX8_nonceOf_86 ?_
                refine v_l2iX g dX8_nonceOf_87 ?_
                refine v_toi (nI (((p2 >>> (8 * (11 - i))).setWidth 8).toNat)) (sb8 p2 (by omega)) ?_
                refine v_ixorN g dX8_nonceOf_88 ?_
                refine v_toi (nI ((t_a0_iv ((32 * p1) + i)) ^^^ ((p2 >>> (8 * (11 - i))).setWidth 8)).toNat) (congrArg nI (BitVec.toNat_xor ((t_a0_iv ((32 * p1) + i))) (((p2 >>> (8 * (11 - i))).setWidth 8))).symm) ?_
                obtain ⟨t6, ht6⟩ : ∃ z : Nat → By, z = va_up na i ((t_a0_iv ((32 * p1) + i)) ^^^ ((p2 >>> (8 * (11 - i))).setWidth 8)) := ⟨_, rfl⟩
                refine v_iastY g (((t_a0_iv ((32 * p1) + i)) ^^^ ((p2 >>> (8 * (11 - i))).setWidth 8))) rfl t6 ht6 2 [(a0, .inr (8, [.int (nI v_a0_thrown), .ref a0_tape, .int (nI v_a0_taped), .ref a0_out, .int (nI v_a0_outs), .ref a0_slots, .ref a0_kept, .ref a0_phase, .ref a0_secret, .ref a0_key, .ref a0_hide, .ref a0_iv, .ref a0_begin, .ref a0_each, .ref a0_root, .ref a0_power, .ref a0_work, .ref a0_w, .ref a0_h, .ref a0_state, .ref a0_sum, .ref a0_pad, .ref a0_text, .int (nI v_a0_texts), .ref a0_info, .int (nI v_a0_infos), .ref a0_made, .ref a0_blockKey, .ref a0_nonce, .ref a0_x, .ref a0_first, .ref a0_block, .ref a0_a, .ref a0_r, .ref a0_product, .ref a0_tag, .ref a0_sealed])), (a0_blockKey, aY C.D 32 (cpo t_a0_blockKey 0 32 (fun j => t_a0_key (32 * p1 + j)))), (a0_nonce, aY C.D 12 t6), (a0_key, aY C.D 128 t_a0_key), (a0_iv, aY C.D 128 t_a0_iv)] rfl (by omega) (by decide) dX8_nonceOf_89 rfl ?_
                refine v_iincN g 1 [(4, .int (nI (i + 1))), (0, .ref a0), (1, .int (nI p1)), (2, .long (xL p2))] dX8_nonceOf_90 0 rfl (by decide +kernel) (by decide) rfl ?_
                refine v_goto g 38 dX8_nonceOf_93 (by decide) ?_
                exact ih t6 (up_lt (m := i) hv0 (non_k (iv := (fun j => t_a0_iv (32 * p1 + j))) (by omega)) ht6)
              · skip
                refine v_iconst g dX8_nonceOf_69 (v := nI 0) (by decide +kernel) ?_
                refine v_goto g 88 dX8_nonceOf_70 (by decide) ?_
                refine v_ixorN g dX8_nonceOf_88 ?_
                refine v_toi (nI ((t_a0_iv ((32 * p1) + i)) ^^^ 0#8).toNat) (congrArg nI (BitVec.toNat_xor ((t_a0_iv ((32 * p1) + i))) (0#8)).symm) ?_
                obtain ⟨t7, ht7⟩ : ∃ z : Nat → By, z = va_up na i ((t_a0_iv ((32 * p1) + i)) ^^^ 0#8) := ⟨_, rfl⟩
                refine v_iastY g (((t_a0_iv ((32 * p1) + i)) ^^^ 0#8)) rfl t7 ht7 2 [(a0, .inr (8, [.int (nI v_a0_thrown), .ref a0_tape, .int (nI v_a0_taped), .ref a0_out, .int (nI v_a0_outs), .ref a0_slots, .ref a0_kept, .ref a0_phase, .ref a0_secret, .ref a0_key, .ref a0_hide, .ref a0_iv, .ref a0_begin, .ref a0_each, .ref a0_root, .ref a0_power, .ref a0_work, .ref a0_w, .ref a0_h, .ref a0_state, .ref a0_sum, .ref a0_pad, .ref a0_text, .int (nI v_a0_texts), .ref a0_info, .int (nI v_a0_infos), .ref a0_made, .ref a0_blockKey, .ref a0_nonce, .ref a0_x, .ref a0_first, .ref a0_block, .ref a0_a, .ref a0_r, .ref a0_product, .ref a0_tag, .ref a0_sealed])), (a0_blockKey, aY C.D 32 (cpo t_a0_blockKey 0 32 (fun j => t_a0_key (32 * p1 + j)))), (a0_nonce, aY C.D 12 t7), (a0_key, aY C.D 128 t_a0_key), (a0_iv, aY C.D 128 t_a0_iv)] rfl (by omega) (by decide) dX8_nonceOf_89 rfl ?_
                refine v_iincN g 1 [(4, .int (nI (i + 1))), (0, .ref a0), (1, .int (nI p1)), (2, .long (xL p2))] dX8_nonceOf_90 0 rfl (by decide +kernel) (by decide) rfl ?_
                refine v_goto g 38 dX8_nonceOf_93 (by decide) ?_
                exact ih t7 (up_lt (m := i) hv0 (non_0 (iv := (fun j => t_a0_iv (32 * p1 + j))) (by omega)) ht7)
          · skip
            intro na hv0
            refine v_iload g dX8_nonceOf_38 0 rfl ?_
            refine v_bipush g dX8_nonceOf_40 (v := nI 12) (by decide +kernel) ?_
            refine v_icmp_geN g 96 dX8_nonceOf_42 (by decide) (by omega) (by omega) (fun h8 => ?_) (fun h8 => ?_)
            · skip
              exact v_ret g R dX8_nonceOf_96 (by decide) (by decide) ⟨_, na, rfl, rfl, (fun j hj => cpo_z hj), hv0⟩
            · skip
              exact absurd h8 (by omega)
        exact L38_3 0 (by omega) t_a0_nonce (fun j hj => absurd hj (by omega))
      · skip
        exact absurd h3 (by omega)
  exact L3_0 0 (by omega) t_a0_blockKey ((cpo_0 _ _ _).symm)
set_option maxHeartbeats 4000000 in
set_option maxRecDepth 100000 in
theorem c_R_chg (l : Launch) (D : va_G) (a0 : Nat) (p1 : Nat) (p2 : Nat) (v_a0_thrown : Nat) (a0_tape : Nat) (v_a0_taped : Nat) (a0_out : Nat) (v_a0_outs : Nat) (a0_slots : Nat) (a0_kept : Nat) (a0_phase : Nat) (a0_secret : Nat) (a0_key : Nat) (a0_hide : Nat) (a0_iv : Nat) (a0_begin : Nat) (a0_each : Nat) (a0_root : Nat) (a0_power : Nat) (a0_work : Nat) (a0_w : Nat) (a0_h : Nat) (a0_state : Nat) (a0_sum : Nat) (a0_pad : Nat) (a0_text : Nat) (v_a0_texts : Nat) (a0_info : Nat) (v_a0_infos : Nat) (a0_made : Nat) (a0_blockKey : Nat) (a0_nonce : Nat) (a0_x : Nat) (a0_first : Nat) (a0_block : Nat) (a0_a : Nat) (a0_r : Nat) (a0_product : Nat) (a0_tag : Nat) (a0_sealed : Nat) (t_a0_blockKey : Nat → By) (t_a0_nonce : Nat → By) (t_a0_x : Nat → Wd) (t_a0_first : Nat → Wd) (t_a0_block : Nat → By) (t_a0_tape : Nat → By)  (h1 : p1 ≤ p2) (h2 : p2 ≤ 2048) : vM l D yX8_change cX8_change 4 none { frames := 4, cells := 0, slots := 0, locals := 95 } [.ref a0, .int (nI p1), .int (nI p2)] [(a0, .inr (8, [.int (nI v_a0_thrown), .ref a0_tape, .int (nI v_a0_taped), .ref a0_out, .int (nI v_a0_outs), .ref a0_slots, .ref a0_kept, .ref a0_phase, .ref a0_secret, .ref a0_key, .ref a0_hide, .ref a0_iv, .ref a0_begin, .ref a0_each, .ref a0_root, .ref a0_power, .ref a0_work, .ref a0_w, .ref a0_h, .ref a0_state, .ref a0_sum, .ref a0_pad, .ref a0_text, .int (nI v_a0_texts), .ref a0_info, .int (nI v_a0_infos), .ref a0_made, .ref a0_blockKey, .ref a0_nonce, .ref a0_x, .ref a0_first, .ref a0_block, .ref a0_a, .ref a0_r, .ref a0_product, .ref a0_tag, .ref a0_sealed])), (a0_blockKey, aY D 32 t_a0_blockKey), (a0_nonce, aY D 12 t_a0_nonce), (a0_x, aM D 16 t_a0_x), (a0_first, aM D 16 t_a0_first), (a0_block, aY D 64 t_a0_block), (a0_tape, aY D 2048 t_a0_tape)] (fun r wo => ∃ (bx : Nat → Wd) (bf : Nat → Wd) (bb : Nat → By) (tc : Nat → By), r = none ∧ wo = [(a0, .inr (8, [.int (nI v_a0_thrown), .ref a0_tape, .int (nI v_a0_taped), .ref a0_out, .int (nI v_a0_outs), .ref a0_slots, .ref a0_kept, .ref a0_phase, .ref a0_secret, .ref a0_key, .ref a0_hide, .ref a0_iv, .ref a0_begin, .ref a0_each, .ref a0_root, .ref a0_power, .ref a0_work, .ref a0_w, .ref a0_h, .ref a0_state, .ref a0_sum, .ref a0_pad, .ref a0_text, .int (nI v_a0_texts), .ref a0_info, .int (nI v_a0_infos), .ref a0_made, .ref a0_blockKey, .ref a0_nonce, .ref a0_x, .ref a0_first, .ref a0_block, .ref a0_a, .ref a0_r, .ref a0_product, .ref a0_tag, .ref a0_sealed])), (a0_blockKey, aY D 32 t_a0_blockKey), (a0_nonce, aY D 12 t_a0_nonce), (a0_x, aM D 16 bx), (a0_first, aM D 16 bf), (a0_block, aY D 64 bb), (a0_tape, aY D 2048 tc)] ∧ (∀ j, tc j = covF t_a0_blockKey t_a0_nonce t_a0_tape p1 p2 j)) := by
  refine vM.of (by decide) (Nat.le_of_ble_eq_true rfl) (fun C hCl hCD g R => ?_)
  subst hCl; subst hCD
  show VJ C 0 0 0 [(0, .ref a0), (1, .int (nI p1)), (2, .int (nI p2))] [] [(a0, .inr (8, [.int (nI v_a0_thrown), .ref a0_tape, .int (nI v_a0_taped), .ref a0_out, .int (nI v_a0_outs), .ref a0_slots, .ref a0_kept, .ref a0_phase, .ref a0_secret, .ref a0_key, .ref a0_hide, .ref a0_iv, .ref a0_begin, .ref a0_each, .ref a0_root, .ref a0_power, .ref a0_work, .ref a0_w, .ref a0_h, .ref a0_state, .ref a0_sum, .ref a0_pad, .ref a0_text, .int (nI v_a0_texts), .ref a0_info, .int (nI v_a0_infos), .ref a0_made, .ref a0_blockKey, .ref a0_nonce, .ref a0_x, .ref a0_first, .ref a0_block, .ref a0_a, .ref a0_r, .ref a0_product, .ref a0_tag, .ref a0_sealed])), (a0_blockKey, aY C.D 32 t_a0_blockKey), (a0_nonce, aY C.D 12 t_a0_nonce), (a0_x, aM C.D 16 t_a0_x), (a0_first, aM C.D 16 t_a0_first), (a0_block, aY C.D 64 t_a0_block), (a0_tape, aY C.D 2048 t_a0_tape)]
  refine v_iload_n g dX8_change_0 1 rfl 1 rfl ?_
  refine v_istore_n g [(3, .int (nI p1)), (0, .ref a0), (1, .int (nI p1)), (2, .int (nI p2))] dX8_change_1 3 rfl (by decide) rfl ?_
  have L2_0 : ∀ i : Nat, i ≤ (p2 - p1) → ∀ (xa : Nat → Wd) (fa : Nat → Wd) (ba : Nat → By) (ta : Nat → By), (∀ j, ta j = covF t_a0_blockKey t_a0_nonce t_a0_tape p1 (p1 + i) j) → (0 < i → ∀ q, q < 64 → ba q = ccF t_a0_blockKey t_a0_nonce (BitVec.ofNat 32 (1 + (i - 1) / 64)) q) → VJ C 0 0 2 [(3, .int (nI (p1 + i))), (0, .ref a0), (1, .int (nI p1)), (2, .int (nI p2))] [] [(a0, .inr (8, [.int (nI v_a0_thrown), .ref a0_tape, .int (nI v_a0_taped), .ref a0_out, .int (nI v_a0_outs), .ref a0_slots, .ref a0_kept, .ref a0_phase, .ref a0_secret, .ref a0_key, .ref a0_hide, .ref a0_iv, .ref a0_begin, .ref a0_each, .ref a0_root, .ref a0_power, .ref a0_work, .ref a0_w, .ref a0_h, .ref a0_state, .ref a0_sum, .ref a0_pad, .ref a0_text, .int (nI v_a0_texts), .ref a0_info, .int (nI v_a0_infos), .ref a0_made, .ref a0_blockKey, .ref a0_nonce, .ref a0_x, .ref a0_first, .ref a0_block, .ref a0_a, .ref a0_r, .ref a0_product, .ref a0_tag, .ref a0_sealed])), (a0_blockKey, aY C.D 32 t_a0_blockKey), (a0_nonce, aY C.D 12 t_a0_nonce), (a0_x, aM C.D 16 xa), (a0_first, aM C.D 16 fa), (a0_block, aY C.D 64 ba), (a0_tape, aY C.D 2048 ta)] := by
    refine v_for ((p2 - p1)) ?_ ?_
    · skip
      intro i hii ih xa fa ba ta hv0 hv1
      refine v_iload_n g dX8_change_2 3 rfl 0 rfl ?_
      refine v_iload_n g dX8_change_3 2 rfl 3 rfl ?_
      refine v_icmp_geN g 59 dX8_change_4 (by decide) (by omega) (by omega) (fun h3 => ?_) (fun h3 => ?_)
      · skip
        exact absurd h3 (by omega)
      · skip
        have J29 : ∀ (xb : Nat → Wd) (fb : Nat → Wd) (bc : Nat → By), (∀ q, q < 64 → bc q = ccF t_a0_blockKey t_a0_nonce (BitVec.ofNat 32 (1 + i / 64)) q) → VJ C 0 0 29 [(3, .int (nI (p1 + i))), (0, .ref a0), (1, .int (nI p1)), (2, .int (nI p2))] [] [(a0, .inr (8, [.int (nI v_a0_thrown), .ref a0_tape, .int (nI v_a0_taped), .ref a0_out, .int (nI v_a0_outs), .ref a0_slots, .ref a0_kept, .ref a0_phase, .ref a0_secret, .ref a0_key, .ref a0_hide, .ref a0_iv, .ref a0_begin, .ref a0_each, .ref a0_root, .ref a0_power, .ref a0_work, .ref a0_w, .ref a0_h, .ref a0_state, .ref a0_sum, .ref a0_pad, .ref a0_text, .int (nI v_a0_texts), .ref a0_info, .int (nI v_a0_infos), .ref a0_made, .ref a0_blockKey, .ref a0_nonce, .ref a0_x, .ref a0_first, .ref a0_block, .ref a0_a, .ref a0_r, .ref a0_product, .ref a0_tag, .ref a0_sealed])), (a0_blockKey, aY C.D 32 t_a0_blockKey), (a0_nonce, aY C.D 12 t_a0_nonce), (a0_x, aM C.D 16 xb), (a0_first, aM C.D 16 fb), (a0_block, aY C.D 64 bc), (a0_tape, aY C.D 2048 ta)] := by
          intro xb fb bc hj0
          refine v_aload_n g dX8_change_29 0 rfl 1 rfl ?_
          refine gf_X8_7 g dX8_change_30 0 rfl rfl ?_
          refine v_iload_n g dX8_change_33 3 rfl 0 rfl ?_
          refine v_aload_n g dX8_change_34 0 rfl 1 rfl ?_
          refine gf_X8_7 g dX8_change_35 0 rfl rfl ?_
          refine v_iload_n g dX8_change_38 3 rfl 0 rfl ?_
          refine v_ialdY g 6 rfl (by omega) (by decide) dX8_change_39 ?_
          refine v_aload_n g dX8_change_40 0 rfl 1 rfl ?_
          refine gf_X8_89 g dX8_change_41 0 rfl rfl ?_
          refine v_iload_n g dX8_change_44 3 rfl 0 rfl ?_
          refine v_iload_n g dX8_change_45 1 rfl 2 rfl ?_
          refine v_isubN g dX8_change_46 (by omega) ?_
          refine v_bipush g dX8_change_47 (v := nI 64) (by decide +kernel) ?_
          refine v_iremN g dX8_change_49 (by omega) (by omega) (by omega) ?_
          refine v_ialdY g 5 rfl (by omega) (by decide) dX8_change_50 ?_
          refine v_ixorN g dX8_change_51 ?_
          refine v_toi (nI ((ta (p1 + i)) ^^^ (bc (((p1 + i) - p1) % 64))).toNat) (congrArg nI (BitVec.toNat_xor ((ta (p1 + i))) ((bc (((p1 + i) - p1) % 64)))).symm) ?_
          obtain ⟨t4, ht4⟩ : ∃ z : Nat → By, z = va_up ta (p1 + i) ((ta (p1 + i)) ^^^ (bc (((p1 + i) - p1) % 64))) := ⟨_, rfl⟩
          refine v_iastY g (((ta (p1 + i)) ^^^ (bc (((p1 + i) - p1) % 64)))) rfl t4 ht4 6 [(a0, .inr (8, [.int (nI v_a0_thrown), .ref a0_tape, .int (nI v_a0_taped), .ref a0_out, .int (nI v_a0_outs), .ref a0_slots, .ref a0_kept, .ref a0_phase, .ref a0_secret, .ref a0_key, .ref a0_hide, .ref a0_iv, .ref a0_begin, .ref a0_each, .ref a0_root, .ref a0_power, .ref a0_work, .ref a0_w, .ref a0_h, .ref a0_state, .ref a0_sum, .ref a0_pad, .ref a0_text, .int (nI v_a0_texts), .ref a0_info, .int (nI v_a0_infos), .ref a0_made, .ref a0_blockKey, .ref a0_nonce, .ref a0_x, .ref a0_first, .ref a0_block, .ref a0_a, .ref a0_r, .ref a0_product, .ref a0_tag, .ref a0_sealed])), (a0_blockKey, aY C.D 32 t_a0_blockKey), (a0_nonce, aY C.D 12 t_a0_nonce), (a0_x, aM C.D 16 xb), (a0_first, aM C.D 16 fb), (a0_block, aY C.D 64 bc), (a0_tape, aY C.D 2048 t4)] rfl (by omega) (by decide) dX8_change_52 rfl ?_
          refine v_iincN g 1 [(3, .int (nI (p1 + i + 1))), (0, .ref a0), (1, .int (nI p1)), (2, .int (nI p2))] dX8_change_53 0 rfl (by decide +kernel) (by decide) rfl ?_
          refine v_goto g 2 dX8_change_56 (by decide) ?_
          exact ih xb fb bc t4 (rcov_s hv0 (hj0 _ (by omega)) ht4) (fun _ => by rw [show (i + 1 - 1) / 64 = i / 64 by omega]; exact hj0)
        refine v_iload_n g dX8_change_7 3 rfl 0 rfl ?_
        refine v_iload_n g dX8_change_8 1 rfl 2 rfl ?_
        refine v_isubN g dX8_change_9 (by omega) ?_
        refine v_bipush g dX8_change_10 (v := nI 64) (by decide +kernel) ?_
        refine v_iremN g dX8_change_12 (by omega) (by omega) (by omega) ?_
        refine v_if_neN g 29 dX8_change_13 (by decide) (by omega) (fun h5 => ?_) (fun h5 => ?_)
        · skip
          exact J29 xa fa ba (fun q hq => by rw [show i / 64 = (i - 1) / 64 by omega]; exact hv1 (by omega) q hq)
        · skip
          refine v_aload_n g dX8_change_16 0 rfl 1 rfl ?_
          refine v_iload_n g dX8_change_17 3 rfl 0 rfl ?_
          refine v_iload_n g dX8_change_18 1 rfl 2 rfl ?_
          refine v_isubN g dX8_change_19 (by omega) ?_
          refine v_bipush g dX8_change_20 (v := nI 64) (by decide +kernel) ?_
          refine v_idivN g dX8_change_22 (by omega) (by omega) (by omega) ?_
          refine v_iconst g dX8_change_23 (v := nI 1) (by decide +kernel) ?_
          refine v_iaddN g dX8_change_24 ?_
          refine v_i2lN g (by omega) dX8_change_25 ?_
          refine v_callV (As := [.long (lN ((((p1 + i) - p1) / 64) + 1))]) (rest := []) (wr := [(a0_tape, aY C.D 2048 ta)]) cw_X8_240 (hy_X8_blockOf) g (c_R_block C.l C.D a0 (BitVec.ofNat 64 ((((p1 + i) - p1) / 64) + 1)) v_a0_thrown a0_tape v_a0_taped a0_out v_a0_outs a0_slots a0_kept a0_phase a0_secret a0_key a0_hide a0_iv a0_begin a0_each a0_root a0_power a0_work a0_w a0_h a0_state a0_sum a0_pad a0_text v_a0_texts a0_info v_a0_infos a0_made a0_blockKey a0_nonce a0_x a0_first a0_block a0_a a0_r a0_product a0_tag a0_sealed t_a0_blockKey t_a0_nonce xa fa ba ) dX8_change_26 0 rfl rfl rfl (by decide) (by decide) (Nat.le_of_ble_eq_true rfl) [0, 1, 2, 3, 4, 5] [6] rfl rfl (by decide) rfl (by decide) (by decide) _ rfl (fun r wo hp6 => ?_)
          obtain ⟨xn, fn, bn, rfl, rfl, hbn⟩ := hp6
          refine v_perm [1, 2, 3, 4, 5, 6, 0] [(a0, .inr (8, [.int (nI v_a0_thrown), .ref a0_tape, .int (nI v_a0_taped), .ref a0_out, .int (nI v_a0_outs), .ref a0_slots, .ref a0_kept, .ref a0_phase, .ref a0_secret, .ref a0_key, .ref a0_hide, .ref a0_iv, .ref a0_begin, .ref a0_each, .ref a0_root, .ref a0_power, .ref a0_work, .ref a0_w, .ref a0_h, .ref a0_state, .ref a0_sum, .ref a0_pad, .ref a0_text, .int (nI v_a0_texts), .ref a0_info, .int (nI v_a0_infos), .ref a0_made, .ref a0_blockKey, .ref a0_nonce, .ref a0_x, .ref a0_first, .ref a0_block, .ref a0_a, .ref a0_r, .ref a0_product, .ref a0_tag, .ref a0_sealed])), (a0_blockKey, aY C.D 32 t_a0_blockKey), (a0_nonce, aY C.D 12 t_a0_nonce), (a0_x, aM C.D 16 xn), (a0_first, aM C.D 16 fn), (a0_block, aY C.D 64 bn), (a0_tape, aY C.D 2048 ta)] (by decide) rfl rfl ?_
          show VJ C 0 0 29 [(3, .int (nI (p1 + i))), (0, .ref a0), (1, .int (nI p1)), (2, .int (nI p2))] [] [(a0, .inr (8, [.int (nI v_a0_thrown), .ref a0_tape, .int (nI v_a0_taped), .ref a0_out, .int (nI v_a0_outs), .ref a0_slots, .ref a0_kept, .ref a0_phase, .ref a0_secret, .ref a0_key, .ref a0_hide, .ref a0_iv, .ref a0_begin, .ref a0_each, .ref a0_root, .ref a0_power, .ref a0_work, .ref a0_w, .ref a0_h, .ref a0_state, .ref a0_sum, .ref a0_pad, .ref a0_text, .int (nI v_a0_texts), .ref a0_info, .int (nI v_a0_infos), .ref a0_made, .ref a0_blockKey, .ref a0_nonce, .ref a0_x, .ref a0_first, .ref a0_block, .ref a0_a, .ref a0_r, .ref a0_product, .ref a0_tag, .ref a0_sealed])), (a0_blockKey, aY C.D 32 t_a0_blockKey), (a0_nonce, aY C.D 12 t_a0_nonce), (a0_x, aM C.D 16 xn), (a0_first, aM C.D 16 fn), (a0_block, aY C.D 64 bn), (a0_tape, aY C.D 2048 ta)]
          exact J29 xn fn bn (fun q hq => by rw [hbn q hq, on64, show (p1 + i - p1) / 64 + 1 = 1 + i / 64 by omega])
    · skip
      intro xa fa ba ta hv0 hv1
      refine v_iload_n g dX8_change_2 3 rfl 0 rfl ?_
      refine v_iload_n g dX8_change_3 2 rfl 3 rfl ?_
      refine v_icmp_geN g 59 dX8_change_4 (by decide) (by omega) (by omega) (fun h7 => ?_) (fun h7 => ?_)
      · skip
        exact v_ret g R dX8_change_59 (by decide) (by decide) ⟨xa, fa, ba, ta, rfl, rfl, (fun j => by rw [hv0 j, show p1 + (p2 - p1) = p2 by omega])⟩
      · skip
        exact absurd h7 (by omega)
  exact L2_0 0 (by omega) t_a0_x t_a0_first t_a0_block t_a0_tape (rcov_0 _ _ _ _) (fun h => absurd h (by omega))
theorem up_ofs {α : Type} {t t' F : Nat → α} {o m : Nat} {v : α} (h : ∀ j, j < m → t (o + j) = F j) (hv : v = F m) (ht : t' = va_up t (o + m) v) : ∀ j, j < m + 1 → t' (o + j) = F j := by
  intro j hj
  rw [ht]
  unfold va_up
  by_cases e : j = m
  · rw [if_pos (by omega), e, hv]
  · rw [if_neg (by omega)]; exact h j (by omega)
set_option maxHeartbeats 4000000 in
set_option maxRecDepth 100000 in
theorem c_R_tag (l : Launch) (D : va_G) (a0 : Nat) (p1 : Nat) (p2 : Nat) (v_a0_thrown : Nat) (a0_tape : Nat) (v_a0_taped : Nat) (a0_out : Nat) (v_a0_outs : Nat) (a0_slots : Nat) (a0_kept : Nat) (a0_phase : Nat) (a0_secret : Nat) (a0_key : Nat) (a0_hide : Nat) (a0_iv : Nat) (a0_begin : Nat) (a0_each : Nat) (a0_root : Nat) (a0_power : Nat) (a0_work : Nat) (a0_w : Nat) (a0_h : Nat) (a0_state : Nat) (a0_sum : Nat) (a0_pad : Nat) (a0_text : Nat) (v_a0_texts : Nat) (a0_info : Nat) (v_a0_infos : Nat) (a0_made : Nat) (a0_blockKey : Nat) (a0_nonce : Nat) (a0_x : Nat) (a0_first : Nat) (a0_block : Nat) (a0_a : Nat) (a0_r : Nat) (a0_product : Nat) (a0_tag : Nat) (a0_sealed : Nat) (t_a0_blockKey : Nat → By) (t_a0_nonce : Nat → By) (t_a0_x : Nat → Wd) (t_a0_first : Nat → Wd) (t_a0_block : Nat → By) (t_a0_a : Nat → By) (t_a0_r : Nat → By) (t_a0_product : Nat → By) (t_a0_tag : Nat → By) (t_a0_sealed : Nat → By) (t_a0_tape : Nat → By)  (h1 : p1 ≤ p2) (h2 : p2 ≤ 2048) : vM l D yX8_tagOf cX8_tagOf 5 none { frames := 4, cells := 0, slots := 0, locals := 95 } [.ref a0, .int (nI p1), .int (nI p2)] [(a0, .inr (8, [.int (nI v_a0_thrown), .ref a0_tape, .int (nI v_a0_taped), .ref a0_out, .int (nI v_a0_outs), .ref a0_slots, .ref a0_kept, .ref a0_phase, .ref a0_secret, .ref a0_key, .ref a0_hide, .ref a0_iv, .ref a0_begin, .ref a0_each, .ref a0_root, .ref a0_power, .ref a0_work, .ref a0_w, .ref a0_h, .ref a0_state, .ref a0_sum, .ref a0_pad, .ref a0_text, .int (nI v_a0_texts), .ref a0_info, .int (nI v_a0_infos), .ref a0_made, .ref a0_blockKey, .ref a0_nonce, .ref a0_x, .ref a0_first, .ref a0_block, .ref a0_a, .ref a0_r, .ref a0_product, .ref a0_tag, .ref a0_sealed])), (a0_blockKey, aY D 32 t_a0_blockKey), (a0_nonce, aY D 12 t_a0_nonce), (a0_x, aM D 16 t_a0_x), (a0_first, aM D 16 t_a0_first), (a0_block, aY D 64 t_a0_block), (a0_a, aY D 40 t_a0_a), (a0_r, aY D 16 t_a0_r), (a0_product, aY D 40 t_a0_product), (a0_tag, aY D 16 t_a0_tag), (a0_sealed, aY D 2400 t_a0_sealed), (a0_tape, aY D 2048 t_a0_tape)] (fun r wo => ∃ (bx : Nat → Wd) (bf : Nat → Wd) (bb : Nat → By) (ta : Nat → By) (tr : Nat → By) (tq : Nat → By) (tg : Nat → By) (sl : Nat → By), r = none ∧ wo = [(a0, .inr (8, [.int (nI v_a0_thrown), .ref a0_tape, .int (nI v_a0_taped), .ref a0_out, .int (nI v_a0_outs), .ref a0_slots, .ref a0_kept, .ref a0_phase, .ref a0_secret, .ref a0_key, .ref a0_hide, .ref a0_iv, .ref a0_begin, .ref a0_each, .ref a0_root, .ref a0_power, .ref a0_work, .ref a0_w, .ref a0_h, .ref a0_state, .ref a0_sum, .ref a0_pad, .ref a0_text, .int (nI v_a0_texts), .ref a0_info, .int (nI v_a0_infos), .ref a0_made, .ref a0_blockKey, .ref a0_nonce, .ref a0_x, .ref a0_first, .ref a0_block, .ref a0_a, .ref a0_r, .ref a0_product, .ref a0_tag, .ref a0_sealed])), (a0_blockKey, aY D 32 t_a0_blockKey), (a0_nonce, aY D 12 t_a0_nonce), (a0_x, aM D 16 bx), (a0_first, aM D 16 bf), (a0_block, aY D 64 bb), (a0_a, aY D 40 ta), (a0_r, aY D 16 tr), (a0_product, aY D 40 tq), (a0_tag, aY D 16 tg), (a0_sealed, aY D 2400 sl), (a0_tape, aY D 2048 t_a0_tape)] ∧ (∀ j, j < 16 → tg j = tagF (ccF t_a0_blockKey t_a0_nonce 0#32) t_a0_tape p1 (p2 - p1) j)) := by
  refine vM.of (by decide) (Nat.le_of_ble_eq_true rfl) (fun C hCl hCD g R => ?_)
  subst hCl; subst hCD
  show VJ C 0 0 0 [(0, .ref a0), (1, .int (nI p1)), (2, .int (nI p2))] [] [(a0, .inr (8, [.int (nI v_a0_thrown), .ref a0_tape, .int (nI v_a0_taped), .ref a0_out, .int (nI v_a0_outs), .ref a0_slots, .ref a0_kept, .ref a0_phase, .ref a0_secret, .ref a0_key, .ref a0_hide, .ref a0_iv, .ref a0_begin, .ref a0_each, .ref a0_root, .ref a0_power, .ref a0_work, .ref a0_w, .ref a0_h, .ref a0_state, .ref a0_sum, .ref a0_pad, .ref a0_text, .int (nI v_a0_texts), .ref a0_info, .int (nI v_a0_infos), .ref a0_made, .ref a0_blockKey, .ref a0_nonce, .ref a0_x, .ref a0_first, .ref a0_block, .ref a0_a, .ref a0_r, .ref a0_product, .ref a0_tag, .ref a0_sealed])), (a0_blockKey, aY C.D 32 t_a0_blockKey), (a0_nonce, aY C.D 12 t_a0_nonce), (a0_x, aM C.D 16 t_a0_x), (a0_first, aM C.D 16 t_a0_first), (a0_block, aY C.D 64 t_a0_block), (a0_a, aY C.D 40 t_a0_a), (a0_r, aY C.D 16 t_a0_r), (a0_product, aY C.D 40 t_a0_product), (a0_tag, aY C.D 16 t_a0_tag), (a0_sealed, aY C.D 2400 t_a0_sealed), (a0_tape, aY C.D 2048 t_a0_tape)]
  refine v_iconst g dX8_tagOf_0 (v := nI 0) (by decide +kernel) ?_
  refine v_istore_n g [(3, .int (nI 0)), (0, .ref a0), (1, .int (nI p1)), (2, .int (nI p2))] dX8_tagOf_1 3 rfl (by decide) rfl ?_
  refine v_iconst g dX8_tagOf_2 (v := nI 0) (by decide +kernel) ?_
  refine v_istore g [(4, .int (nI 0)), (3, .int (nI 0)), (0, .ref a0), (1, .int (nI p1)), (2, .int (nI p2))] dX8_tagOf_3 (by decide) rfl ?_
  have hhp : hpN p1 = 16 * ((p1 + 15) / 16) := rfl
  have L5_0 : ∀ k : Nat, k ≤ p2 → ∀ (nn : Nat) (sa : Nat → By), (nn = psN p1 k) → (∀ j, j < nn → sa j = slF t_a0_tape p1 (p2 - p1) j) → VJ C 0 0 5 [(4, .int (nI k)), (3, .int (nI nn)), (0, .ref a0), (1, .int (nI p1)), (2, .int (nI p2))] [] [(a0, .inr (8, [.int (nI v_a0_thrown), .ref a0_tape, .int (nI v_a0_taped), .ref a0_out, .int (nI v_a0_outs), .ref a0_slots, .ref a0_kept, .ref a0_phase, .ref a0_secret, .ref a0_key, .ref a0_hide, .ref a0_iv, .ref a0_begin, .ref a0_each, .ref a0_root, .ref a0_power, .ref a0_work, .ref a0_w, .ref a0_h, .ref a0_state, .ref a0_sum, .ref a0_pad, .ref a0_text, .int (nI v_a0_texts), .ref a0_info, .int (nI v_a0_infos), .ref a0_made, .ref a0_blockKey, .ref a0_nonce, .ref a0_x, .ref a0_first, .ref a0_block, .ref a0_a, .ref a0_r, .ref a0_product, .ref a0_tag, .ref a0_sealed])), (a0_blockKey, aY C.D 32 t_a0_blockKey), (a0_nonce, aY C.D 12 t_a0_nonce), (a0_x, aM C.D 16 t_a0_x), (a0_first, aM C.D 16 t_a0_first), (a0_block, aY C.D 64 t_a0_block), (a0_a, aY C.D 40 t_a0_a), (a0_r, aY C.D 16 t_a0_r), (a0_product, aY C.D 40 t_a0_product), (a0_tag, aY C.D 16 t_a0_tag), (a0_sealed, aY C.D 2400 sa), (a0_tape, aY C.D 2048 t_a0_tape)] := by
    refine v_for (p2) ?_ ?_
    · skip
      intro k hik ih nn sa hv0 hv1
      refine v_iload g dX8_tagOf_5 0 rfl ?_
      refine v_iload_n g dX8_tagOf_7 2 rfl 4 rfl ?_
      refine v_icmp_geN g 59 dX8_tagOf_8 (by decide) (by omega) (by omega) (fun h3 => ?_) (fun h3 => ?_)
      · skip
        exact absurd h3 (by omega)
      · skip
        have J37 : ∀ (nm : Nat) (sb : Nat → By), (nm = pqN p1 k) → (∀ j, j < nm → sb j = slF t_a0_tape p1 (p2 - p1) j) → VJ C 0 0 37 [(4, .int (nI k)), (3, .int (nI nm)), (0, .ref a0), (1, .int (nI p1)), (2, .int (nI p2))] [] [(a0, .inr (8, [.int (nI v_a0_thrown), .ref a0_tape, .int (nI v_a0_taped), .ref a0_out, .int (nI v_a0_outs), .ref a0_slots, .ref a0_kept, .ref a0_phase, .ref a0_secret, .ref a0_key, .ref a0_hide, .ref a0_iv, .ref a0_begin, .ref a0_each, .ref a0_root, .ref a0_power, .ref a0_work, .ref a0_w, .ref a0_h, .ref a0_state, .ref a0_sum, .ref a0_pad, .ref a0_text, .int (nI v_a0_texts), .ref a0_info, .int (nI v_a0_infos), .ref a0_made, .ref a0_blockKey, .ref a0_nonce, .ref a0_x, .ref a0_first, .ref a0_block, .ref a0_a, .ref a0_r, .ref a0_product, .ref a0_tag, .ref a0_sealed])), (a0_blockKey, aY C.D 32 t_a0_blockKey), (a0_nonce, aY C.D 12 t_a0_nonce), (a0_x, aM C.D 16 t_a0_x), (a0_first, aM C.D 16 t_a0_first), (a0_block, aY C.D 64 t_a0_block), (a0_a, aY C.D 40 t_a0_a), (a0_r, aY C.D 16 t_a0_r), (a0_product, aY C.D 40 t_a0_product), (a0_tag, aY C.D 16 t_a0_tag), (a0_sealed, aY C.D 2400 sb), (a0_tape, aY C.D 2048 t_a0_tape)] := by
          intro nm sb hj0 hj1
          have hql := pq_le p1 k
          refine v_aload_n g dX8_tagOf_37 0 rfl 2 rfl ?_
          refine gf_X8_104 g dX8_tagOf_38 0 rfl rfl ?_
          refine v_iload_n g dX8_tagOf_41 3 rfl 1 rfl ?_
          refine v_aload_n g dX8_tagOf_42 0 rfl 2 rfl ?_
          refine gf_X8_7 g dX8_tagOf_43 0 rfl rfl ?_
          refine v_iload g dX8_tagOf_46 0 rfl ?_
          refine v_ialdY g 11 rfl (by omega) (by decide) dX8_tagOf_48 ?_
          obtain ⟨t4, ht4⟩ : ∃ z : Nat → By, z = va_up sb nm (t_a0_tape k) := ⟨_, rfl⟩
          refine v_iastY g ((t_a0_tape k)) rfl t4 ht4 10 [(a0, .inr (8, [.int (nI v_a0_thrown), .ref a0_tape, .int (nI v_a0_taped), .ref a0_out, .int (nI v_a0_outs), .ref a0_slots, .ref a0_kept, .ref a0_phase, .ref a0_secret, .ref a0_key, .ref a0_hide, .ref a0_iv, .ref a0_begin, .ref a0_each, .ref a0_root, .ref a0_power, .ref a0_work, .ref a0_w, .ref a0_h, .ref a0_state, .ref a0_sum, .ref a0_pad, .ref a0_text, .int (nI v_a0_texts), .ref a0_info, .int (nI v_a0_infos), .ref a0_made, .ref a0_blockKey, .ref a0_nonce, .ref a0_x, .ref a0_first, .ref a0_block, .ref a0_a, .ref a0_r, .ref a0_product, .ref a0_tag, .ref a0_sealed])), (a0_blockKey, aY C.D 32 t_a0_blockKey), (a0_nonce, aY C.D 12 t_a0_nonce), (a0_x, aM C.D 16 t_a0_x), (a0_first, aM C.D 16 t_a0_first), (a0_block, aY C.D 64 t_a0_block), (a0_a, aY C.D 40 t_a0_a), (a0_r, aY C.D 16 t_a0_r), (a0_product, aY C.D 40 t_a0_product), (a0_tag, aY C.D 16 t_a0_tag), (a0_sealed, aY C.D 2400 t4), (a0_tape, aY C.D 2048 t_a0_tape)] rfl (by omega) (by decide) dX8_tagOf_49 rfl ?_
          refine v_iincN g 1 [(3, .int (nI (nm + 1))), (4, .int (nI k)), (0, .ref a0), (1, .int (nI p1)), (2, .int (nI p2))] dX8_tagOf_50 1 rfl (by decide +kernel) (by decide) rfl ?_
          refine v_iincN g 1 [(4, .int (nI (k + 1))), (3, .int (nI (nm + 1))), (0, .ref a0), (1, .int (nI p1)), (2, .int (nI p2))] dX8_tagOf_53 1 rfl (by decide +kernel) (by decide) rfl ?_
          refine v_goto g 5 dX8_tagOf_56 (by decide) ?_
          exact ih (nm + 1) t4 (by rw [hj0]; exact pq_s p1 k) (up_lt (m := nm) hj1 (by rw [hj0]; exact pq_v (by omega)) ht4)
        by_cases hk : k = p1
        · skip
          have hnk : nn = p1 := by rw [hv0, hk]; unfold psN; rw [if_pos (Nat.le_refl _)]
          rw [hnk] at hv1 ⊢
          have L11_4 : ∀ i : Nat, i ≤ (hpN p1 - p1) → ∀ (sc : Nat → By), (∀ j, j < p1 + i → sc j = slF t_a0_tape p1 (p2 - p1) j) → VJ C 0 0 11 [(4, .int (nI k)), (3, .int (nI (p1 + i))), (0, .ref a0), (1, .int (nI p1)), (2, .int (nI p2))] [] [(a0, .inr (8, [.int (nI v_a0_thrown), .ref a0_tape, .int (nI v_a0_taped), .ref a0_out, .int (nI v_a0_outs), .ref a0_slots, .ref a0_kept, .ref a0_phase, .ref a0_secret, .ref a0_key, .ref a0_hide, .ref a0_iv, .ref a0_begin, .ref a0_each, .ref a0_root, .ref a0_power, .ref a0_work, .ref a0_w, .ref a0_h, .ref a0_state, .ref a0_sum, .ref a0_pad, .ref a0_text, .int (nI v_a0_texts), .ref a0_info, .int (nI v_a0_infos), .ref a0_made, .ref a0_blockKey, .ref a0_nonce, .ref a0_x, .ref a0_first, .ref a0_block, .ref a0_a, .ref a0_r, .ref a0_product, .ref a0_tag, .ref a0_sealed])), (a0_blockKey, aY C.D 32 t_a0_blockKey), (a0_nonce, aY C.D 12 t_a0_nonce), (a0_x, aM C.D 16 t_a0_x), (a0_first, aM C.D 16 t_a0_first), (a0_block, aY C.D 64 t_a0_block), (a0_a, aY C.D 40 t_a0_a), (a0_r, aY C.D 16 t_a0_r), (a0_product, aY C.D 40 t_a0_product), (a0_tag, aY C.D 16 t_a0_tag), (a0_sealed, aY C.D 2400 sc), (a0_tape, aY C.D 2048 t_a0_tape)] := by
            refine v_for ((hpN p1 - p1)) ?_ ?_
            · skip
              intro i hii ik sc hw0
              refine v_iload g dX8_tagOf_11 0 rfl ?_
              refine v_iload_n g dX8_tagOf_13 1 rfl 3 rfl ?_
              refine v_icmp_neN g 37 dX8_tagOf_14 (by decide) (by omega) (by omega) (fun h => absurd h (by omega)) (fun _ => ?_)
              refine v_iload_n g dX8_tagOf_17 3 rfl 1 rfl ?_
              refine v_bipush g dX8_tagOf_18 (v := nI 16) (by decide +kernel) ?_
              refine v_iremN g dX8_tagOf_20 (by omega) (by omega) (by omega) ?_
              refine v_if_leN g 37 dX8_tagOf_21 (by decide) (by omega) (fun h5 => ?_) (fun h5 => ?_)
              · skip
                exact absurd h5 (by omega)
              · skip
                refine v_aload_n g dX8_tagOf_24 0 rfl 2 rfl ?_
                refine gf_X8_104 g dX8_tagOf_25 0 rfl rfl ?_
                refine v_iload_n g dX8_tagOf_28 3 rfl 1 rfl ?_
                refine v_iconst g dX8_tagOf_29 (v := nI 0) (by decide +kernel) ?_
                obtain ⟨t6, ht6⟩ : ∃ z : Nat → By, z = va_up sc (p1 + i) 0#8 := ⟨_, rfl⟩
                refine v_iastY g (0#8) rfl t6 ht6 10 [(a0, .inr (8, [.int (nI v_a0_thrown), .ref a0_tape, .int (nI v_a0_taped), .ref a0_out, .int (nI v_a0_outs), .ref a0_slots, .ref a0_kept, .ref a0_phase, .ref a0_secret, .ref a0_key, .ref a0_hide, .ref a0_iv, .ref a0_begin, .ref a0_each, .ref a0_root, .ref a0_power, .ref a0_work, .ref a0_w, .ref a0_h, .ref a0_state, .ref a0_sum, .ref a0_pad, .ref a0_text, .int (nI v_a0_texts), .ref a0_info, .int (nI v_a0_infos), .ref a0_made, .ref a0_blockKey, .ref a0_nonce, .ref a0_x, .ref a0_first, .ref a0_block, .ref a0_a, .ref a0_r, .ref a0_product, .ref a0_tag, .ref a0_sealed])), (a0_blockKey, aY C.D 32 t_a0_blockKey), (a0_nonce, aY C.D 12 t_a0_nonce), (a0_x, aM C.D 16 t_a0_x), (a0_first, aM C.D 16 t_a0_first), (a0_block, aY C.D 64 t_a0_block), (a0_a, aY C.D 40 t_a0_a), (a0_r, aY C.D 16 t_a0_r), (a0_product, aY C.D 40 t_a0_product), (a0_tag, aY C.D 16 t_a0_tag), (a0_sealed, aY C.D 2400 t6), (a0_tape, aY C.D 2048 t_a0_tape)] rfl (by omega) (by decide) dX8_tagOf_30 rfl ?_
                refine v_iincN g 1 [(3, .int (nI (p1 + i + 1))), (4, .int (nI k)), (0, .ref a0), (1, .int (nI p1)), (2, .int (nI p2))] dX8_tagOf_31 1 rfl (by decide +kernel) (by decide) rfl ?_
                refine v_goto g 11 dX8_tagOf_34 (by decide) ?_
                refine v_lpick [1, 0, 2, 3, 4] [(4, .int (nI k)), (3, .int (nI (p1 + i + 1))), (0, .ref a0), (1, .int (nI p1)), (2, .int (nI p2))] rfl ?_
                exact ik t6 (up_lt (m := p1 + i) hw0 (by show _ = slF t_a0_tape p1 (p2 - p1) (p1 + i); unfold slF; rw [if_neg (by omega), if_pos (by rw [hhp]; omega)]) ht6)
            · skip
              intro sc hw0
              refine v_iload g dX8_tagOf_11 0 rfl ?_
              refine v_iload_n g dX8_tagOf_13 1 rfl 3 rfl ?_
              refine v_icmp_neN g 37 dX8_tagOf_14 (by decide) (by omega) (by omega) (fun h => absurd h (by omega)) (fun _ => ?_)
              refine v_iload_n g dX8_tagOf_17 3 rfl 1 rfl ?_
              refine v_bipush g dX8_tagOf_18 (v := nI 16) (by decide +kernel) ?_
              refine v_iremN g dX8_tagOf_20 (by omega) (by omega) (by omega) ?_
              refine v_if_leN g 37 dX8_tagOf_21 (by decide) (by omega) (fun h7 => ?_) (fun h7 => ?_)
              · skip
                exact J37 (p1 + (hpN p1 - p1)) sc (by rw [hk]; unfold pqN; rw [if_neg (by omega)]; omega) hw0
              · skip
                exact absurd h7 (by omega)
          exact L11_4 0 (by omega) sa hv1
        · skip
          refine v_iload g dX8_tagOf_11 0 rfl ?_
          refine v_iload_n g dX8_tagOf_13 1 rfl 3 rfl ?_
          refine v_icmp_neN g 37 dX8_tagOf_14 (by decide) (by omega) (by omega) (fun _ => ?_) (fun h => absurd h (by omega))
          exact J37 nn sa (hv0.trans (ps_ne hk)) hv1
    · skip
      intro nn sa hv0 hv1
      refine v_iload g dX8_tagOf_5 0 rfl ?_
      refine v_iload_n g dX8_tagOf_7 2 rfl 4 rfl ?_
      refine v_icmp_geN g 59 dX8_tagOf_8 (by decide) (by omega) (by omega) (fun h5 => ?_) (fun h5 => ?_)
      · skip
        have hn0 : nn ≤ (hpN p1 + 16 * ((p2 - p1 + 15) / 16)) ∧ ((hpN p1 + 16 * ((p2 - p1 + 15) / 16)) - nn < 16) ∧ (p2 = p1 ∧ nn = p1 ∨ p1 < p2 ∧ nn = hpN p1 + (p2 - p1)) := by
          rw [hv0]
          unfold psN
          by_cases e : p2 ≤ p1
          · rw [if_pos e, hhp]; omega
          · rw [if_neg e, hhp]; omega
        have hnn := hv0
        have hsn := hv1
        clear hv0 hv1
        have hN2 : (hpN p1 + 16 * ((p2 - p1 + 15) / 16)) ≤ 2080 ∧ (hpN p1 + 16 * ((p2 - p1 + 15) / 16)) % 16 = 0 := by rw [hhp]; omega
        obtain ⟨NZ, hNZ⟩ : ∃ z, z = (hpN p1 + 16 * ((p2 - p1 + 15) / 16)) := ⟨_, rfl⟩
        rw [← hNZ] at hn0 hN2
        have L59_5 : ∀ i : Nat, i ≤ (NZ - nn) → ∀ (sd : Nat → By), (∀ j, j < nn + i → sd j = slF t_a0_tape p1 (p2 - p1) j) → VJ C 0 0 59 [(4, .int (nI p2)), (3, .int (nI (nn + i))), (0, .ref a0), (1, .int (nI p1)), (2, .int (nI p2))] [] [(a0, .inr (8, [.int (nI v_a0_thrown), .ref a0_tape, .int (nI v_a0_taped), .ref a0_out, .int (nI v_a0_outs), .ref a0_slots, .ref a0_kept, .ref a0_phase, .ref a0_secret, .ref a0_key, .ref a0_hide, .ref a0_iv, .ref a0_begin, .ref a0_each, .ref a0_root, .ref a0_power, .ref a0_work, .ref a0_w, .ref a0_h, .ref a0_state, .ref a0_sum, .ref a0_pad, .ref a0_text, .int (nI v_a0_texts), .ref a0_info, .int (nI v_a0_infos), .ref a0_made, .ref a0_blockKey, .ref a0_nonce, .ref a0_x, .ref a0_first, .ref a0_block, .ref a0_a, .ref a0_r, .ref a0_product, .ref a0_tag, .ref a0_sealed])), (a0_blockKey, aY C.D 32 t_a0_blockKey), (a0_nonce, aY C.D 12 t_a0_nonce), (a0_x, aM C.D 16 t_a0_x), (a0_first, aM C.D 16 t_a0_first), (a0_block, aY C.D 64 t_a0_block), (a0_a, aY C.D 40 t_a0_a), (a0_r, aY C.D 16 t_a0_r), (a0_product, aY C.D 40 t_a0_product), (a0_tag, aY C.D 16 t_a0_tag), (a0_sealed, aY C.D 2400 sd), (a0_tape, aY C.D 2048 t_a0_tape)] := by
          refine v_for ((NZ - nn)) ?_ ?_
          · skip
            intro i hii ik sd hw0
            refine v_iload_n g dX8_tagOf_59 3 rfl 1 rfl ?_
            refine v_bipush g dX8_tagOf_60 (v := nI 16) (by decide +kernel) ?_
            refine v_iremN g dX8_tagOf_62 (by omega) (by omega) (by omega) ?_
            refine v_if_leN g 79 dX8_tagOf_63 (by decide) (by omega) (fun h6 => ?_) (fun h6 => ?_)
            · skip
              exact absurd h6 (by omega)
            · skip
              refine v_aload_n g dX8_tagOf_66 0 rfl 2 rfl ?_
              refine gf_X8_104 g dX8_tagOf_67 0 rfl rfl ?_
              refine v_iload_n g dX8_tagOf_70 3 rfl 1 rfl ?_
              refine v_iconst g dX8_tagOf_71 (v := nI 0) (by decide +kernel) ?_
              obtain ⟨t7, ht7⟩ : ∃ z : Nat → By, z = va_up sd (nn + i) 0#8 := ⟨_, rfl⟩
              refine v_iastY g (0#8) rfl t7 ht7 10 [(a0, .inr (8, [.int (nI v_a0_thrown), .ref a0_tape, .int (nI v_a0_taped), .ref a0_out, .int (nI v_a0_outs), .ref a0_slots, .ref a0_kept, .ref a0_phase, .ref a0_secret, .ref a0_key, .ref a0_hide, .ref a0_iv, .ref a0_begin, .ref a0_each, .ref a0_root, .ref a0_power, .ref a0_work, .ref a0_w, .ref a0_h, .ref a0_state, .ref a0_sum, .ref a0_pad, .ref a0_text, .int (nI v_a0_texts), .ref a0_info, .int (nI v_a0_infos), .ref a0_made, .ref a0_blockKey, .ref a0_nonce, .ref a0_x, .ref a0_first, .ref a0_block, .ref a0_a, .ref a0_r, .ref a0_product, .ref a0_tag, .ref a0_sealed])), (a0_blockKey, aY C.D 32 t_a0_blockKey), (a0_nonce, aY C.D 12 t_a0_nonce), (a0_x, aM C.D 16 t_a0_x), (a0_first, aM C.D 16 t_a0_first), (a0_block, aY C.D 64 t_a0_block), (a0_a, aY C.D 40 t_a0_a), (a0_r, aY C.D 16 t_a0_r), (a0_product, aY C.D 40 t_a0_product), (a0_tag, aY C.D 16 t_a0_tag), (a0_sealed, aY C.D 2400 t7), (a0_tape, aY C.D 2048 t_a0_tape)] rfl (by omega) (by decide) dX8_tagOf_72 rfl ?_
              refine v_iincN g 1 [(3, .int (nI (nn + i + 1))), (4, .int (nI p2)), (0, .ref a0), (1, .int (nI p1)), (2, .int (nI p2))] dX8_tagOf_73 1 rfl (by decide +kernel) (by decide) rfl ?_
              refine v_goto g 59 dX8_tagOf_76 (by decide) ?_
              refine v_lpick [1, 0, 2, 3, 4] [(4, .int (nI p2)), (3, .int (nI (nn + i + 1))), (0, .ref a0), (1, .int (nI p1)), (2, .int (nI p2))] rfl ?_
              exact ik t7 (up_lt (m := nn + i) hw0 (sl_pad (m := nn) (by omega) (by omega)) ht7)
          · skip
            intro sd hw0
            refine v_iload_n g dX8_tagOf_59 3 rfl 1 rfl ?_
            refine v_bipush g dX8_tagOf_60 (v := nI 16) (by decide +kernel) ?_
            refine v_iremN g dX8_tagOf_62 (by omega) (by omega) (by omega) ?_
            refine v_if_leN g 79 dX8_tagOf_63 (by decide) (by omega) (fun h8 => ?_) (fun h8 => ?_)
            · skip
              rw [show nn + (NZ - nn) = NZ by omega] at hw0 ⊢
              show VJ C 0 0 79 [(4, .int (nI p2)), (3, .int (nI NZ)), (0, .ref a0), (1, .int (nI p1)), (2, .int (nI p2))] [] [(a0, .inr (8, [.int (nI v_a0_thrown), .ref a0_tape, .int (nI v_a0_taped), .ref a0_out, .int (nI v_a0_outs), .ref a0_slots, .ref a0_kept, .ref a0_phase, .ref a0_secret, .ref a0_key, .ref a0_hide, .ref a0_iv, .ref a0_begin, .ref a0_each, .ref a0_root, .ref a0_power, .ref a0_work, .ref a0_w, .ref a0_h, .ref a0_state, .ref a0_sum, .ref a0_pad, .ref a0_text, .int (nI v_a0_texts), .ref a0_info, .int (nI v_a0_infos), .ref a0_made, .ref a0_blockKey, .ref a0_nonce, .ref a0_x, .ref a0_first, .ref a0_block, .ref a0_a, .ref a0_r, .ref a0_product, .ref a0_tag, .ref a0_sealed])), (a0_blockKey, aY C.D 32 t_a0_blockKey), (a0_nonce, aY C.D 12 t_a0_nonce), (a0_x, aM C.D 16 t_a0_x), (a0_first, aM C.D 16 t_a0_first), (a0_block, aY C.D 64 t_a0_block), (a0_a, aY C.D 40 t_a0_a), (a0_r, aY C.D 16 t_a0_r), (a0_product, aY C.D 40 t_a0_product), (a0_tag, aY C.D 16 t_a0_tag), (a0_sealed, aY C.D 2400 sd), (a0_tape, aY C.D 2048 t_a0_tape)]
              refine v_iconst g dX8_tagOf_79 (v := nI 0) (by decide +kernel) ?_
              refine v_istore g [(4, .int (nI 0)), (3, .int (nI NZ)), (0, .ref a0), (1, .int (nI p1)), (2, .int (nI p2))] dX8_tagOf_80 (by decide) rfl ?_
              have L82_8 : ∀ k : Nat, k ≤ 16 → ∀ (se : Nat → By), (∀ j, j < NZ → se j = slF t_a0_tape p1 (p2 - p1) j) → (∀ j, j < k → se (NZ + j) = szF p1 (p2 - p1) j) → VJ C 0 0 82 [(4, .int (nI k)), (3, .int (nI NZ)), (0, .ref a0), (1, .int (nI p1)), (2, .int (nI p2))] [] [(a0, .inr (8, [.int (nI v_a0_thrown), .ref a0_tape, .int (nI v_a0_taped), .ref a0_out, .int (nI v_a0_outs), .ref a0_slots, .ref a0_kept, .ref a0_phase, .ref a0_secret, .ref a0_key, .ref a0_hide, .ref a0_iv, .ref a0_begin, .ref a0_each, .ref a0_root, .ref a0_power, .ref a0_work, .ref a0_w, .ref a0_h, .ref a0_state, .ref a0_sum, .ref a0_pad, .ref a0_text, .int (nI v_a0_texts), .ref a0_info, .int (nI v_a0_infos), .ref a0_made, .ref a0_blockKey, .ref a0_nonce, .ref a0_x, .ref a0_first, .ref a0_block, .ref a0_a, .ref a0_r, .ref a0_product, .ref a0_tag, .ref a0_sealed])), (a0_blockKey, aY C.D 32 t_a0_blockKey), (a0_nonce, aY C.D 12 t_a0_nonce), (a0_x, aM C.D 16 t_a0_x), (a0_first, aM C.D 16 t_a0_first), (a0_block, aY C.D 64 t_a0_block), (a0_a, aY C.D 40 t_a0_a), (a0_r, aY C.D 16 t_a0_r), (a0_product, aY C.D 40 t_a0_product), (a0_tag, aY C.D 16 t_a0_tag), (a0_sealed, aY C.D 2400 se), (a0_tape, aY C.D 2048 t_a0_tape)] := by
                refine v_for (16) ?_ ?_
                · skip
                  intro k hik ix se hx0 hx1
                  refine v_iload g dX8_tagOf_82 0 rfl ?_
                  refine v_bipush g dX8_tagOf_84 (v := nI 16) (by decide +kernel) ?_
                  refine v_icmp_geN g 158 dX8_tagOf_86 (by decide) (by omega) (by omega) (fun h9 => ?_) (fun h9 => ?_)
                  · skip
                    exact absurd h9 (by omega)
                  · skip
                    refine v_aload_n g dX8_tagOf_89 0 rfl 2 rfl ?_
                    refine gf_X8_104 g dX8_tagOf_90 0 rfl rfl ?_
                    refine v_iload_n g dX8_tagOf_93 3 rfl 1 rfl ?_
                    refine v_iload g dX8_tagOf_94 0 rfl ?_
                    refine v_iaddN g dX8_tagOf_96 ?_
                    refine v_iload g dX8_tagOf_97 0 rfl ?_
                    refine v_bipush g dX8_tagOf_99 (v := nI 8) (by decide +kernel) ?_
                    refine v_icmp_geN g 108 dX8_tagOf_101 (by decide) (by omega) (by omega) (fun h10 => ?_) (fun h10 => ?_)
                    · skip
                      refine v_iload_n g dX8_tagOf_108 2 rfl 4 rfl ?_
                      refine v_iload_n g dX8_tagOf_109 1 rfl 3 rfl ?_
                      refine v_isubN g dX8_tagOf_110 (by omega) ?_
                      refine v_iload g dX8_tagOf_111 0 rfl ?_
                      refine v_bipush g dX8_tagOf_113 (v := nI 8) (by decide +kernel) ?_
                      refine v_iremN g dX8_tagOf_115 (by omega) (by omega) (by omega) ?_
                      refine v_iconst g dX8_tagOf_116 (v := nI 4) (by decide +kernel) ?_
                      refine v_icmp_geN g 131 dX8_tagOf_117 (by decide) (by omega) (by omega) (fun h11 => ?_) (fun h11 => ?_)
                      · skip
                        refine v_bipush g dX8_tagOf_131 (v := nI 31) (by decide +kernel) ?_
                        refine v_ishrN g (by omega) (by omega) dX8_tagOf_133 ?_
                        refine v_iload g dX8_tagOf_134 0 rfl ?_
                        refine v_bipush g dX8_tagOf_136 (v := nI 8) (by decide +kernel) ?_
                        refine v_iremN g dX8_tagOf_138 (by omega) (by omega) (by omega) ?_
                        refine v_iconst g dX8_tagOf_139 (v := nI 4) (by decide +kernel) ?_
                        refine v_icmp_geN g 149 dX8_tagOf_140 (by decide) (by omega) (by omega) (fun _ => ?_) (fun h => absurd h (by omega))
                        refine v_iconst g dX8_tagOf_149 (v := nI 0) (by decide +kernel) ?_
                        refine v_iandM g 0 (by decide) dX8_tagOf_150 ?_
                        refine v_toi (nI 0) (congrArg nI (Nat.mod_one _)) ?_
                        obtain ⟨t12, ht12⟩ : ∃ z : Nat → By, z = va_up se (NZ + k) 0#8 := ⟨_, rfl⟩
                        refine v_iastY g (0#8) rfl t12 ht12 10 [(a0, .inr (8, [.int (nI v_a0_thrown), .ref a0_tape, .int (nI v_a0_taped), .ref a0_out, .int (nI v_a0_outs), .ref a0_slots, .ref a0_kept, .ref a0_phase, .ref a0_secret, .ref a0_key, .ref a0_hide, .ref a0_iv, .ref a0_begin, .ref a0_each, .ref a0_root, .ref a0_power, .ref a0_work, .ref a0_w, .ref a0_h, .ref a0_state, .ref a0_sum, .ref a0_pad, .ref a0_text, .int (nI v_a0_texts), .ref a0_info, .int (nI v_a0_infos), .ref a0_made, .ref a0_blockKey, .ref a0_nonce, .ref a0_x, .ref a0_first, .ref a0_block, .ref a0_a, .ref a0_r, .ref a0_product, .ref a0_tag, .ref a0_sealed])), (a0_blockKey, aY C.D 32 t_a0_blockKey), (a0_nonce, aY C.D 12 t_a0_nonce), (a0_x, aM C.D 16 t_a0_x), (a0_first, aM C.D 16 t_a0_first), (a0_block, aY C.D 64 t_a0_block), (a0_a, aY C.D 40 t_a0_a), (a0_r, aY C.D 16 t_a0_r), (a0_product, aY C.D 40 t_a0_product), (a0_tag, aY C.D 16 t_a0_tag), (a0_sealed, aY C.D 2400 t12), (a0_tape, aY C.D 2048 t_a0_tape)] rfl (by omega) (by decide) dX8_tagOf_151 rfl ?_
                        refine v_iincN g 1 [(4, .int (nI (k + 1))), (3, .int (nI NZ)), (0, .ref a0), (1, .int (nI p1)), (2, .int (nI p2))] dX8_tagOf_152 0 rfl (by decide +kernel) (by decide) rfl ?_
                        refine v_goto g 82 dX8_tagOf_155 (by decide) ?_
                        exact ix t12 (fun j hj => by rw [ht12]; unfold va_up; rw [if_neg (by omega)]; exact hx0 j hj) (up_ofs (m := k) hx1 ((sz_hi (h := p1) (n := p2 - p1) (k := k % 8) (by omega) (by omega) h11 (by omega)).2.trans (congrArg (szF p1 (p2 - p1)) (show 8 + k % 8 = k by omega))) ht12)
                      · skip
                        refine v_bipush g dX8_tagOf_120 (v := nI 8) (by decide +kernel) ?_
                        refine v_iload g dX8_tagOf_122 0 rfl ?_
                        refine v_bipush g dX8_tagOf_124 (v := nI 8) (by decide +kernel) ?_
                        refine v_iremN g dX8_tagOf_126 (by omega) (by omega) (by omega) ?_
                        refine v_imulN g dX8_tagOf_127 ?_
                        refine v_goto g 133 dX8_tagOf_128 (by decide) ?_
                        refine v_ishrN g (by omega) (by omega) dX8_tagOf_133 ?_
                        refine v_iload g dX8_tagOf_134 0 rfl ?_
                        refine v_bipush g dX8_tagOf_136 (v := nI 8) (by decide +kernel) ?_
                        refine v_iremN g dX8_tagOf_138 (by omega) (by omega) (by omega) ?_
                        refine v_iconst g dX8_tagOf_139 (v := nI 4) (by decide +kernel) ?_
                        refine v_icmp_geN g 149 dX8_tagOf_140 (by decide) (by omega) (by omega) (fun h => absurd h (by omega)) (fun _ => ?_)
                        refine v_sipush g dX8_tagOf_143 (v := nI 255) (by decide +kernel) ?_
                        refine v_goto g 150 dX8_tagOf_146 (by decide) ?_
                        refine v_iandM g 8 (by decide) dX8_tagOf_150 ?_
                        obtain ⟨t13, ht13⟩ : ∃ z : Nat → By, z = va_up se (NZ + k) (BitVec.ofNat 8 ((p2 - p1) / 2 ^ (8 * (k % 8)))) := ⟨_, rfl⟩
                        refine v_iastY g (BitVec.ofNat 8 ((p2 - p1) / 2 ^ (8 * (k % 8)))) (congrArg nI (BitVec.toNat_ofNat _ _).symm) t13 ht13 10 [(a0, .inr (8, [.int (nI v_a0_thrown), .ref a0_tape, .int (nI v_a0_taped), .ref a0_out, .int (nI v_a0_outs), .ref a0_slots, .ref a0_kept, .ref a0_phase, .ref a0_secret, .ref a0_key, .ref a0_hide, .ref a0_iv, .ref a0_begin, .ref a0_each, .ref a0_root, .ref a0_power, .ref a0_work, .ref a0_w, .ref a0_h, .ref a0_state, .ref a0_sum, .ref a0_pad, .ref a0_text, .int (nI v_a0_texts), .ref a0_info, .int (nI v_a0_infos), .ref a0_made, .ref a0_blockKey, .ref a0_nonce, .ref a0_x, .ref a0_first, .ref a0_block, .ref a0_a, .ref a0_r, .ref a0_product, .ref a0_tag, .ref a0_sealed])), (a0_blockKey, aY C.D 32 t_a0_blockKey), (a0_nonce, aY C.D 12 t_a0_nonce), (a0_x, aM C.D 16 t_a0_x), (a0_first, aM C.D 16 t_a0_first), (a0_block, aY C.D 64 t_a0_block), (a0_a, aY C.D 40 t_a0_a), (a0_r, aY C.D 16 t_a0_r), (a0_product, aY C.D 40 t_a0_product), (a0_tag, aY C.D 16 t_a0_tag), (a0_sealed, aY C.D 2400 t13), (a0_tape, aY C.D 2048 t_a0_tape)] rfl (by omega) (by decide) dX8_tagOf_151 rfl ?_
                        refine v_iincN g 1 [(4, .int (nI (k + 1))), (3, .int (nI NZ)), (0, .ref a0), (1, .int (nI p1)), (2, .int (nI p2))] dX8_tagOf_152 0 rfl (by decide +kernel) (by decide) rfl ?_
                        refine v_goto g 82 dX8_tagOf_155 (by decide) ?_
                        exact ix t13 (fun j hj => by rw [ht13]; unfold va_up; rw [if_neg (by omega)]; exact hx0 j hj) (up_ofs (m := k) hx1 ((sz_lo (h := p1) (n := p2 - p1) (k := k % 8) h11).2.trans (congrArg (szF p1 (p2 - p1)) (show 8 + k % 8 = k by omega))) ht13)
                    · skip
                      refine v_iload_n g dX8_tagOf_104 1 rfl 3 rfl ?_
                      refine v_goto g 111 dX8_tagOf_105 (by decide) ?_
                      refine v_iload g dX8_tagOf_111 0 rfl ?_
                      refine v_bipush g dX8_tagOf_113 (v := nI 8) (by decide +kernel) ?_
                      refine v_iremN g dX8_tagOf_115 (by omega) (by omega) (by omega) ?_
                      refine v_iconst g dX8_tagOf_116 (v := nI 4) (by decide +kernel) ?_
                      refine v_icmp_geN g 131 dX8_tagOf_117 (by decide) (by omega) (by omega) (fun h14 => ?_) (fun h14 => ?_)
                      · skip
                        refine v_bipush g dX8_tagOf_131 (v := nI 31) (by decide +kernel) ?_
                        refine v_ishrN g (by omega) (by omega) dX8_tagOf_133 ?_
                        refine v_iload g dX8_tagOf_134 0 rfl ?_
                        refine v_bipush g dX8_tagOf_136 (v := nI 8) (by decide +kernel) ?_
                        refine v_iremN g dX8_tagOf_138 (by omega) (by omega) (by omega) ?_
                        refine v_iconst g dX8_tagOf_139 (v := nI 4) (by decide +kernel) ?_
                        refine v_icmp_geN g 149 dX8_tagOf_140 (by decide) (by omega) (by omega) (fun _ => ?_) (fun h => absurd h (by omega))
                        refine v_iconst g dX8_tagOf_149 (v := nI 0) (by decide +kernel) ?_
                        refine v_iandM g 0 (by decide) dX8_tagOf_150 ?_
                        refine v_toi (nI 0) (congrArg nI (Nat.mod_one _)) ?_
                        obtain ⟨t15, ht15⟩ : ∃ z : Nat → By, z = va_up se (NZ + k) 0#8 := ⟨_, rfl⟩
                        refine v_iastY g (0#8) rfl t15 ht15 10 [(a0, .inr (8, [.int (nI v_a0_thrown), .ref a0_tape, .int (nI v_a0_taped), .ref a0_out, .int (nI v_a0_outs), .ref a0_slots, .ref a0_kept, .ref a0_phase, .ref a0_secret, .ref a0_key, .ref a0_hide, .ref a0_iv, .ref a0_begin, .ref a0_each, .ref a0_root, .ref a0_power, .ref a0_work, .ref a0_w, .ref a0_h, .ref a0_state, .ref a0_sum, .ref a0_pad, .ref a0_text, .int (nI v_a0_texts), .ref a0_info, .int (nI v_a0_infos), .ref a0_made, .ref a0_blockKey, .ref a0_nonce, .ref a0_x, .ref a0_first, .ref a0_block, .ref a0_a, .ref a0_r, .ref a0_product, .ref a0_tag, .ref a0_sealed])), (a0_blockKey, aY C.D 32 t_a0_blockKey), (a0_nonce, aY C.D 12 t_a0_nonce), (a0_x, aM C.D 16 t_a0_x), (a0_first, aM C.D 16 t_a0_first), (a0_block, aY C.D 64 t_a0_block), (a0_a, aY C.D 40 t_a0_a), (a0_r, aY C.D 16 t_a0_r), (a0_product, aY C.D 40 t_a0_product), (a0_tag, aY C.D 16 t_a0_tag), (a0_sealed, aY C.D 2400 t15), (a0_tape, aY C.D 2048 t_a0_tape)] rfl (by omega) (by decide) dX8_tagOf_151 rfl ?_
                        refine v_iincN g 1 [(4, .int (nI (k + 1))), (3, .int (nI NZ)), (0, .ref a0), (1, .int (nI p1)), (2, .int (nI p2))] dX8_tagOf_152 0 rfl (by decide +kernel) (by decide) rfl ?_
                        refine v_goto g 82 dX8_tagOf_155 (by decide) ?_
                        exact ix t15 (fun j hj => by rw [ht15]; unfold va_up; rw [if_neg (by omega)]; exact hx0 j hj) (up_ofs (m := k) hx1 ((sz_hi (h := p1) (n := p2 - p1) (k := k % 8) (by omega) (by omega) h14 (by omega)).1.trans (congrArg (szF p1 (p2 - p1)) (show k % 8 = k by omega))) ht15)
                      · skip
                        refine v_bipush g dX8_tagOf_120 (v := nI 8) (by decide +kernel) ?_
                        refine v_iload g dX8_tagOf_122 0 rfl ?_
                        refine v_bipush g dX8_tagOf_124 (v := nI 8) (by decide +kernel) ?_
                        refine v_iremN g dX8_tagOf_126 (by omega) (by omega) (by omega) ?_
                        refine v_imulN g dX8_tagOf_127 ?_
                        refine v_goto g 133 dX8_tagOf_128 (by decide) ?_
                        refine v_ishrN g (by omega) (by omega) dX8_tagOf_133 ?_
                        refine v_iload g dX8_tagOf_134 0 rfl ?_
                        refine v_bipush g dX8_tagOf_136 (v := nI 8) (by decide +kernel) ?_
                        refine v_iremN g dX8_tagOf_138 (by omega) (by omega) (by omega) ?_
                        refine v_iconst g dX8_tagOf_139 (v := nI 4) (by decide +kernel) ?_
                        refine v_icmp_geN g 149 dX8_tagOf_140 (by decide) (by omega) (by omega) (fun h => absurd h (by omega)) (fun _ => ?_)
                        refine v_sipush g dX8_tagOf_143 (v := nI 255) (by decide +kernel) ?_
                        refine v_goto g 150 dX8_tagOf_146 (by decide) ?_
                        refine v_iandM g 8 (by decide) dX8_tagOf_150 ?_
                        obtain ⟨t16, ht16⟩ : ∃ z : Nat → By, z = va_up se (NZ + k) (BitVec.ofNat 8 (p1 / 2 ^ (8 * (k % 8)))) := ⟨_, rfl⟩
                        refine v_iastY g (BitVec.ofNat 8 (p1 / 2 ^ (8 * (k % 8)))) (congrArg nI (BitVec.toNat_ofNat _ _).symm) t16 ht16 10 [(a0, .inr (8, [.int (nI v_a0_thrown), .ref a0_tape, .int (nI v_a0_taped), .ref a0_out, .int (nI v_a0_outs), .ref a0_slots, .ref a0_kept, .ref a0_phase, .ref a0_secret, .ref a0_key, .ref a0_hide, .ref a0_iv, .ref a0_begin, .ref a0_each, .ref a0_root, .ref a0_power, .ref a0_work, .ref a0_w, .ref a0_h, .ref a0_state, .ref a0_sum, .ref a0_pad, .ref a0_text, .int (nI v_a0_texts), .ref a0_info, .int (nI v_a0_infos), .ref a0_made, .ref a0_blockKey, .ref a0_nonce, .ref a0_x, .ref a0_first, .ref a0_block, .ref a0_a, .ref a0_r, .ref a0_product, .ref a0_tag, .ref a0_sealed])), (a0_blockKey, aY C.D 32 t_a0_blockKey), (a0_nonce, aY C.D 12 t_a0_nonce), (a0_x, aM C.D 16 t_a0_x), (a0_first, aM C.D 16 t_a0_first), (a0_block, aY C.D 64 t_a0_block), (a0_a, aY C.D 40 t_a0_a), (a0_r, aY C.D 16 t_a0_r), (a0_product, aY C.D 40 t_a0_product), (a0_tag, aY C.D 16 t_a0_tag), (a0_sealed, aY C.D 2400 t16), (a0_tape, aY C.D 2048 t_a0_tape)] rfl (by omega) (by decide) dX8_tagOf_151 rfl ?_
                        refine v_iincN g 1 [(4, .int (nI (k + 1))), (3, .int (nI NZ)), (0, .ref a0), (1, .int (nI p1)), (2, .int (nI p2))] dX8_tagOf_152 0 rfl (by decide +kernel) (by decide) rfl ?_
                        refine v_goto g 82 dX8_tagOf_155 (by decide) ?_
                        exact ix t16 (fun j hj => by rw [ht16]; unfold va_up; rw [if_neg (by omega)]; exact hx0 j hj) (up_ofs (m := k) hx1 ((sz_lo (h := p1) (n := p2 - p1) (k := k % 8) h14).1.trans (congrArg (szF p1 (p2 - p1)) (show k % 8 = k by omega))) ht16)
                · skip
                  intro se hx0 hx1
                  refine v_iload g dX8_tagOf_82 0 rfl ?_
                  refine v_bipush g dX8_tagOf_84 (v := nI 16) (by decide +kernel) ?_
                  refine v_icmp_geN g 158 dX8_tagOf_86 (by decide) (by omega) (by omega) (fun h17 => ?_) (fun h17 => ?_)
                  · skip
                    refine v_aload_n g dX8_tagOf_158 0 rfl 2 rfl ?_
                    refine v_lconst g dX8_tagOf_159 (v := lN 0) (by decide +kernel) ?_
                    refine v_callV (As := [.long (lN 0)]) (rest := []) (wr := [(a0_a, aY C.D 40 t_a0_a), (a0_r, aY C.D 16 t_a0_r), (a0_product, aY C.D 40 t_a0_product), (a0_tag, aY C.D 16 t_a0_tag), (a0_sealed, aY C.D 2400 se), (a0_tape, aY C.D 2048 t_a0_tape)]) cw_X8_240 (hy_X8_blockOf) g (c_R_block C.l C.D a0 0#64 v_a0_thrown a0_tape v_a0_taped a0_out v_a0_outs a0_slots a0_kept a0_phase a0_secret a0_key a0_hide a0_iv a0_begin a0_each a0_root a0_power a0_work a0_w a0_h a0_state a0_sum a0_pad a0_text v_a0_texts a0_info v_a0_infos a0_made a0_blockKey a0_nonce a0_x a0_first a0_block a0_a a0_r a0_product a0_tag a0_sealed t_a0_blockKey t_a0_nonce t_a0_x t_a0_first t_a0_block ) dX8_tagOf_160 0 rfl rfl rfl (by decide) (by decide) (Nat.le_of_ble_eq_true rfl) [0, 1, 2, 3, 4, 5] [6, 7, 8, 9, 10, 11] rfl rfl (by decide) rfl (by decide) (by decide) _ rfl (fun r wo hp18 => ?_)
                    obtain ⟨bx, bf, bb, rfl, rfl, hbb⟩ := hp18
                    refine v_perm [6, 7, 8, 9, 10, 11, 0, 1, 2, 3, 4, 5] [(a0, .inr (8, [.int (nI v_a0_thrown), .ref a0_tape, .int (nI v_a0_taped), .ref a0_out, .int (nI v_a0_outs), .ref a0_slots, .ref a0_kept, .ref a0_phase, .ref a0_secret, .ref a0_key, .ref a0_hide, .ref a0_iv, .ref a0_begin, .ref a0_each, .ref a0_root, .ref a0_power, .ref a0_work, .ref a0_w, .ref a0_h, .ref a0_state, .ref a0_sum, .ref a0_pad, .ref a0_text, .int (nI v_a0_texts), .ref a0_info, .int (nI v_a0_infos), .ref a0_made, .ref a0_blockKey, .ref a0_nonce, .ref a0_x, .ref a0_first, .ref a0_block, .ref a0_a, .ref a0_r, .ref a0_product, .ref a0_tag, .ref a0_sealed])), (a0_blockKey, aY C.D 32 t_a0_blockKey), (a0_nonce, aY C.D 12 t_a0_nonce), (a0_x, aM C.D 16 bx), (a0_first, aM C.D 16 bf), (a0_block, aY C.D 64 bb), (a0_a, aY C.D 40 t_a0_a), (a0_r, aY C.D 16 t_a0_r), (a0_product, aY C.D 40 t_a0_product), (a0_tag, aY C.D 16 t_a0_tag), (a0_sealed, aY C.D 2400 se), (a0_tape, aY C.D 2048 t_a0_tape)] (by decide) rfl rfl ?_
                    show VJ C 0 0 163 [(4, .int (nI 16)), (3, .int (nI NZ)), (0, .ref a0), (1, .int (nI p1)), (2, .int (nI p2))] [] [(a0, .inr (8, [.int (nI v_a0_thrown), .ref a0_tape, .int (nI v_a0_taped), .ref a0_out, .int (nI v_a0_outs), .ref a0_slots, .ref a0_kept, .ref a0_phase, .ref a0_secret, .ref a0_key, .ref a0_hide, .ref a0_iv, .ref a0_begin, .ref a0_each, .ref a0_root, .ref a0_power, .ref a0_work, .ref a0_w, .ref a0_h, .ref a0_state, .ref a0_sum, .ref a0_pad, .ref a0_text, .int (nI v_a0_texts), .ref a0_info, .int (nI v_a0_infos), .ref a0_made, .ref a0_blockKey, .ref a0_nonce, .ref a0_x, .ref a0_first, .ref a0_block, .ref a0_a, .ref a0_r, .ref a0_product, .ref a0_tag, .ref a0_sealed])), (a0_blockKey, aY C.D 32 t_a0_blockKey), (a0_nonce, aY C.D 12 t_a0_nonce), (a0_x, aM C.D 16 bx), (a0_first, aM C.D 16 bf), (a0_block, aY C.D 64 bb), (a0_a, aY C.D 40 t_a0_a), (a0_r, aY C.D 16 t_a0_r), (a0_product, aY C.D 40 t_a0_product), (a0_tag, aY C.D 16 t_a0_tag), (a0_sealed, aY C.D 2400 se), (a0_tape, aY C.D 2048 t_a0_tape)]
                    refine v_aload_n g dX8_tagOf_163 0 rfl 2 rfl ?_
                    refine v_aload_n g dX8_tagOf_164 0 rfl 2 rfl ?_
                    refine gf_X8_89 g dX8_tagOf_165 0 rfl rfl ?_
                    refine v_iconst g dX8_tagOf_168 (v := nI 0) (by decide +kernel) ?_
                    refine v_iload_n g dX8_tagOf_169 3 rfl 1 rfl ?_
                    refine v_bipush g dX8_tagOf_170 (v := nI 16) (by decide +kernel) ?_
                    refine v_iaddN g dX8_tagOf_172 ?_
                    refine v_callV (As := [.ref a0_block, .int (nI 0), .int (nI (NZ + 16))]) (rest := []) (wr := [(a0_blockKey, aY C.D 32 t_a0_blockKey), (a0_nonce, aY C.D 12 t_a0_nonce), (a0_x, aM C.D 16 bx), (a0_first, aM C.D 16 bf), (a0_tape, aY C.D 2048 t_a0_tape)]) cw_X8_244 (hy_X8_tallyOf) g (c_R_tally C.l C.D a0 a0_block 0 (NZ + 16) v_a0_thrown a0_tape v_a0_taped a0_out v_a0_outs a0_slots a0_kept a0_phase a0_secret a0_key a0_hide a0_iv a0_begin a0_each a0_root a0_power a0_work a0_w a0_h a0_state a0_sum a0_pad a0_text v_a0_texts a0_info v_a0_infos a0_made a0_blockKey a0_nonce a0_x a0_first a0_block a0_a a0_r a0_product a0_tag a0_sealed t_a0_a t_a0_r t_a0_product t_a0_tag se 64 bb (by omega) (by omega) (by omega)) dX8_tagOf_173 0 rfl rfl rfl (by decide) (by decide) (Nat.le_of_ble_eq_true rfl) [0, 6, 7, 8, 9, 10, 5] [1, 2, 3, 4, 11] rfl rfl (by decide) rfl (by decide) (by decide) _ rfl (fun r wo hp19 => ?_)
                    obtain ⟨ta, tr, tq, tg, rfl, rfl, htg⟩ := hp19
                    refine v_perm [5, 0, 1, 2, 3, 11, 6, 7, 8, 9, 10, 4] [(a0, .inr (8, [.int (nI v_a0_thrown), .ref a0_tape, .int (nI v_a0_taped), .ref a0_out, .int (nI v_a0_outs), .ref a0_slots, .ref a0_kept, .ref a0_phase, .ref a0_secret, .ref a0_key, .ref a0_hide, .ref a0_iv, .ref a0_begin, .ref a0_each, .ref a0_root, .ref a0_power, .ref a0_work, .ref a0_w, .ref a0_h, .ref a0_state, .ref a0_sum, .ref a0_pad, .ref a0_text, .int (nI v_a0_texts), .ref a0_info, .int (nI v_a0_infos), .ref a0_made, .ref a0_blockKey, .ref a0_nonce, .ref a0_x, .ref a0_first, .ref a0_block, .ref a0_a, .ref a0_r, .ref a0_product, .ref a0_tag, .ref a0_sealed])), (a0_blockKey, aY C.D 32 t_a0_blockKey), (a0_nonce, aY C.D 12 t_a0_nonce), (a0_x, aM C.D 16 bx), (a0_first, aM C.D 16 bf), (a0_block, aY C.D 64 bb), (a0_a, aY C.D 40 ta), (a0_r, aY C.D 16 tr), (a0_product, aY C.D 40 tq), (a0_tag, aY C.D 16 tg), (a0_sealed, aY C.D 2400 se), (a0_tape, aY C.D 2048 t_a0_tape)] (by decide) rfl rfl ?_
                    show VJ C 0 0 176 [(4, .int (nI 16)), (3, .int (nI NZ)), (0, .ref a0), (1, .int (nI p1)), (2, .int (nI p2))] [] [(a0, .inr (8, [.int (nI v_a0_thrown), .ref a0_tape, .int (nI v_a0_taped), .ref a0_out, .int (nI v_a0_outs), .ref a0_slots, .ref a0_kept, .ref a0_phase, .ref a0_secret, .ref a0_key, .ref a0_hide, .ref a0_iv, .ref a0_begin, .ref a0_each, .ref a0_root, .ref a0_power, .ref a0_work, .ref a0_w, .ref a0_h, .ref a0_state, .ref a0_sum, .ref a0_pad, .ref a0_text, .int (nI v_a0_texts), .ref a0_info, .int (nI v_a0_infos), .ref a0_made, .ref a0_blockKey, .ref a0_nonce, .ref a0_x, .ref a0_first, .ref a0_block, .ref a0_a, .ref a0_r, .ref a0_product, .ref a0_tag, .ref a0_sealed])), (a0_blockKey, aY C.D 32 t_a0_blockKey), (a0_nonce, aY C.D 12 t_a0_nonce), (a0_x, aM C.D 16 bx), (a0_first, aM C.D 16 bf), (a0_block, aY C.D 64 bb), (a0_a, aY C.D 40 ta), (a0_r, aY C.D 16 tr), (a0_product, aY C.D 40 tq), (a0_tag, aY C.D 16 tg), (a0_sealed, aY C.D 2400 se), (a0_tape, aY C.D 2048 t_a0_tape)]
                    exact v_ret g R dX8_tagOf_176 (by decide) (by decide) ⟨bx, bf, bb, ta, tr, tq, tg, _, rfl, rfl, (fun j hj => by
                          rw [htg j hj]
                          subst hNZ
                          rw [tal_tag hx0 hx1]
                          exact congrFun (tagF_congr (fun q hq => by rw [Nat.zero_add]; exact hbb q (by omega)) (fun _ _ => rfl)) j)⟩
                  · skip
                    exact absurd h17 (by omega)
              exact L82_8 0 (by omega) sd hw0 (fun j hj => absurd hj (by omega))
            · skip
              exact absurd h8 (by omega)
        exact L59_5 0 (by omega) sa hsn
      · skip
        exact absurd h5 (by omega)
  exact L5_0 0 (by omega) 0 t_a0_sealed rfl (fun j hj => absurd hj (by omega))
