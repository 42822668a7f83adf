/-! MAC and STRETCH -/
def padF (k : Nat → By) (n : Nat) : Nat → By := fun j => if 64 < n then (if j < 32 then digF k n j else 0#8) else if j < n then k j else 0#8
def macP (pad t : Nat → By) (tn : Nat) : Nat → By := digF (cat (fun j => pad j ^^^ 92#8) 64 (digF (cat (fun j => pad j ^^^ 54#8) 64 t) (64 + tn))) 96
def macF (k : Nat → By) (n : Nat) (t : Nat → By) (tn : Nat) : Nat → By := macP (padF k n) t tn
def st_l (i : Nat) : Nat := if i = 0 then 0 else 32
/-- T(i) -/
def stT (pad info : Nat → By) (k : Nat) : Nat → Nat → By
  | 0 => fun _ => 0#8
  | i + 1 => macP pad (cat (cat (stT pad info k i) (st_l i) info) (st_l i + k) (fun _ => BitVec.ofNat 8 (i + 1))) (st_l i + k + 1)
def strF (k : Nat → By) (n : Nat) (info : Nat → By) (m : Nat) : Nat → By := fun j => stT (padF k n) info m (j / 32 + 1) (j % 32)
theorem cat_congr {m m' r r' : Nat → By} {a b : Nat} (h : ∀ j, j < a → m j = m' j) (hr : ∀ j, j < b → r j = r' j) : ∀ j, j < a + b → cat m a r j = cat m' a r' j := by
  intro j hj
  unfold cat
  by_cases e : j < a
  · rw [if_pos e, if_pos e, h j e]
  · rw [if_neg e, if_neg e, hr _ (by omega)]
theorem cat_assoc (P a b : Nat → By) (n m : Nat) : cat (cat P n a) (n + m) b = cat P n (cat a m b) := by
  funext j
  unfold cat
  by_cases h1 : j < n
  · rw [if_pos (by omega), if_pos h1, if_pos h1]
  · by_cases h2 : j < n + m
    · rw [if_pos h2, if_neg h1, if_neg h1, if_pos (by omega)]
    · rw [if_neg h2, if_neg h1, if_neg (by omega), show j - (n + m) = j - n - m by omega]
theorem macP_congr {pad pad' t t' : Nat → By} {n : Nat} (hp : ∀ j, j < 64 → pad j = pad' j) (ht : ∀ j, j < n → t j = t' j) : macP pad t n = macP pad' t' n := by
  unfold macP
  rw [digF_congr (n := 64 + n) (cat_congr (a := 64) (b := n) (m' := fun j => pad' j ^^^ 54#8) (fun j hj => by rw [hp j hj]) ht)]
  exact digF_congr (n := 96) (cat_congr (a := 64) (b := 32) (fun j hj => by rw [hp j hj]) (fun _ _ => rfl))
theorem padF_congr {k k' : Nat → By} {n : Nat} (h : ∀ j, j < n → k j = k' j) : padF k n = padF k' n := by
  funext j
  unfold padF
  rw [digF_congr h]
  by_cases h1 : 64 < n
  · rw [if_pos h1, if_pos h1]
  · rw [if_neg h1, if_neg h1]
    by_cases h2 : j < n
    · rw [if_pos h2, if_pos h2, h j h2]
    · rw [if_neg h2, if_neg h2]
theorem macF_congr {k k' t t' : Nat → By} {n m : Nat} (hk : ∀ j, j < n → k j = k' j) (ht : ∀ j, j < m → t j = t' j) : macF k n t m = macF k' n t' m := by
  unfold macF
  rw [padF_congr hk]
  exact macP_congr (fun _ _ => rfl) ht
theorem stT_congr {pad pad' info info' : Nat → By} {k : Nat} (hp : ∀ j, j < 64 → pad j = pad' j) (hi : ∀ j, j < k → info j = info' j) : ∀ i, stT pad info k i = stT pad' info' k i := by
  intro i
  induction i with
  | zero => rfl
  | succ i ih =>
    simp only [stT]
    rw [ih]
    exact macP_congr hp (cat_congr (cat_congr (fun _ _ => rfl) hi) (fun _ _ => rfl))
theorem strF_congr {k k' info info' : Nat → By} {n m : Nat} (hk : ∀ j, j < n → k j = k' j) (hi : ∀ j, j < m → info j = info' j) : strF k n info m = strF k' n info' m := by
  funext j
  unfold strF
  rw [padF_congr hk, stT_congr (fun _ _ => rfl) hi]
theorem dgR_x0 {m t : Nat → By} {len L : Nat} {s : Nat → Wd} {b : Nat → By} (h : dgR (cat m len (fun j => t j ^^^ BitVec.setWidth 8 0#32)) L s b) : dgR (cat m len t) L s b := by
  have e : (fun j => t j ^^^ BitVec.setWidth 8 0#32) = t := by funext j; simp
  rw [e] at h
  exact h
theorem dgR_c0 {m r : Nat → By} {L : Nat} {s : Nat → Wd} {b : Nat → By} (h : dgR (cat m 0 r) L s b) : dgR r L s b :=
  dgR_congr (fun j _ => by unfold cat; rw [if_neg (by omega), Nat.sub_zero]) h
theorem pad_lo {k : Nat → By} {n : Nat} (h : n ≤ 64) {j : Nat} (hj : j < n) : k j = padF k n j := by unfold padF; rw [if_neg (by omega), if_pos hj]
theorem pad_z1 {k : Nat → By} {n : Nat} (h : n ≤ 64) : ∀ j, n ≤ j → padF k n j = 0#8 := by intro j hj; unfold padF; rw [if_neg (by omega), if_neg (by omega)]
theorem pad_hi {k : Nat → By} {n : Nat} (h : 64 < n) {j : Nat} (hj : j < 32) : digF k n j = padF k n j := by unfold padF; rw [if_pos h, if_pos hj]
theorem pad_z2 {k : Nat → By} {n : Nat} (h : 64 < n) : ∀ j, 32 ≤ j → padF k n j = 0#8 := by intro j hj; unfold padF; rw [if_pos h, if_neg (by omega)]
/-- one T more behind what stands already -/
theorem str_s {k info : Nat → By} {n m N i : Nat} {r r' q : Nat → By} (hq : ∀ j, j < 32 → q j = stT (padF k n) info m (i + 1) j) (h : ∀ j, j < 32 * i → j < N → r j = strF k n info m j) (ht : r' = va_cpy q r 0 (32 * i) (min 32 (N - 32 * i))) : ∀ j, j < 32 * (i + 1) → j < N → r' j = strF k n info m j := by
  intro j h1 h2
  rw [ht]
  by_cases e : 32 * i ≤ j
  · rw [pk_cpy_in e (by omega), hq _ (by omega)]
    unfold strF
    rw [show j / 32 = i by omega, show j % 32 = 0 + (j - 32 * i) by omega]
  · rw [pk_cpy_out (by omega)]; exact h j (by omega) h2
theorem dX2_setKey_0 : decode cX2_setKey 0 = .ok (.aload_n 1, 1) := by decide +kernel
theorem dX2_setKey_1 : decode cX2_setKey 1 = .ok (.getfield 49, 3) := by decide +kernel
theorem dX2_setKey_4 : decode cX2_setKey 4 = .ok (.istore_n 2, 1) := by decide +kernel
theorem dX2_setKey_5 : decode cX2_setKey 5 = .ok (.iload_n 2, 1) := by decide +kernel
theorem dX2_setKey_6 : decode cX2_setKey 6 = .ok (.bipush 64, 2) := by decide +kernel
theorem dX2_setKey_8 : decode cX2_setKey 8 = .ok (.if_icmp .le 40, 3) := by decide +kernel
theorem dX2_setKey_11 : decode cX2_setKey 11 = .ok (.aload_n 0, 1) := by decide +kernel
theorem dX2_setKey_12 : decode cX2_setKey 12 = .ok (.getfield 35, 3) := by decide +kernel
theorem dX2_setKey_15 : decode cX2_setKey 15 = .ok (.invokevirtual 94, 3) := by decide +kernel
theorem dX2_setKey_18 : decode cX2_setKey 18 = .ok (.aload_n 0, 1) := by decide +kernel
theorem dX2_setKey_19 : decode cX2_setKey 19 = .ok (.getfield 35, 3) := by decide +kernel
theorem dX2_setKey_22 : decode cX2_setKey 22 = .ok (.aload_n 1, 1) := by decide +kernel
theorem dX2_setKey_23 : decode cX2_setKey 23 = .ok (.getfield 46, 3) := by decide +kernel
theorem dX2_setKey_26 : decode cX2_setKey 26 = .ok (.iload_n 2, 1) := by decide +kernel
theorem dX2_setKey_27 : decode cX2_setKey 27 = .ok (.iconst 0, 1) := by decide +kernel
theorem dX2_setKey_28 : decode cX2_setKey 28 = .ok (.invokevirtual 53, 3) := by decide +kernel
theorem dX2_setKey_31 : decode cX2_setKey 31 = .ok (.aload_n 0, 1) := by decide +kernel
theorem dX2_setKey_32 : decode cX2_setKey 32 = .ok (.getfield 35, 3) := by decide +kernel
theorem dX2_setKey_35 : decode cX2_setKey 35 = .ok (.aload_n 0, 1) := by decide +kernel
theorem dX2_setKey_36 : decode cX2_setKey 36 = .ok (.getfield 11, 3) := by decide +kernel
theorem dX2_setKey_39 : decode cX2_setKey 39 = .ok (.invokevirtual 97, 3) := by decide +kernel
theorem dX2_setKey_42 : decode cX2_setKey 42 = .ok (.bipush 32, 2) := by decide +kernel
theorem dX2_setKey_44 : decode cX2_setKey 44 = .ok (.istore_n 2, 1) := by decide +kernel
theorem dX2_setKey_45 : decode cX2_setKey 45 = .ok (.goto 17, 3) := by decide +kernel
theorem dX2_setKey_48 : decode cX2_setKey 48 = .ok (.aload_n 1, 1) := by decide +kernel
theorem dX2_setKey_49 : decode cX2_setKey 49 = .ok (.getfield 46, 3) := by decide +kernel
theorem dX2_setKey_52 : decode cX2_setKey 52 = .ok (.iconst 0, 1) := by decide +kernel
theorem dX2_setKey_53 : decode cX2_setKey 53 = .ok (.aload_n 0, 1) := by decide +kernel
theorem dX2_setKey_54 : decode cX2_setKey 54 = .ok (.getfield 11, 3) := by decide +kernel
theorem dX2_setKey_57 : decode cX2_setKey 57 = .ok (.iconst 0, 1) := by decide +kernel
theorem dX2_setKey_58 : decode cX2_setKey 58 = .ok (.iload_n 2, 1) := by decide +kernel
theorem dX2_setKey_59 : decode cX2_setKey 59 = .ok (.invokestatic 67, 3) := by decide +kernel
theorem dX2_setKey_62 : decode cX2_setKey 62 = .ok (.iload_n 2, 1) := by decide +kernel
theorem dX2_setKey_63 : decode cX2_setKey 63 = .ok (.istore_n 3, 1) := by decide +kernel
theorem dX2_setKey_64 : decode cX2_setKey 64 = .ok (.iload_n 3, 1) := by decide +kernel
theorem dX2_setKey_65 : decode cX2_setKey 65 = .ok (.bipush 64, 2) := by decide +kernel
theorem dX2_setKey_67 : decode cX2_setKey 67 = .ok (.if_icmp .ge 16, 3) := by decide +kernel
theorem dX2_setKey_70 : decode cX2_setKey 70 = .ok (.aload_n 0, 1) := by decide +kernel
theorem dX2_setKey_71 : decode cX2_setKey 71 = .ok (.getfield 11, 3) := by decide +kernel
theorem dX2_setKey_74 : decode cX2_setKey 74 = .ok (.iload_n 3, 1) := by decide +kernel
theorem dX2_setKey_75 : decode cX2_setKey 75 = .ok (.iconst 0, 1) := by decide +kernel
theorem dX2_setKey_76 : decode cX2_setKey 76 = .ok (.bastore, 1) := by decide +kernel
theorem dX2_setKey_77 : decode cX2_setKey 77 = .ok (.iinc 3 1, 3) := by decide +kernel
theorem dX2_setKey_80 : decode cX2_setKey 80 = .ok (.goto (-16), 3) := by decide +kernel
theorem dX2_setKey_83 : decode cX2_setKey 83 = .ok (.return_, 1) := by decide +kernel
theorem dX2_startMac_0 : decode cX2_startMac 0 = .ok (.aload_n 0, 1) := by decide +kernel
theorem dX2_startMac_1 : decode cX2_startMac 1 = .ok (.getfield 35, 3) := by decide +kernel
theorem dX2_startMac_4 : decode cX2_startMac 4 = .ok (.invokevirtual 94, 3) := by decide +kernel
theorem dX2_startMac_7 : decode cX2_startMac 7 = .ok (.aload_n 0, 1) := by decide +kernel
theorem dX2_startMac_8 : decode cX2_startMac 8 = .ok (.getfield 35, 3) := by decide +kernel
theorem dX2_startMac_11 : decode cX2_startMac 11 = .ok (.aload_n 0, 1) := by decide +kernel
theorem dX2_startMac_12 : decode cX2_startMac 12 = .ok (.getfield 11, 3) := by decide +kernel
theorem dX2_startMac_15 : decode cX2_startMac 15 = .ok (.bipush 64, 2) := by decide +kernel
theorem dX2_startMac_17 : decode cX2_startMac 17 = .ok (.bipush 54, 2) := by decide +kernel
theorem dX2_startMac_19 : decode cX2_startMac 19 = .ok (.invokevirtual 53, 3) := by decide +kernel
theorem dX2_startMac_22 : decode cX2_startMac 22 = .ok (.return_, 1) := by decide +kernel
theorem dX2_finishMac_0 : decode cX2_finishMac 0 = .ok (.aload_n 0, 1) := by decide +kernel
theorem dX2_finishMac_1 : decode cX2_finishMac 1 = .ok (.getfield 35, 3) := by decide +kernel
theorem dX2_finishMac_4 : decode cX2_finishMac 4 = .ok (.aload_n 0, 1) := by decide +kernel
theorem dX2_finishMac_5 : decode cX2_finishMac 5 = .ok (.getfield 17, 3) := by decide +kernel
theorem dX2_finishMac_8 : decode cX2_finishMac 8 = .ok (.invokevirtual 97, 3) := by decide +kernel
theorem dX2_finishMac_11 : decode cX2_finishMac 11 = .ok (.aload_n 0, 1) := by decide +kernel
theorem dX2_finishMac_12 : decode cX2_finishMac 12 = .ok (.getfield 35, 3) := by decide +kernel
theorem dX2_finishMac_15 : decode cX2_finishMac 15 = .ok (.invokevirtual 94, 3) := by decide +kernel
theorem dX2_finishMac_18 : decode cX2_finishMac 18 = .ok (.aload_n 0, 1) := by decide +kernel
theorem dX2_finishMac_19 : decode cX2_finishMac 19 = .ok (.getfield 35, 3) := by decide +kernel
theorem dX2_finishMac_22 : decode cX2_finishMac 22 = .ok (.aload_n 0, 1) := by decide +kernel
theorem dX2_finishMac_23 : decode cX2_finishMac 23 = .ok (.getfield 11, 3) := by decide +kernel
theorem dX2_finishMac_26 : decode cX2_finishMac 26 = .ok (.bipush 64, 2) := by decide +kernel
theorem dX2_finishMac_28 : decode cX2_finishMac 28 = .ok (.bipush 92, 2) := by decide +kernel
theorem dX2_finishMac_30 : decode cX2_finishMac 30 = .ok (.invokevirtual 53, 3) := by decide +kernel
theorem dX2_finishMac_33 : decode cX2_finishMac 33 = .ok (.aload_n 0, 1) := by decide +kernel
theorem dX2_finishMac_34 : decode cX2_finishMac 34 = .ok (.getfield 35, 3) := by decide +kernel
theorem dX2_finishMac_37 : decode cX2_finishMac 37 = .ok (.aload_n 0, 1) := by decide +kernel
theorem dX2_finishMac_38 : decode cX2_finishMac 38 = .ok (.getfield 17, 3) := by decide +kernel
theorem dX2_finishMac_41 : decode cX2_finishMac 41 = .ok (.bipush 32, 2) := by decide +kernel
theorem dX2_finishMac_43 : decode cX2_finishMac 43 = .ok (.iconst 0, 1) := by decide +kernel
theorem dX2_finishMac_44 : decode cX2_finishMac 44 = .ok (.invokevirtual 53, 3) := by decide +kernel
theorem dX2_finishMac_47 : decode cX2_finishMac 47 = .ok (.aload_n 0, 1) := by decide +kernel
theorem dX2_finishMac_48 : decode cX2_finishMac 48 = .ok (.getfield 35, 3) := by decide +kernel
theorem dX2_finishMac_51 : decode cX2_finishMac 51 = .ok (.aload_n 1, 1) := by decide +kernel
theorem dX2_finishMac_52 : decode cX2_finishMac 52 = .ok (.invokevirtual 97, 3) := by decide +kernel
theorem dX2_finishMac_55 : decode cX2_finishMac 55 = .ok (.return_, 1) := by decide +kernel
theorem dX2_makeMac_0 : decode cX2_makeMac 0 = .ok (.aload_n 0, 1) := by decide +kernel
theorem dX2_makeMac_1 : decode cX2_makeMac 1 = .ok (.aload_n 1, 1) := by decide +kernel
theorem dX2_makeMac_2 : decode cX2_makeMac 2 = .ok (.invokevirtual 39, 3) := by decide +kernel
theorem dX2_makeMac_5 : decode cX2_makeMac 5 = .ok (.aload_n 0, 1) := by decide +kernel
theorem dX2_makeMac_6 : decode cX2_makeMac 6 = .ok (.invokevirtual 43, 3) := by decide +kernel
theorem dX2_makeMac_9 : decode cX2_makeMac 9 = .ok (.aload_n 0, 1) := by decide +kernel
theorem dX2_makeMac_10 : decode cX2_makeMac 10 = .ok (.getfield 35, 3) := by decide +kernel
theorem dX2_makeMac_13 : decode cX2_makeMac 13 = .ok (.aload_n 2, 1) := by decide +kernel
theorem dX2_makeMac_14 : decode cX2_makeMac 14 = .ok (.getfield 46, 3) := by decide +kernel
theorem dX2_makeMac_17 : decode cX2_makeMac 17 = .ok (.aload_n 2, 1) := by decide +kernel
theorem dX2_makeMac_18 : decode cX2_makeMac 18 = .ok (.getfield 49, 3) := by decide +kernel
theorem dX2_makeMac_21 : decode cX2_makeMac 21 = .ok (.iconst 0, 1) := by decide +kernel
theorem dX2_makeMac_22 : decode cX2_makeMac 22 = .ok (.invokevirtual 53, 3) := by decide +kernel
theorem dX2_makeMac_25 : decode cX2_makeMac 25 = .ok (.aload_n 0, 1) := by decide +kernel
theorem dX2_makeMac_26 : decode cX2_makeMac 26 = .ok (.aload_n 3, 1) := by decide +kernel
theorem dX2_makeMac_27 : decode cX2_makeMac 27 = .ok (.getfield 46, 3) := by decide +kernel
theorem dX2_makeMac_30 : decode cX2_makeMac 30 = .ok (.invokevirtual 57, 3) := by decide +kernel
theorem dX2_makeMac_33 : decode cX2_makeMac 33 = .ok (.aload_n 3, 1) := by decide +kernel
theorem dX2_makeMac_34 : decode cX2_makeMac 34 = .ok (.bipush 32, 2) := by decide +kernel
theorem dX2_makeMac_36 : decode cX2_makeMac 36 = .ok (.putfield 49, 3) := by decide +kernel
theorem dX2_makeMac_39 : decode cX2_makeMac 39 = .ok (.return_, 1) := by decide +kernel
theorem dX2_makeStretch_0 : decode cX2_makeStretch 0 = .ok (.aload_n 0, 1) := by decide +kernel
theorem dX2_makeStretch_1 : decode cX2_makeStretch 1 = .ok (.aload_n 1, 1) := by decide +kernel
theorem dX2_makeStretch_2 : decode cX2_makeStretch 2 = .ok (.invokevirtual 39, 3) := by decide +kernel
theorem dX2_makeStretch_5 : decode cX2_makeStretch 5 = .ok (.iload_n 3, 1) := by decide +kernel
theorem dX2_makeStretch_6 : decode cX2_makeStretch 6 = .ok (.bipush 32, 2) := by decide +kernel
theorem dX2_makeStretch_8 : decode cX2_makeStretch 8 = .ok (.iadd, 1) := by decide +kernel
theorem dX2_makeStretch_9 : decode cX2_makeStretch 9 = .ok (.iconst 1, 1) := by decide +kernel
theorem dX2_makeStretch_10 : decode cX2_makeStretch 10 = .ok (.isub, 1) := by decide +kernel
theorem dX2_makeStretch_11 : decode cX2_makeStretch 11 = .ok (.bipush 32, 2) := by decide +kernel
theorem dX2_makeStretch_13 : decode cX2_makeStretch 13 = .ok (.idiv, 1) := by decide +kernel
theorem dX2_makeStretch_14 : decode cX2_makeStretch 14 = .ok (.istore 5, 2) := by decide +kernel
theorem dX2_makeStretch_16 : decode cX2_makeStretch 16 = .ok (.iconst 1, 1) := by decide +kernel
theorem dX2_makeStretch_17 : decode cX2_makeStretch 17 = .ok (.istore 6, 2) := by decide +kernel
theorem dX2_makeStretch_19 : decode cX2_makeStretch 19 = .ok (.iload 6, 2) := by decide +kernel
theorem dX2_makeStretch_21 : decode cX2_makeStretch 21 = .ok (.iload 5, 2) := by decide +kernel
theorem dX2_makeStretch_23 : decode cX2_makeStretch 23 = .ok (.if_icmp .gt 116, 3) := by decide +kernel
theorem dX2_makeStretch_26 : decode cX2_makeStretch 26 = .ok (.aload_n 0, 1) := by decide +kernel
theorem dX2_makeStretch_27 : decode cX2_makeStretch 27 = .ok (.invokevirtual 43, 3) := by decide +kernel
theorem dX2_makeStretch_30 : decode cX2_makeStretch 30 = .ok (.aload_n 0, 1) := by decide +kernel
theorem dX2_makeStretch_31 : decode cX2_makeStretch 31 = .ok (.getfield 35, 3) := by decide +kernel
theorem dX2_makeStretch_34 : decode cX2_makeStretch 34 = .ok (.aload_n 0, 1) := by decide +kernel
theorem dX2_makeStretch_35 : decode cX2_makeStretch 35 = .ok (.getfield 20, 3) := by decide +kernel
theorem dX2_makeStretch_38 : decode cX2_makeStretch 38 = .ok (.iload 6, 2) := by decide +kernel
theorem dX2_makeStretch_40 : decode cX2_makeStretch 40 = .ok (.iconst 1, 1) := by decide +kernel
theorem dX2_makeStretch_41 : decode cX2_makeStretch 41 = .ok (.if_icmp .ne 7, 3) := by decide +kernel
theorem dX2_makeStretch_44 : decode cX2_makeStretch 44 = .ok (.iconst 0, 1) := by decide +kernel
theorem dX2_makeStretch_45 : decode cX2_makeStretch 45 = .ok (.goto 5, 3) := by decide +kernel
theorem dX2_makeStretch_48 : decode cX2_makeStretch 48 = .ok (.bipush 32, 2) := by decide +kernel
theorem dX2_makeStretch_50 : decode cX2_makeStretch 50 = .ok (.iconst 0, 1) := by decide +kernel
theorem dX2_makeStretch_51 : decode cX2_makeStretch 51 = .ok (.invokevirtual 53, 3) := by decide +kernel
theorem dX2_makeStretch_54 : decode cX2_makeStretch 54 = .ok (.aload_n 0, 1) := by decide +kernel
theorem dX2_makeStretch_55 : decode cX2_makeStretch 55 = .ok (.getfield 35, 3) := by decide +kernel
theorem dX2_makeStretch_58 : decode cX2_makeStretch 58 = .ok (.aload_n 2, 1) := by decide +kernel
theorem dX2_makeStretch_59 : decode cX2_makeStretch 59 = .ok (.getfield 46, 3) := by decide +kernel
theorem dX2_makeStretch_62 : decode cX2_makeStretch 62 = .ok (.aload_n 2, 1) := by decide +kernel
theorem dX2_makeStretch_63 : decode cX2_makeStretch 63 = .ok (.getfield 49, 3) := by decide +kernel
theorem dX2_makeStretch_66 : decode cX2_makeStretch 66 = .ok (.iconst 0, 1) := by decide +kernel
theorem dX2_makeStretch_67 : decode cX2_makeStretch 67 = .ok (.invokevirtual 53, 3) := by decide +kernel
theorem dX2_makeStretch_70 : decode cX2_makeStretch 70 = .ok (.aload_n 0, 1) := by decide +kernel
theorem dX2_makeStretch_71 : decode cX2_makeStretch 71 = .ok (.getfield 23, 3) := by decide +kernel
theorem dX2_makeStretch_74 : decode cX2_makeStretch 74 = .ok (.iconst 0, 1) := by decide +kernel
theorem dX2_makeStretch_75 : decode cX2_makeStretch 75 = .ok (.iload 6, 2) := by decide +kernel
theorem dX2_makeStretch_77 : decode cX2_makeStretch 77 = .ok (.i2b, 1) := by decide +kernel
theorem dX2_makeStretch_78 : decode cX2_makeStretch 78 = .ok (.bastore, 1) := by decide +kernel
theorem dX2_makeStretch_79 : decode cX2_makeStretch 79 = .ok (.aload_n 0, 1) := by decide +kernel
theorem dX2_makeStretch_80 : decode cX2_makeStretch 80 = .ok (.getfield 35, 3) := by decide +kernel
theorem dX2_makeStretch_83 : decode cX2_makeStretch 83 = .ok (.aload_n 0, 1) := by decide +kernel
theorem dX2_makeStretch_84 : decode cX2_makeStretch 84 = .ok (.getfield 23, 3) := by decide +kernel
theorem dX2_makeStretch_87 : decode cX2_makeStretch 87 = .ok (.iconst 1, 1) := by decide +kernel
theorem dX2_makeStretch_88 : decode cX2_makeStretch 88 = .ok (.iconst 0, 1) := by decide +kernel
theorem dX2_makeStretch_89 : decode cX2_makeStretch 89 = .ok (.invokevirtual 53, 3) := by decide +kernel
theorem dX2_makeStretch_92 : decode cX2_makeStretch 92 = .ok (.aload_n 0, 1) := by decide +kernel
theorem dX2_makeStretch_93 : decode cX2_makeStretch 93 = .ok (.aload_n 0, 1) := by decide +kernel
theorem dX2_makeStretch_94 : decode cX2_makeStretch 94 = .ok (.getfield 20, 3) := by decide +kernel
theorem dX2_makeStretch_97 : decode cX2_makeStretch 97 = .ok (.invokevirtual 57, 3) := by decide +kernel
theorem dX2_makeStretch_100 : decode cX2_makeStretch 100 = .ok (.bipush 32, 2) := by decide +kernel
theorem dX2_makeStretch_102 : decode cX2_makeStretch 102 = .ok (.iload 6, 2) := by decide +kernel
theorem dX2_makeStretch_104 : decode cX2_makeStretch 104 = .ok (.iconst 1, 1) := by decide +kernel
theorem dX2_makeStretch_105 : decode cX2_makeStretch 105 = .ok (.isub, 1) := by decide +kernel
theorem dX2_makeStretch_106 : decode cX2_makeStretch 106 = .ok (.imul, 1) := by decide +kernel
theorem dX2_makeStretch_107 : decode cX2_makeStretch 107 = .ok (.istore 7, 2) := by decide +kernel
theorem dX2_makeStretch_109 : decode cX2_makeStretch 109 = .ok (.aload_n 0, 1) := by decide +kernel
theorem dX2_makeStretch_110 : decode cX2_makeStretch 110 = .ok (.getfield 20, 3) := by decide +kernel
theorem dX2_makeStretch_113 : decode cX2_makeStretch 113 = .ok (.iconst 0, 1) := by decide +kernel
theorem dX2_makeStretch_114 : decode cX2_makeStretch 114 = .ok (.aload 4, 2) := by decide +kernel
theorem dX2_makeStretch_116 : decode cX2_makeStretch 116 = .ok (.getfield 46, 3) := by decide +kernel
theorem dX2_makeStretch_119 : decode cX2_makeStretch 119 = .ok (.iload 7, 2) := by decide +kernel
theorem dX2_makeStretch_121 : decode cX2_makeStretch 121 = .ok (.bipush 32, 2) := by decide +kernel
theorem dX2_makeStretch_123 : decode cX2_makeStretch 123 = .ok (.iload_n 3, 1) := by decide +kernel
theorem dX2_makeStretch_124 : decode cX2_makeStretch 124 = .ok (.iload 7, 2) := by decide +kernel
theorem dX2_makeStretch_126 : decode cX2_makeStretch 126 = .ok (.isub, 1) := by decide +kernel
theorem dX2_makeStretch_127 : decode cX2_makeStretch 127 = .ok (.invokestatic 61, 3) := by decide +kernel
theorem dX2_makeStretch_130 : decode cX2_makeStretch 130 = .ok (.invokestatic 67, 3) := by decide +kernel
theorem dX2_makeStretch_133 : decode cX2_makeStretch 133 = .ok (.iinc 6 1, 3) := by decide +kernel
theorem dX2_makeStretch_136 : decode cX2_makeStretch 136 = .ok (.goto (-117), 3) := by decide +kernel
theorem dX2_makeStretch_139 : decode cX2_makeStretch 139 = .ok (.aload 4, 2) := by decide +kernel
theorem dX2_makeStretch_141 : decode cX2_makeStretch 141 = .ok (.iload_n 3, 1) := by decide +kernel
theorem dX2_makeStretch_142 : decode cX2_makeStretch 142 = .ok (.putfield 49, 3) := by decide +kernel
theorem dX2_makeStretch_145 : decode cX2_makeStretch 145 = .ok (.return_, 1) := by decide +kernel
set_option maxHeartbeats 4000000 in
set_option maxRecDepth 100000 in
theorem c_KM_setKey (l : Launch) (D : va_G) (a0 : Nat) (a1 : Nat) (a0_digester : Nat) (a0_pad : Nat) (a0_inner : Nat) (a0_part : Nat) (a0_partNumber : Nat) (a0_labelInfo : Nat) (a0_digester_sums : Nat) (a0_digester_words : Nat) (a0_digester_pending : Nat) (v_a0_digester_filled : Nat) (v_a0_digester_total : Nat) (t_a0_digester_sums : Nat → Wd) (t_a0_digester_words : Nat → Wd) (t_a0_digester_pending : Nat → By) (t_a0_pad : Nat → By) (a1_bytes : Nat) (v_a1_count : Nat) (n1 : Nat) (t_a1_bytes : Nat → By)  (h1 : v_a1_count ≤ n1) (hn : n1 < 2 ^ 31) : vM l D yX2_setKey cX2_setKey 4 none { frames := 3, cells := 0, slots := 0, locals := 76 } [.ref a0, .ref a1] [(a0, .inr (2, [.ref a0_digester, .ref a0_pad, .ref a0_inner, .ref a0_part, .ref a0_partNumber, .ref a0_labelInfo])), (a0_digester, .inr (0, [.ref a0_digester_sums, .ref a0_digester_words, .ref a0_digester_pending, .int (nI v_a0_digester_filled), .long (lN v_a0_digester_total)])), (a0_digester_sums, aW D 8 t_a0_digester_sums), (a0_digester_words, aW D 64 t_a0_digester_words), (a0_digester_pending, aB D 64 t_a0_digester_pending), (a0_pad, aB D 64 t_a0_pad), (a1, .inr (4, [.ref a1_bytes, .int (nI v_a1_count)])), (a1_bytes, aB D n1 t_a1_bytes)] (fun r wo => ∃ (f1 : Nat) (l1 : Nat) (s1 : Nat → Wd) (w1 : Nat → Wd) (b1 : Nat → By) (k1 : Nat → By), r = none ∧ wo = [(a0, .inr (2, [.ref a0_digester, .ref a0_pad, .ref a0_inner, .ref a0_part, .ref a0_partNumber, .ref a0_labelInfo])), (a0_digester, .inr (0, [.ref a0_digester_sums, .ref a0_digester_words, .ref a0_digester_pending, .int (nI f1), .long (lN l1)])), (a0_digester_sums, aW D 8 s1), (a0_digester_words, aW D 64 w1), (a0_digester_pending, aB D 64 b1), (a0_pad, aB D 64 k1), (a1, .inr (4, [.ref a1_bytes, .int (nI v_a1_count)])), (a1_bytes, aB D n1 t_a1_bytes)] ∧ (∀ j, j < 64 → k1 j = padF t_a1_bytes v_a1_count j)) := by
  refine vM.of (by decide) (Nat.le_of_ble_eq_true rfl) (fun C hCl hCD g R => ?_)
  subst hCl; subst hCD
  show VJ C 0 0 0 [(0, .ref a0), (1, .ref a1)] [] [(a0, .inr (2, [.ref a0_digester, .ref a0_pad, .ref a0_inner, .ref a0_part, .ref a0_partNumber, .ref a0_labelInfo])), (a0_digester, .inr (0, [.ref a0_digester_sums, .ref a0_digester_words, .ref a0_digester_pending, .int (nI v_a0_digester_filled), .long (lN v_a0_digester_total)])), (a0_digester_sums, aW C.D 8 t_a0_digester_sums), (a0_digester_words, aW C.D 64 t_a0_digester_words), (a0_digester_pending, aB C.D 64 t_a0_digester_pending), (a0_pad, aB C.D 64 t_a0_pad), (a1, .inr (4, [.ref a1_bytes, .int (nI v_a1_count)])), (a1_bytes, aB C.D n1 t_a1_bytes)]
  refine v_aload_n g dX2_setKey_0 1 rfl 1 rfl ?_
  refine gf_X2_49 g dX2_setKey_1 6 rfl rfl ?_
  refine v_istore_n g [(2, .int (nI v_a1_count)), (0, .ref a0), (1, .ref a1)] dX2_setKey_4 2 rfl (by decide) rfl ?_
  have J62 : ∀ (f2 : Nat) (l2 : Nat) (s2 : Nat → Wd) (w2 : Nat → Wd) (b2 : Nat → By) (k2 : Nat → By) (sz : Nat), (sz ≤ 64) → (∀ j, j < sz → k2 j = padF t_a1_bytes v_a1_count j) → (∀ j, sz ≤ j → padF t_a1_bytes v_a1_count j = 0#8) → VJ C 0 0 62 [(2, .int (nI sz)), (0, .ref a0), (1, .ref a1)] [] [(a0, .inr (2, [.ref a0_digester, .ref a0_pad, .ref a0_inner, .ref a0_part, .ref a0_partNumber, .ref a0_labelInfo])), (a0_digester, .inr (0, [.ref a0_digester_sums, .ref a0_digester_words, .ref a0_digester_pending, .int (nI f2), .long (lN l2)])), (a0_digester_sums, aW C.D 8 s2), (a0_digester_words, aW C.D 64 w2), (a0_digester_pending, aB C.D 64 b2), (a0_pad, aB C.D 64 k2), (a1, .inr (4, [.ref a1_bytes, .int (nI v_a1_count)])), (a1_bytes, aB C.D n1 t_a1_bytes)] := by
    intro f2 l2 s2 w2 b2 k2 sz hj0 hj1 hj2
    refine v_iload_n g dX2_setKey_62 2 rfl 0 rfl ?_
    refine v_istore_n g [(3, .int (nI sz)), (2, .int (nI sz)), (0, .ref a0), (1, .ref a1)] dX2_setKey_63 3 rfl (by decide) rfl ?_
    have L64_0 : ∀ i : Nat, i ≤ (64 - sz) → ∀ (k3 : Nat → By), (∀ j, j < sz + i → k3 j = padF t_a1_bytes v_a1_count j) → VJ C 0 0 64 [(3, .int (nI (sz + i))), (2, .int (nI sz)), (0, .ref a0), (1, .ref a1)] [] [(a0, .inr (2, [.ref a0_digester, .ref a0_pad, .ref a0_inner, .ref a0_part, .ref a0_partNumber, .ref a0_labelInfo])), (a0_digester, .inr (0, [.ref a0_digester_sums, .ref a0_digester_words, .ref a0_digester_pending, .int (nI f2), .long (lN l2)])), (a0_digester_sums, aW C.D 8 s2), (a0_digester_words, aW C.D 64 w2), (a0_digester_pending, aB C.D 64 b2), (a0_pad, aB C.D 64 k3), (a1, .inr (4, [.ref a1_bytes, .int (nI v_a1_count)])), (a1_bytes, aB C.D n1 t_a1_bytes)] := by
      refine v_for ((64 - sz)) ?_ ?_
      · skip
        intro i hii ih k3 hv0
        refine v_iload_n g dX2_setKey_64 3 rfl 0 rfl ?_
        refine v_bipush g dX2_setKey_65 (v := nI 64) (by decide +kernel) ?_
        refine v_icmp_geN g 83 dX2_setKey_67 (by decide) (by omega) (by omega) (fun h1 => ?_) (fun h1 => ?_)
        · skip
          exact absurd h1 (by omega)
        · skip
          refine v_aload_n g dX2_setKey_70 0 rfl 2 rfl ?_
          refine gf_X2_11 g dX2_setKey_71 0 rfl rfl ?_
          refine v_iload_n g dX2_setKey_74 3 rfl 0 rfl ?_
          refine v_iconst g dX2_setKey_75 (v := nI 0) (by decide +kernel) ?_
          obtain ⟨t2, ht2⟩ : ∃ z : Nat → By, z = va_up k3 (sz + i) 0#8 := ⟨_, rfl⟩
          refine v_bastB g (0#8) (by decide +kernel) t2 ht2 5 [(a0, .inr (2, [.ref a0_digester, .ref a0_pad, .ref a0_inner, .ref a0_part, .ref a0_partNumber, .ref a0_labelInfo])), (a0_digester, .inr (0, [.ref a0_digester_sums, .ref a0_digester_words, .ref a0_digester_pending, .int (nI f2), .long (lN l2)])), (a0_digester_sums, aW C.D 8 s2), (a0_digester_words, aW C.D 64 w2), (a0_digester_pending, aB C.D 64 b2), (a0_pad, aB C.D 64 t2), (a1, .inr (4, [.ref a1_bytes, .int (nI v_a1_count)])), (a1_bytes, aB C.D n1 t_a1_bytes)] rfl (by omega) (by decide) dX2_setKey_76 rfl ?_
          refine v_iincN g 1 [(3, .int (nI (sz + i + 1))), (2, .int (nI sz)), (0, .ref a0), (1, .ref a1)] dX2_setKey_77 0 rfl (by decide +kernel) (by decide) rfl ?_
          refine v_goto g 64 dX2_setKey_80 (by decide) ?_
          exact ih t2 (up_lt (m := sz + i) hv0 (hj2 _ (by omega)).symm ht2)
      · skip
        intro k3 hv0
        refine v_iload_n g dX2_setKey_64 3 rfl 0 rfl ?_
        refine v_bipush g dX2_setKey_65 (v := nI 64) (by decide +kernel) ?_
        refine v_icmp_geN g 83 dX2_setKey_67 (by decide) (by omega) (by omega) (fun h3 => ?_) (fun h3 => ?_)
        · skip
          exact v_ret g R dX2_setKey_83 (by decide) (by decide) ⟨f2, l2, s2, w2, b2, k3, rfl, rfl, (fun j hj => hv0 j (by omega))⟩
        · skip
          exact absurd h3 (by omega)
    exact L64_0 0 (by omega) k2 hj1
  refine v_iload_n g dX2_setKey_5 2 rfl 0 rfl ?_
  refine v_bipush g dX2_setKey_6 (v := nI 64) (by decide +kernel) ?_
  refine v_icmp_leN g 48 dX2_setKey_8 (by decide) (by omega) (by omega) (fun h4 => ?_) (fun h4 => ?_)
  · skip
    refine v_aload_n g dX2_setKey_48 1 rfl 2 rfl ?_
    refine gf_X2_46 g dX2_setKey_49 6 rfl rfl ?_
    refine v_iconst g dX2_setKey_52 (v := nI 0) (by decide +kernel) ?_
    refine v_aload_n g dX2_setKey_53 0 rfl 1 rfl ?_
    refine gf_X2_11 g dX2_setKey_54 0 rfl rfl ?_
    refine v_iconst g dX2_setKey_57 (v := nI 0) (by decide +kernel) ?_
    refine v_iload_n g dX2_setKey_58 2 rfl 0 rfl ?_
    obtain ⟨t5, ht5⟩ : ∃ z : Nat → By, z = va_cpy t_a1_bytes t_a0_pad 0 0 v_a1_count := ⟨_, rfl⟩
    refine v_acpB g ac_X2_67 t5 ht5 7 5 [(a0, .inr (2, [.ref a0_digester, .ref a0_pad, .ref a0_inner, .ref a0_part, .ref a0_partNumber, .ref a0_labelInfo])), (a0_digester, .inr (0, [.ref a0_digester_sums, .ref a0_digester_words, .ref a0_digester_pending, .int (nI v_a0_digester_filled), .long (lN v_a0_digester_total)])), (a0_digester_sums, aW C.D 8 t_a0_digester_sums), (a0_digester_words, aW C.D 64 t_a0_digester_words), (a0_digester_pending, aB C.D 64 t_a0_digester_pending), (a0_pad, aB C.D 64 t5), (a1, .inr (4, [.ref a1_bytes, .int (nI v_a1_count)])), (a1_bytes, aB C.D n1 t_a1_bytes)] rfl rfl (by omega) (by omega) (by omega) (by omega) (by decide) (Nat.le_of_ble_eq_true rfl) dX2_setKey_59 rfl ?_
    exact J62 v_a0_digester_filled v_a0_digester_total t_a0_digester_sums t_a0_digester_words t_a0_digester_pending t5 v_a1_count (by omega) (fun j hj => by rw [ht5, pk_cpy_in (by omega) (by omega), Nat.zero_add, Nat.sub_zero]; exact pad_lo (by omega) hj) (pad_z1 (by omega))
  · skip
    refine v_aload_n g dX2_setKey_11 0 rfl 1 rfl ?_
    refine gf_X2_35 g dX2_setKey_12 0 rfl rfl ?_
    refine v_callV (As := []) (rest := []) (wr := [(a0, .inr (2, [.ref a0_digester, .ref a0_pad, .ref a0_inner, .ref a0_part, .ref a0_partNumber, .ref a0_labelInfo])), (a0_digester_words, aW C.D 64 t_a0_digester_words), (a0_digester_pending, aB C.D 64 t_a0_digester_pending), (a0_pad, aB C.D 64 t_a0_pad), (a1, .inr (4, [.ref a1_bytes, .int (nI v_a1_count)])), (a1_bytes, aB C.D n1 t_a1_bytes)]) cw_X2_94 (hy_X0_start) g (c_DG_start C.l C.D a0_digester a0_digester_sums a0_digester_words a0_digester_pending v_a0_digester_filled v_a0_digester_total t_a0_digester_sums ) dX2_setKey_15 1 rfl rfl rfl (by decide) (by decide) (Nat.le_of_ble_eq_true rfl) [1, 2] [0, 3, 4, 5, 6, 7] rfl rfl (by decide) rfl (by decide) (by decide) _ rfl (fun r wo hp6 => ?_)
    obtain ⟨sa, rfl, rfl, ha⟩ := hp6
    refine v_perm [0, 6, 7, 1, 2, 3, 4, 5] [(a0, .inr (2, [.ref a0_digester, .ref a0_pad, .ref a0_inner, .ref a0_part, .ref a0_partNumber, .ref a0_labelInfo])), (a0_digester, .inr (0, [.ref a0_digester_sums, .ref a0_digester_words, .ref a0_digester_pending, .int (nI 0), .long (lN 0)])), (a0_digester_sums, aW C.D 8 sa), (a0_digester_words, aW C.D 64 t_a0_digester_words), (a0_digester_pending, aB C.D 64 t_a0_digester_pending), (a0_pad, aB C.D 64 t_a0_pad), (a1, .inr (4, [.ref a1_bytes, .int (nI v_a1_count)])), (a1_bytes, aB C.D n1 t_a1_bytes)] (by decide) rfl rfl ?_
    show VJ C 0 0 18 [(2, .int (nI v_a1_count)), (0, .ref a0), (1, .ref a1)] [] [(a0, .inr (2, [.ref a0_digester, .ref a0_pad, .ref a0_inner, .ref a0_part, .ref a0_partNumber, .ref a0_labelInfo])), (a0_digester, .inr (0, [.ref a0_digester_sums, .ref a0_digester_words, .ref a0_digester_pending, .int (nI 0), .long (lN 0)])), (a0_digester_sums, aW C.D 8 sa), (a0_digester_words, aW C.D 64 t_a0_digester_words), (a0_digester_pending, aB C.D 64 t_a0_digester_pending), (a0_pad, aB C.D 64 t_a0_pad), (a1, .inr (4, [.ref a1_bytes, .int (nI v_a1_count)])), (a1_bytes, aB C.D n1 t_a1_bytes)]
    refine v_aload_n g dX2_setKey_18 0 rfl 1 rfl ?_
    refine gf_X2_35 g dX2_setKey_19 0 rfl rfl ?_
    refine v_aload_n g dX2_setKey_22 1 rfl 2 rfl ?_
    refine gf_X2_46 g dX2_setKey_23 6 rfl rfl ?_
    refine v_iload_n g dX2_setKey_26 2 rfl 0 rfl ?_
    refine v_iconst g dX2_setKey_27 (v := nI 0) (by decide +kernel) ?_
    refine v_callV (As := [.ref a1_bytes, .int (nI v_a1_count), .int (nI 0)]) (rest := []) (wr := [(a0, .inr (2, [.ref a0_digester, .ref a0_pad, .ref a0_inner, .ref a0_part, .ref a0_partNumber, .ref a0_labelInfo])), (a0_pad, aB C.D 64 t_a0_pad), (a1, .inr (4, [.ref a1_bytes, .int (nI v_a1_count)]))]) cw_X2_53 (hy_X0_put) g (c_DG_put C.l C.D a0_digester a1_bytes v_a1_count 0#32 a0_digester_sums a0_digester_words a0_digester_pending 0 0 sa t_a0_digester_words t_a0_digester_pending n1 t_a1_bytes (fun _ => 0#8) 0 rfl rfl (dgR_0 _ _ _ ha) (by omega) (by omega)) dX2_setKey_28 1 rfl rfl rfl (by decide) (by decide) (Nat.le_of_ble_eq_true rfl) [1, 2, 3, 4, 7] [0, 5, 6] rfl rfl (by decide) rfl (by decide) (by decide) _ rfl (fun r wo hp7 => ?_)
    obtain ⟨sb, wb, bb, rfl, rfl, hb⟩ := hp7
    refine v_perm [0, 3, 4, 5, 6, 1, 2, 7] [(a0, .inr (2, [.ref a0_digester, .ref a0_pad, .ref a0_inner, .ref a0_part, .ref a0_partNumber, .ref a0_labelInfo])), (a0_digester, .inr (0, [.ref a0_digester_sums, .ref a0_digester_words, .ref a0_digester_pending, .int (nI ((0 + v_a1_count) % 64)), .long (lN (0 + v_a1_count))])), (a0_digester_sums, aW C.D 8 sb), (a0_digester_words, aW C.D 64 wb), (a0_digester_pending, aB C.D 64 bb), (a0_pad, aB C.D 64 t_a0_pad), (a1, .inr (4, [.ref a1_bytes, .int (nI v_a1_count)])), (a1_bytes, aB C.D n1 t_a1_bytes)] (by decide) rfl rfl ?_
    show VJ C 0 0 31 [(2, .int (nI v_a1_count)), (0, .ref a0), (1, .ref a1)] [] [(a0, .inr (2, [.ref a0_digester, .ref a0_pad, .ref a0_inner, .ref a0_part, .ref a0_partNumber, .ref a0_labelInfo])), (a0_digester, .inr (0, [.ref a0_digester_sums, .ref a0_digester_words, .ref a0_digester_pending, .int (nI ((0 + v_a1_count) % 64)), .long (lN (0 + v_a1_count))])), (a0_digester_sums, aW C.D 8 sb), (a0_digester_words, aW C.D 64 wb), (a0_digester_pending, aB C.D 64 bb), (a0_pad, aB C.D 64 t_a0_pad), (a1, .inr (4, [.ref a1_bytes, .int (nI v_a1_count)])), (a1_bytes, aB C.D n1 t_a1_bytes)]
    have hb2 := dgR_c0 (dgR_x0 hb)
    refine v_aload_n g dX2_setKey_31 0 rfl 1 rfl ?_
    refine gf_X2_35 g dX2_setKey_32 0 rfl rfl ?_
    refine v_aload_n g dX2_setKey_35 0 rfl 1 rfl ?_
    refine gf_X2_11 g dX2_setKey_36 0 rfl rfl ?_
    refine v_callV (As := [.ref a0_pad]) (rest := []) (wr := [(a0, .inr (2, [.ref a0_digester, .ref a0_pad, .ref a0_inner, .ref a0_part, .ref a0_partNumber, .ref a0_labelInfo])), (a1, .inr (4, [.ref a1_bytes, .int (nI v_a1_count)])), (a1_bytes, aB C.D n1 t_a1_bytes)]) cw_X2_97 (hy_X0_finish) g (c_DG_fin C.l C.D a0_digester a0_pad a0_digester_sums a0_digester_words a0_digester_pending ((0 + v_a1_count) % 64) (0 + v_a1_count) sb wb bb 64 t_a0_pad t_a1_bytes (0 + v_a1_count) rfl rfl hb2 (by omega) (by omega) (by omega)) dX2_setKey_39 1 rfl rfl rfl (by decide) (by decide) (Nat.le_of_ble_eq_true rfl) [1, 2, 3, 4, 5] [0, 6, 7] rfl rfl (by decide) rfl (by decide) (by decide) _ rfl (fun r wo hp8 => ?_)
    obtain ⟨fc, sc, wc, bc, rc, rfl, rfl, hc, hc2⟩ := hp8
    refine v_perm [0, 3, 4, 5, 6, 7, 1, 2] [(a0, .inr (2, [.ref a0_digester, .ref a0_pad, .ref a0_inner, .ref a0_part, .ref a0_partNumber, .ref a0_labelInfo])), (a0_digester, .inr (0, [.ref a0_digester_sums, .ref a0_digester_words, .ref a0_digester_pending, .int (nI fc), .long (lN (0 + v_a1_count))])), (a0_digester_sums, aW C.D 8 sc), (a0_digester_words, aW C.D 64 wc), (a0_digester_pending, aB C.D 64 bc), (a0_pad, aB C.D 64 rc), (a1, .inr (4, [.ref a1_bytes, .int (nI v_a1_count)])), (a1_bytes, aB C.D n1 t_a1_bytes)] (by decide) rfl rfl ?_
    show VJ C 0 0 42 [(2, .int (nI v_a1_count)), (0, .ref a0), (1, .ref a1)] [] [(a0, .inr (2, [.ref a0_digester, .ref a0_pad, .ref a0_inner, .ref a0_part, .ref a0_partNumber, .ref a0_labelInfo])), (a0_digester, .inr (0, [.ref a0_digester_sums, .ref a0_digester_words, .ref a0_digester_pending, .int (nI fc), .long (lN (0 + v_a1_count))])), (a0_digester_sums, aW C.D 8 sc), (a0_digester_words, aW C.D 64 wc), (a0_digester_pending, aB C.D 64 bc), (a0_pad, aB C.D 64 rc), (a1, .inr (4, [.ref a1_bytes, .int (nI v_a1_count)])), (a1_bytes, aB C.D n1 t_a1_bytes)]
    refine v_bipush g dX2_setKey_42 (v := nI 32) (by decide +kernel) ?_
    refine v_istore_n g [(2, .int (nI 32)), (0, .ref a0), (1, .ref a1)] dX2_setKey_44 2 rfl (by decide) rfl ?_
    refine v_goto g 62 dX2_setKey_45 (by decide) ?_
    exact J62 fc (0 + v_a1_count) sc wc bc rc 32 (by omega) (fun j hj => by rw [hc j hj, Nat.zero_add]; exact pad_hi (by omega) hj) (pad_z2 (by omega))
set_option maxHeartbeats 4000000 in
set_option maxRecDepth 100000 in
theorem c_KM_startMac (l : Launch) (D : va_G) (a0 : Nat) (a0_digester : Nat) (a0_pad : Nat) (a0_inner : Nat) (a0_part : Nat) (a0_partNumber : Nat) (a0_labelInfo : Nat) (a0_digester_sums : Nat) (a0_digester_words : Nat) (a0_digester_pending : Nat) (v_a0_digester_filled : Nat) (v_a0_digester_total : Nat) (t_a0_digester_sums : Nat → Wd) (t_a0_digester_words : Nat → Wd) (t_a0_digester_pending : Nat → By) (t_a0_pad : Nat → By)   : vM l D yX2_startMac cX2_startMac 1 none { frames := 3, cells := 0, slots := 0, locals := 76 } [.ref a0] [(a0, .inr (2, [.ref a0_digester, .ref a0_pad, .ref a0_inner, .ref a0_part, .ref a0_partNumber, .ref a0_labelInfo])), (a0_digester, .inr (0, [.ref a0_digester_sums, .ref a0_digester_words, .ref a0_digester_pending, .int (nI v_a0_digester_filled), .long (lN v_a0_digester_total)])), (a0_digester_sums, aW D 8 t_a0_digester_sums), (a0_digester_words, aW D 64 t_a0_digester_words), (a0_digester_pending, aB D 64 t_a0_digester_pending), (a0_pad, aB D 64 t_a0_pad)] (fun r wo => ∃ (s1 : Nat → Wd) (w1 : Nat → Wd) (b1 : Nat → By), r = none ∧ wo = [(a0, .inr (2, [.ref a0_digester, .ref a0_pad, .ref a0_inner, .ref a0_part, .ref a0_partNumber, .ref a0_labelInfo])), (a0_digester, .inr (0, [.ref a0_digester_sums, .ref a0_digester_words, .ref a0_digester_pending, .int (nI 0), .long (lN 64)])), (a0_digester_sums, aW D 8 s1), (a0_digester_words, aW D 64 w1), (a0_digester_pending, aB D 64 b1), (a0_pad, aB D 64 t_a0_pad)] ∧ (dgR (fun j => t_a0_pad j ^^^ 54#8) 64 s1 b1)) := by
  refine vM.of (by decide) (Nat.le_of_ble_eq_true rfl) (fun C hCl hCD g R => ?_)
  subst hCl; subst hCD
  show VJ C 0 0 0 [(0, .ref a0)] [] [(a0, .inr (2, [.ref a0_digester, .ref a0_pad, .ref a0_inner, .ref a0_part, .ref a0_partNumber, .ref a0_labelInfo])), (a0_digester, .inr (0, [.ref a0_digester_sums, .ref a0_digester_words, .ref a0_digester_pending, .int (nI v_a0_digester_filled), .long (lN v_a0_digester_total)])), (a0_digester_sums, aW C.D 8 t_a0_digester_sums), (a0_digester_words, aW C.D 64 t_a0_digester_words), (a0_digester_pending, aB C.D 64 t_a0_digester_pending), (a0_pad, aB C.D 64 t_a0_pad)]
  refine v_aload_n g dX2_startMac_0 0 rfl 0 rfl ?_
  refine gf_X2_35 g dX2_startMac_1 0 rfl rfl ?_
  refine v_callV (As := []) (rest := []) (wr := [(a0, .inr (2, [.ref a0_digester, .ref a0_pad, .ref a0_inner, .ref a0_part, .ref a0_partNumber, .ref a0_labelInfo])), (a0_digester_words, aW C.D 64 t_a0_digester_words), (a0_digester_pending, aB C.D 64 t_a0_digester_pending), (a0_pad, aB C.D 64 t_a0_pad)]) cw_X2_94 (hy_X0_start) g (c_DG_start C.l C.D a0_digester a0_digester_sums a0_digester_words a0_digester_pending v_a0_digester_filled v_a0_digester_total t_a0_digester_sums ) dX2_startMac_4 1 rfl rfl rfl (by decide) (by decide) (Nat.le_of_ble_eq_true rfl) [1, 2] [0, 3, 4, 5] rfl rfl (by decide) rfl (by decide) (by decide) _ rfl (fun r wo hp1 => ?_)
  obtain ⟨sa, rfl, rfl, ha⟩ := hp1
  refine v_perm [0, 4, 5, 1, 2, 3] [(a0, .inr (2, [.ref a0_digester, .ref a0_pad, .ref a0_inner, .ref a0_part, .ref a0_partNumber, .ref a0_labelInfo])), (a0_digester, .inr (0, [.ref a0_digester_sums, .ref a0_digester_words, .ref a0_digester_pending, .int (nI 0), .long (lN 0)])), (a0_digester_sums, aW C.D 8 sa), (a0_digester_words, aW C.D 64 t_a0_digester_words), (a0_digester_pending, aB C.D 64 t_a0_digester_pending), (a0_pad, aB C.D 64 t_a0_pad)] (by decide) rfl rfl ?_
  show VJ C 0 0 7 [(0, .ref a0)] [] [(a0, .inr (2, [.ref a0_digester, .ref a0_pad, .ref a0_inner, .ref a0_part, .ref a0_partNumber, .ref a0_labelInfo])), (a0_digester, .inr (0, [.ref a0_digester_sums, .ref a0_digester_words, .ref a0_digester_pending, .int (nI 0), .long (lN 0)])), (a0_digester_sums, aW C.D 8 sa), (a0_digester_words, aW C.D 64 t_a0_digester_words), (a0_digester_pending, aB C.D 64 t_a0_digester_pending), (a0_pad, aB C.D 64 t_a0_pad)]
  refine v_aload_n g dX2_startMac_7 0 rfl 0 rfl ?_
  refine gf_X2_35 g dX2_startMac_8 0 rfl rfl ?_
  refine v_aload_n g dX2_startMac_11 0 rfl 0 rfl ?_
  refine gf_X2_11 g dX2_startMac_12 0 rfl rfl ?_
  refine v_bipush g dX2_startMac_15 (v := nI 64) (by decide +kernel) ?_
  refine v_bipush g dX2_startMac_17 (v := nI 54) (by decide +kernel) ?_
  refine v_callV (As := [.ref a0_pad, .int (nI 64), .int (nI 54)]) (rest := []) (wr := [(a0, .inr (2, [.ref a0_digester, .ref a0_pad, .ref a0_inner, .ref a0_part, .ref a0_partNumber, .ref a0_labelInfo]))]) cw_X2_53 (hy_X0_put) g (c_DG_put C.l C.D a0_digester a0_pad 64 54#32 a0_digester_sums a0_digester_words a0_digester_pending 0 0 sa t_a0_digester_words t_a0_digester_pending 64 t_a0_pad (fun _ => 0#8) 0 rfl rfl (dgR_0 _ _ _ ha) (by omega) (by omega)) dX2_startMac_19 1 rfl rfl rfl (by decide) (by decide) (Nat.le_of_ble_eq_true rfl) [1, 2, 3, 4, 5] [0] rfl rfl (by decide) rfl (by decide) (by decide) _ rfl (fun r wo hp2 => ?_)
  obtain ⟨sb, wb, bb, rfl, rfl, hb⟩ := hp2
  show VJ C 0 0 22 [(0, .ref a0)] [] [(a0, .inr (2, [.ref a0_digester, .ref a0_pad, .ref a0_inner, .ref a0_part, .ref a0_partNumber, .ref a0_labelInfo])), (a0_digester, .inr (0, [.ref a0_digester_sums, .ref a0_digester_words, .ref a0_digester_pending, .int (nI ((0 + 64) % 64)), .long (lN (0 + 64))])), (a0_digester_sums, aW C.D 8 sb), (a0_digester_words, aW C.D 64 wb), (a0_digester_pending, aB C.D 64 bb), (a0_pad, aB C.D 64 t_a0_pad)]
  exact v_ret g R dX2_startMac_22 (by decide) (by decide) ⟨sb, wb, bb, rfl, rfl, (dgR_c0 hb)⟩
set_option maxHeartbeats 4000000 in
set_option maxRecDepth 100000 in
theorem c_KM_finishMac (l : Launch) (D : va_G) (a0 : Nat) (a1 : Nat) (a0_digester : Nat) (a0_pad : Nat) (a0_inner : Nat) (a0_part : Nat) (a0_partNumber : Nat) (a0_labelInfo : Nat) (a0_digester_sums : Nat) (a0_digester_words : Nat) (a0_digester_pending : Nat) (v_a0_digester_filled : Nat) (v_a0_digester_total : Nat) (t_a0_digester_sums : Nat → Wd) (t_a0_digester_words : Nat → Wd) (t_a0_digester_pending : Nat → By) (t_a0_pad : Nat → By) (t_a0_inner : Nat → By) (n1 : Nat) (t_a1 : Nat → By) (m : Nat → By) (len : Nat) (hf : v_a0_digester_filled = len % 64) (ht : v_a0_digester_total = len) (hR : dgR m len t_a0_digester_sums t_a0_digester_pending) (hl : len < 2 ^ 60) (h2 : 32 ≤ n1) (hn : n1 < 2 ^ 31) : vM l D yX2_finishMac cX2_finishMac 2 none { frames := 3, cells := 0, slots := 0, locals := 76 } [.ref a0, .ref a1] [(a0, .inr (2, [.ref a0_digester, .ref a0_pad, .ref a0_inner, .ref a0_part, .ref a0_partNumber, .ref a0_labelInfo])), (a0_digester, .inr (0, [.ref a0_digester_sums, .ref a0_digester_words, .ref a0_digester_pending, .int (nI v_a0_digester_filled), .long (lN v_a0_digester_total)])), (a0_digester_sums, aW D 8 t_a0_digester_sums), (a0_digester_words, aW D 64 t_a0_digester_words), (a0_digester_pending, aB D 64 t_a0_digester_pending), (a0_pad, aB D 64 t_a0_pad), (a0_inner, aB D 32 t_a0_inner), (a1, aB D n1 t_a1)] (fun r wo => ∃ (f1 : Nat) (l1 : Nat) (s1 : Nat → Wd) (w1 : Nat → Wd) (b1 : Nat → By) (i1 : Nat → By) (r1 : Nat → By), r = none ∧ wo = [(a0, .inr (2, [.ref a0_digester, .ref a0_pad, .ref a0_inner, .ref a0_part, .ref a0_partNumber, .ref a0_labelInfo])), (a0_digester, .inr (0, [.ref a0_digester_sums, .ref a0_digester_words, .ref a0_digester_pending, .int (nI f1), .long (lN l1)])), (a0_digester_sums, aW D 8 s1), (a0_digester_words, aW D 64 w1), (a0_digester_pending, aB D 64 b1), (a0_pad, aB D 64 t_a0_pad), (a0_inner, aB D 32 i1), (a1, aB D n1 r1)] ∧ (∀ j, j < 32 → r1 j = digF (cat (fun j => t_a0_pad j ^^^ 92#8) 64 (digF m len)) 96 j) ∧ (∀ j, 32 ≤ j → r1 j = t_a1 j)) := by
  refine vM.of (by decide) (Nat.le_of_ble_eq_true rfl) (fun C hCl hCD g R => ?_)
  subst hCl; subst hCD
  show VJ C 0 0 0 [(0, .ref a0), (1, .ref a1)] [] [(a0, .inr (2, [.ref a0_digester, .ref a0_pad, .ref a0_inner, .ref a0_part, .ref a0_partNumber, .ref a0_labelInfo])), (a0_digester, .inr (0, [.ref a0_digester_sums, .ref a0_digester_words, .ref a0_digester_pending, .int (nI v_a0_digester_filled), .long (lN v_a0_digester_total)])), (a0_digester_sums, aW C.D 8 t_a0_digester_sums), (a0_digester_words, aW C.D 64 t_a0_digester_words), (a0_digester_pending, aB C.D 64 t_a0_digester_pending), (a0_pad, aB C.D 64 t_a0_pad), (a0_inner, aB C.D 32 t_a0_inner), (a1, aB C.D n1 t_a1)]
  refine v_aload_n g dX2_finishMac_0 0 rfl 0 rfl ?_
  refine gf_X2_35 g dX2_finishMac_1 0 rfl rfl ?_
  refine v_aload_n g dX2_finishMac_4 0 rfl 0 rfl ?_
  refine gf_X2_17 g dX2_finishMac_5 0 rfl rfl ?_
  refine v_callV (As := [.ref a0_inner]) (rest := []) (wr := [(a0, .inr (2, [.ref a0_digester, .ref a0_pad, .ref a0_inner, .ref a0_part, .ref a0_partNumber, .ref a0_labelInfo])), (a0_pad, aB C.D 64 t_a0_pad), (a1, aB C.D n1 t_a1)]) cw_X2_97 (hy_X0_finish) g (c_DG_fin C.l C.D a0_digester a0_inner a0_digester_sums a0_digester_words a0_digester_pending v_a0_digester_filled v_a0_digester_total t_a0_digester_sums t_a0_digester_words t_a0_digester_pending 32 t_a0_inner m len hf ht hR hl (by omega) (by omega)) dX2_finishMac_8 1 rfl rfl rfl (by decide) (by decide) (Nat.le_of_ble_eq_true rfl) [1, 2, 3, 4, 6] [0, 5, 7] rfl rfl (by decide) rfl (by decide) (by decide) _ rfl (fun r wo hp1 => ?_)
  obtain ⟨fa, sa, wa, ba, ra, rfl, rfl, ha, ha2⟩ := hp1
  refine v_perm [0, 3, 4, 5, 6, 1, 7, 2] [(a0, .inr (2, [.ref a0_digester, .ref a0_pad, .ref a0_inner, .ref a0_part, .ref a0_partNumber, .ref a0_labelInfo])), (a0_digester, .inr (0, [.ref a0_digester_sums, .ref a0_digester_words, .ref a0_digester_pending, .int (nI fa), .long (lN v_a0_digester_total)])), (a0_digester_sums, aW C.D 8 sa), (a0_digester_words, aW C.D 64 wa), (a0_digester_pending, aB C.D 64 ba), (a0_pad, aB C.D 64 t_a0_pad), (a0_inner, aB C.D 32 ra), (a1, aB C.D n1 t_a1)] (by decide) rfl rfl ?_
  show VJ C 0 0 11 [(0, .ref a0), (1, .ref a1)] [] [(a0, .inr (2, [.ref a0_digester, .ref a0_pad, .ref a0_inner, .ref a0_part, .ref a0_partNumber, .ref a0_labelInfo])), (a0_digester, .inr (0, [.ref a0_digester_sums, .ref a0_digester_words, .ref a0_digester_pending, .int (nI fa), .long (lN v_a0_digester_total)])), (a0_digester_sums, aW C.D 8 sa), (a0_digester_words, aW C.D 64 wa), (a0_digester_pending, aB C.D 64 ba), (a0_pad, aB C.D 64 t_a0_pad), (a0_inner, aB C.D 32 ra), (a1, aB C.D n1 t_a1)]
  refine v_aload_n g dX2_finishMac_11 0 rfl 0 rfl ?_
  refine gf_X2_35 g dX2_finishMac_12 0 rfl rfl ?_
  refine v_callV (As := []) (rest := []) (wr := [(a0, .inr (2, [.ref a0_digester, .ref a0_pad, .ref a0_inner, .ref a0_part, .ref a0_partNumber, .ref a0_labelInfo])), (a0_digester_words, aW C.D 64 wa), (a0_digester_pending, aB C.D 64 ba), (a0_pad, aB C.D 64 t_a0_pad), (a0_inner, aB C.D 32 ra), (a1, aB C.D n1 t_a1)]) cw_X2_94 (hy_X0_start) g (c_DG_start C.l C.D a0_digester a0_digester_sums a0_digester_words a0_digester_pending fa v_a0_digester_total sa ) dX2_finishMac_15 1 rfl rfl rfl (by decide) (by decide) (Nat.le_of_ble_eq_true rfl) [1, 2] [0, 3, 4, 5, 6, 7] rfl rfl (by decide) rfl (by decide) (by decide) _ rfl (fun r wo hp2 => ?_)
  obtain ⟨sb, rfl, rfl, hb⟩ := hp2
  refine v_perm [0, 6, 7, 1, 2, 3, 4, 5] [(a0, .inr (2, [.ref a0_digester, .ref a0_pad, .ref a0_inner, .ref a0_part, .ref a0_partNumber, .ref a0_labelInfo])), (a0_digester, .inr (0, [.ref a0_digester_sums, .ref a0_digester_words, .ref a0_digester_pending, .int (nI 0), .long (lN 0)])), (a0_digester_sums, aW C.D 8 sb), (a0_digester_words, aW C.D 64 wa), (a0_digester_pending, aB C.D 64 ba), (a0_pad, aB C.D 64 t_a0_pad), (a0_inner, aB C.D 32 ra), (a1, aB C.D n1 t_a1)] (by decide) rfl rfl ?_
  show VJ C 0 0 18 [(0, .ref a0), (1, .ref a1)] [] [(a0, .inr (2, [.ref a0_digester, .ref a0_pad, .ref a0_inner, .ref a0_part, .ref a0_partNumber, .ref a0_labelInfo])), (a0_digester, .inr (0, [.ref a0_digester_sums, .ref a0_digester_words, .ref a0_digester_pending, .int (nI 0), .long (lN 0)])), (a0_digester_sums, aW C.D 8 sb), (a0_digester_words, aW C.D 64 wa), (a0_digester_pending, aB C.D 64 ba), (a0_pad, aB C.D 64 t_a0_pad), (a0_inner, aB C.D 32 ra), (a1, aB C.D n1 t_a1)]
  refine v_aload_n g dX2_finishMac_18 0 rfl 0 rfl ?_
  refine gf_X2_35 g dX2_finishMac_19 0 rfl rfl ?_
  refine v_aload_n g dX2_finishMac_22 0 rfl 0 rfl ?_
  refine gf_X2_11 g dX2_finishMac_23 0 rfl rfl ?_
  refine v_bipush g dX2_finishMac_26 (v := nI 64) (by decide +kernel) ?_
  refine v_bipush g dX2_finishMac_28 (v := nI 92) (by decide +kernel) ?_
  refine v_callV (As := [.ref a0_pad, .int (nI 64), .int (nI 92)]) (rest := []) (wr := [(a0, .inr (2, [.ref a0_digester, .ref a0_pad, .ref a0_inner, .ref a0_part, .ref a0_partNumber, .ref a0_labelInfo])), (a0_inner, aB C.D 32 ra), (a1, aB C.D n1 t_a1)]) cw_X2_53 (hy_X0_put) g (c_DG_put C.l C.D a0_digester a0_pad 64 92#32 a0_digester_sums a0_digester_words a0_digester_pending 0 0 sb wa ba 64 t_a0_pad (fun _ => 0#8) 0 rfl rfl (dgR_0 _ _ _ hb) (by omega) (by omega)) dX2_finishMac_30 1 rfl rfl rfl (by decide) (by decide) (Nat.le_of_ble_eq_true rfl) [1, 2, 3, 4, 5] [0, 6, 7] rfl rfl (by decide) rfl (by decide) (by decide) _ rfl (fun r wo hp3 => ?_)
  obtain ⟨sc, wc, bc, rfl, rfl, hc⟩ := hp3
  refine v_perm [0, 3, 4, 5, 6, 7, 1, 2] [(a0, .inr (2, [.ref a0_digester, .ref a0_pad, .ref a0_inner, .ref a0_part, .ref a0_partNumber, .ref a0_labelInfo])), (a0_digester, .inr (0, [.ref a0_digester_sums, .ref a0_digester_words, .ref a0_digester_pending, .int (nI ((0 + 64) % 64)), .long (lN (0 + 64))])), (a0_digester_sums, aW C.D 8 sc), (a0_digester_words, aW C.D 64 wc), (a0_digester_pending, aB C.D 64 bc), (a0_pad, aB C.D 64 t_a0_pad), (a0_inner, aB C.D 32 ra), (a1, aB C.D n1 t_a1)] (by decide) rfl rfl ?_
  show VJ C 0 0 33 [(0, .ref a0), (1, .ref a1)] [] [(a0, .inr (2, [.ref a0_digester, .ref a0_pad, .ref a0_inner, .ref a0_part, .ref a0_partNumber, .ref a0_labelInfo])), (a0_digester, .inr (0, [.ref a0_digester_sums, .ref a0_digester_words, .ref a0_digester_pending, .int (nI ((0 + 64) % 64)), .long (lN (0 + 64))])), (a0_digester_sums, aW C.D 8 sc), (a0_digester_words, aW C.D 64 wc), (a0_digester_pending, aB C.D 64 bc), (a0_pad, aB C.D 64 t_a0_pad), (a0_inner, aB C.D 32 ra), (a1, aB C.D n1 t_a1)]
  have hc2 : dgR (fun j => t_a0_pad j ^^^ 92#8) 64 sc bc := dgR_c0 hc
  refine v_aload_n g dX2_finishMac_33 0 rfl 0 rfl ?_
  refine gf_X2_35 g dX2_finishMac_34 0 rfl rfl ?_
  refine v_aload_n g dX2_finishMac_37 0 rfl 0 rfl ?_
  refine gf_X2_17 g dX2_finishMac_38 0 rfl rfl ?_
  refine v_bipush g dX2_finishMac_41 (v := nI 32) (by decide +kernel) ?_
  refine v_iconst g dX2_finishMac_43 (v := nI 0) (by decide +kernel) ?_
  refine v_callV (As := [.ref a0_inner, .int (nI 32), .int (nI 0)]) (rest := []) (wr := [(a0, .inr (2, [.ref a0_digester, .ref a0_pad, .ref a0_inner, .ref a0_part, .ref a0_partNumber, .ref a0_labelInfo])), (a0_pad, aB C.D 64 t_a0_pad), (a1, aB C.D n1 t_a1)]) cw_X2_53 (hy_X0_put) g (c_DG_put C.l C.D a0_digester a0_inner 32 0#32 a0_digester_sums a0_digester_words a0_digester_pending ((0 + 64) % 64) (0 + 64) sc wc bc 32 ra (fun j => t_a0_pad j ^^^ 92#8) 64 rfl rfl hc2 (by omega) (by omega)) dX2_finishMac_44 1 rfl rfl rfl (by decide) (by decide) (Nat.le_of_ble_eq_true rfl) [1, 2, 3, 4, 6] [0, 5, 7] rfl rfl (by decide) rfl (by decide) (by decide) _ rfl (fun r wo hp4 => ?_)
  obtain ⟨sd, wd, bd, rfl, rfl, hd⟩ := hp4
  refine v_perm [0, 3, 4, 5, 6, 1, 7, 2] [(a0, .inr (2, [.ref a0_digester, .ref a0_pad, .ref a0_inner, .ref a0_part, .ref a0_partNumber, .ref a0_labelInfo])), (a0_digester, .inr (0, [.ref a0_digester_sums, .ref a0_digester_words, .ref a0_digester_pending, .int (nI ((64 + 32) % 64)), .long (lN (64 + 32))])), (a0_digester_sums, aW C.D 8 sd), (a0_digester_words, aW C.D 64 wd), (a0_digester_pending, aB C.D 64 bd), (a0_pad, aB C.D 64 t_a0_pad), (a0_inner, aB C.D 32 ra), (a1, aB C.D n1 t_a1)] (by decide) rfl rfl ?_
  show VJ C 0 0 47 [(0, .ref a0), (1, .ref a1)] [] [(a0, .inr (2, [.ref a0_digester, .ref a0_pad, .ref a0_inner, .ref a0_part, .ref a0_partNumber, .ref a0_labelInfo])), (a0_digester, .inr (0, [.ref a0_digester_sums, .ref a0_digester_words, .ref a0_digester_pending, .int (nI ((64 + 32) % 64)), .long (lN (64 + 32))])), (a0_digester_sums, aW C.D 8 sd), (a0_digester_words, aW C.D 64 wd), (a0_digester_pending, aB C.D 64 bd), (a0_pad, aB C.D 64 t_a0_pad), (a0_inner, aB C.D 32 ra), (a1, aB C.D n1 t_a1)]
  have hd2 : dgR (cat (fun j => t_a0_pad j ^^^ 92#8) 64 (digF m len)) 96 sd bd := dgR_congr (cat_congr (a := 64) (b := 32) (fun _ _ => rfl) ha) (dgR_x0 hd)
  refine v_aload_n g dX2_finishMac_47 0 rfl 0 rfl ?_
  refine gf_X2_35 g dX2_finishMac_48 0 rfl rfl ?_
  refine v_aload_n g dX2_finishMac_51 1 rfl 1 rfl ?_
  refine v_callV (As := [.ref a1]) (rest := []) (wr := [(a0, .inr (2, [.ref a0_digester, .ref a0_pad, .ref a0_inner, .ref a0_part, .ref a0_partNumber, .ref a0_labelInfo])), (a0_pad, aB C.D 64 t_a0_pad), (a0_inner, aB C.D 32 ra)]) cw_X2_97 (hy_X0_finish) g (c_DG_fin C.l C.D a0_digester a1 a0_digester_sums a0_digester_words a0_digester_pending ((64 + 32) % 64) (64 + 32) sd wd bd n1 t_a1 (cat (fun j => t_a0_pad j ^^^ 92#8) 64 (digF m len)) 96 rfl rfl hd2 (by omega) (by omega) (by omega)) dX2_finishMac_52 1 rfl rfl rfl (by decide) (by decide) (Nat.le_of_ble_eq_true rfl) [1, 2, 3, 4, 7] [0, 5, 6] rfl rfl (by decide) rfl (by decide) (by decide) _ rfl (fun r wo hp5 => ?_)
  obtain ⟨fe, se, we, be, re, rfl, rfl, he, he2⟩ := hp5
  refine v_perm [0, 3, 4, 5, 6, 1, 2, 7] [(a0, .inr (2, [.ref a0_digester, .ref a0_pad, .ref a0_inner, .ref a0_part, .ref a0_partNumber, .ref a0_labelInfo])), (a0_digester, .inr (0, [.ref a0_digester_sums, .ref a0_digester_words, .ref a0_digester_pending, .int (nI fe), .long (lN (64 + 32))])), (a0_digester_sums, aW C.D 8 se), (a0_digester_words, aW C.D 64 we), (a0_digester_pending, aB C.D 64 be), (a0_pad, aB C.D 64 t_a0_pad), (a0_inner, aB C.D 32 ra), (a1, aB C.D n1 re)] (by decide) rfl rfl ?_
  show VJ C 0 0 55 [(0, .ref a0), (1, .ref a1)] [] [(a0, .inr (2, [.ref a0_digester, .ref a0_pad, .ref a0_inner, .ref a0_part, .ref a0_partNumber, .ref a0_labelInfo])), (a0_digester, .inr (0, [.ref a0_digester_sums, .ref a0_digester_words, .ref a0_digester_pending, .int (nI fe), .long (lN (64 + 32))])), (a0_digester_sums, aW C.D 8 se), (a0_digester_words, aW C.D 64 we), (a0_digester_pending, aB C.D 64 be), (a0_pad, aB C.D 64 t_a0_pad), (a0_inner, aB C.D 32 ra), (a1, aB C.D n1 re)]
  exact v_ret g R dX2_finishMac_55 (by decide) (by decide) ⟨fe, _, se, we, be, ra, re, rfl, rfl, he, he2⟩
set_option maxHeartbeats 4000000 in
set_option maxRecDepth 100000 in
theorem c_KM_makeMac (l : Launch) (D : va_G) (a0 : Nat) (a1 : Nat) (a2 : Nat) (a3 : Nat) (a0_digester : Nat) (a0_pad : Nat) (a0_inner : Nat) (a0_part : Nat) (a0_partNumber : Nat) (a0_labelInfo : Nat) (a0_digester_sums : Nat) (a0_digester_words : Nat) (a0_digester_pending : Nat) (v_a0_digester_filled : Nat) (v_a0_digester_total : Nat) (t_a0_digester_sums : Nat → Wd) (t_a0_digester_words : Nat → Wd) (t_a0_digester_pending : Nat → By) (t_a0_pad : Nat → By) (t_a0_inner : Nat → By) (a1_bytes : Nat) (v_a1_count : Nat) (n1 : Nat) (t_a1_bytes : Nat → By) (a2_bytes : Nat) (v_a2_count : Nat) (n2 : Nat) (t_a2_bytes : Nat → By) (a3_bytes : Nat) (v_a3_count : Nat) (n3 : Nat) (t_a3_bytes : Nat → By)  (h1 : v_a1_count ≤ n1) (h2 : v_a2_count ≤ n2) (h3 : 32 ≤ n3) (g1 : n1 < 2 ^ 31) (g2 : n2 < 2 ^ 31) (g3 : n3 < 2 ^ 31) : vM l D yX2_makeMac cX2_makeMac 4 none { frames := 4, cells := 0, slots := 0, locals := 99 } [.ref a0, .ref a1, .ref a2, .ref a3] [(a0, .inr (2, [.ref a0_digester, .ref a0_pad, .ref a0_inner, .ref a0_part, .ref a0_partNumber, .ref a0_labelInfo])), (a0_digester, .inr (0, [.ref a0_digester_sums, .ref a0_digester_words, .ref a0_digester_pending, .int (nI v_a0_digester_filled), .long (lN v_a0_digester_total)])), (a0_digester_sums, aW D 8 t_a0_digester_sums), (a0_digester_words, aW D 64 t_a0_digester_words), (a0_digester_pending, aB D 64 t_a0_digester_pending), (a0_pad, aB D 64 t_a0_pad), (a0_inner, aB D 32 t_a0_inner), (a1, .inr (4, [.ref a1_bytes, .int (nI v_a1_count)])), (a1_bytes, aB D n1 t_a1_bytes), (a2, .inr (4, [.ref a2_bytes, .int (nI v_a2_count)])), (a2_bytes, aB D n2 t_a2_bytes), (a3, .inr (4, [.ref a3_bytes, .int (nI v_a3_count)])), (a3_bytes, aB D n3 t_a3_bytes)] (fun r wo => ∃ (f1 : Nat) (l1 : Nat) (s1 : Nat → Wd) (w1 : Nat → Wd) (b1 : Nat → By) (k1 : Nat → By) (i1 : Nat → By) (r1 : Nat → By), r = none ∧ wo = [(a0, .inr (2, [.ref a0_digester, .ref a0_pad, .ref a0_inner, .ref a0_part, .ref a0_partNumber, .ref a0_labelInfo])), (a0_digester, .inr (0, [.ref a0_digester_sums, .ref a0_digester_words, .ref a0_digester_pending, .int (nI f1), .long (lN l1)])), (a0_digester_sums, aW D 8 s1), (a0_digester_words, aW D 64 w1), (a0_digester_pending, aB D 64 b1), (a0_pad, aB D 64 k1), (a0_inner, aB D 32 i1), (a1, .inr (4, [.ref a1_bytes, .int (nI v_a1_count)])), (a1_bytes, aB D n1 t_a1_bytes), (a2, .inr (4, [.ref a2_bytes, .int (nI v_a2_count)])), (a2_bytes, aB D n2 t_a2_bytes), (a3, .inr (4, [.ref a3_bytes, .int (nI 32)])), (a3_bytes, aB D n3 r1)] ∧ (∀ j, j < 32 → r1 j = macF t_a1_bytes v_a1_count t_a2_bytes v_a2_count j)) := by
  refine vM.of (by decide) (Nat.le_of_ble_eq_true rfl) (fun C hCl hCD g R => ?_)
  subst hCl; subst hCD
  show VJ C 0 0 0 [(0, .ref a0), (1, .ref a1), (2, .ref a2), (3, .ref a3)] [] [(a0, .inr (2, [.ref a0_digester, .ref a0_pad, .ref a0_inner, .ref a0_part, .ref a0_partNumber, .ref a0_labelInfo])), (a0_digester, .inr (0, [.ref a0_digester_sums, .ref a0_digester_words, .ref a0_digester_pending, .int (nI v_a0_digester_filled), .long (lN v_a0_digester_total)])), (a0_digester_sums, aW C.D 8 t_a0_digester_sums), (a0_digester_words, aW C.D 64 t_a0_digester_words), (a0_digester_pending, aB C.D 64 t_a0_digester_pending), (a0_pad, aB C.D 64 t_a0_pad), (a0_inner, aB C.D 32 t_a0_inner), (a1, .inr (4, [.ref a1_bytes, .int (nI v_a1_count)])), (a1_bytes, aB C.D n1 t_a1_bytes), (a2, .inr (4, [.ref a2_bytes, .int (nI v_a2_count)])), (a2_bytes, aB C.D n2 t_a2_bytes), (a3, .inr (4, [.ref a3_bytes, .int (nI v_a3_count)])), (a3_bytes, aB C.D n3 t_a3_bytes)]
  refine v_aload_n g dX2_makeMac_0 0 rfl 0 rfl ?_
  refine v_aload_n g dX2_makeMac_1 1 rfl 1 rfl ?_
  refine v_callV (As := [.ref a1]) (rest := []) (wr := [(a0_inner, aB C.D 32 t_a0_inner), (a2, .inr (4, [.ref a2_bytes, .int (nI v_a2_count)])), (a2_bytes, aB C.D n2 t_a2_bytes), (a3, .inr (4, [.ref a3_bytes, .int (nI v_a3_count)])), (a3_bytes, aB C.D n3 t_a3_bytes)]) cw_X2_39 (hy_X2_setKey) g (c_KM_setKey C.l C.D a0 a1 a0_digester a0_pad a0_inner a0_part a0_partNumber a0_labelInfo a0_digester_sums a0_digester_words a0_digester_pending v_a0_digester_filled v_a0_digester_total t_a0_digester_sums t_a0_digester_words t_a0_digester_pending t_a0_pad a1_bytes v_a1_count n1 t_a1_bytes (by omega) (by omega)) dX2_makeMac_2 0 rfl rfl rfl (by decide) (by decide) (Nat.le_of_ble_eq_true rfl) [0, 1, 2, 3, 4, 5, 7, 8] [6, 9, 10, 11, 12] rfl rfl (by decide) rfl (by decide) (by decide) _ rfl (fun r wo hp1 => ?_)
  obtain ⟨fa, la, sa, wa, ba, ka, rfl, rfl, ha⟩ := hp1
  refine v_perm [5, 6, 7, 8, 9, 10, 0, 11, 12, 1, 2, 3, 4] [(a0, .inr (2, [.ref a0_digester, .ref a0_pad, .ref a0_inner, .ref a0_part, .ref a0_partNumber, .ref a0_labelInfo])), (a0_digester, .inr (0, [.ref a0_digester_sums, .ref a0_digester_words, .ref a0_digester_pending, .int (nI fa), .long (lN la)])), (a0_digester_sums, aW C.D 8 sa), (a0_digester_words, aW C.D 64 wa), (a0_digester_pending, aB C.D 64 ba), (a0_pad, aB C.D 64 ka), (a0_inner, aB C.D 32 t_a0_inner), (a1, .inr (4, [.ref a1_bytes, .int (nI v_a1_count)])), (a1_bytes, aB C.D n1 t_a1_bytes), (a2, .inr (4, [.ref a2_bytes, .int (nI v_a2_count)])), (a2_bytes, aB C.D n2 t_a2_bytes), (a3, .inr (4, [.ref a3_bytes, .int (nI v_a3_count)])), (a3_bytes, aB C.D n3 t_a3_bytes)] (by decide) rfl rfl ?_
  show VJ C 0 0 5 [(0, .ref a0), (1, .ref a1), (2, .ref a2), (3, .ref a3)] [] [(a0, .inr (2, [.ref a0_digester, .ref a0_pad, .ref a0_inner, .ref a0_part, .ref a0_partNumber, .ref a0_labelInfo])), (a0_digester, .inr (0, [.ref a0_digester_sums, .ref a0_digester_words, .ref a0_digester_pending, .int (nI fa), .long (lN la)])), (a0_digester_sums, aW C.D 8 sa), (a0_digester_words, aW C.D 64 wa), (a0_digester_pending, aB C.D 64 ba), (a0_pad, aB C.D 64 ka), (a0_inner, aB C.D 32 t_a0_inner), (a1, .inr (4, [.ref a1_bytes, .int (nI v_a1_count)])), (a1_bytes, aB C.D n1 t_a1_bytes), (a2, .inr (4, [.ref a2_bytes, .int (nI v_a2_count)])), (a2_bytes, aB C.D n2 t_a2_bytes), (a3, .inr (4, [.ref a3_bytes, .int (nI v_a3_count)])), (a3_bytes, aB C.D n3 t_a3_bytes)]
  refine v_aload_n g dX2_makeMac_5 0 rfl 0 rfl ?_
  refine v_callV (As := []) (rest := []) (wr := [(a0_inner, aB C.D 32 t_a0_inner), (a1, .inr (4, [.ref a1_bytes, .int (nI v_a1_count)])), (a1_bytes, aB C.D n1 t_a1_bytes), (a2, .inr (4, [.ref a2_bytes, .int (nI v_a2_count)])), (a2_bytes, aB C.D n2 t_a2_bytes), (a3, .inr (4, [.ref a3_bytes, .int (nI v_a3_count)])), (a3_bytes, aB C.D n3 t_a3_bytes)]) cw_X2_43 (hy_X2_startMac) g (c_KM_startMac C.l C.D a0 a0_digester a0_pad a0_inner a0_part a0_partNumber a0_labelInfo a0_digester_sums a0_digester_words a0_digester_pending fa la sa wa ba ka ) dX2_makeMac_6 0 rfl rfl rfl (by decide) (by decide) (Nat.le_of_ble_eq_true rfl) [0, 1, 2, 3, 4, 5] [6, 7, 8, 9, 10, 11, 12] rfl rfl (by decide) rfl (by decide) (by decide) _ rfl (fun r wo hp2 => ?_)
  obtain ⟨sb, wb_, bb, rfl, rfl, hb⟩ := hp2
  refine v_perm [7, 8, 9, 10, 11, 12, 0, 1, 2, 3, 4, 5, 6] [(a0, .inr (2, [.ref a0_digester, .ref a0_pad, .ref a0_inner, .ref a0_part, .ref a0_partNumber, .ref a0_labelInfo])), (a0_digester, .inr (0, [.ref a0_digester_sums, .ref a0_digester_words, .ref a0_digester_pending, .int (nI 0), .long (lN 64)])), (a0_digester_sums, aW C.D 8 sb), (a0_digester_words, aW C.D 64 wb_), (a0_digester_pending, aB C.D 64 bb), (a0_pad, aB C.D 64 ka), (a0_inner, aB C.D 32 t_a0_inner), (a1, .inr (4, [.ref a1_bytes, .int (nI v_a1_count)])), (a1_bytes, aB C.D n1 t_a1_bytes), (a2, .inr (4, [.ref a2_bytes, .int (nI v_a2_count)])), (a2_bytes, aB C.D n2 t_a2_bytes), (a3, .inr (4, [.ref a3_bytes, .int (nI v_a3_count)])), (a3_bytes, aB C.D n3 t_a3_bytes)] (by decide) rfl rfl ?_
  show VJ C 0 0 9 [(0, .ref a0), (1, .ref a1), (2, .ref a2), (3, .ref a3)] [] [(a0, .inr (2, [.ref a0_digester, .ref a0_pad, .ref a0_inner, .ref a0_part, .ref a0_partNumber, .ref a0_labelInfo])), (a0_digester, .inr (0, [.ref a0_digester_sums, .ref a0_digester_words, .ref a0_digester_pending, .int (nI 0), .long (lN 64)])), (a0_digester_sums, aW C.D 8 sb), (a0_digester_words, aW C.D 64 wb_), (a0_digester_pending, aB C.D 64 bb), (a0_pad, aB C.D 64 ka), (a0_inner, aB C.D 32 t_a0_inner), (a1, .inr (4, [.ref a1_bytes, .int (nI v_a1_count)])), (a1_bytes, aB C.D n1 t_a1_bytes), (a2, .inr (4, [.ref a2_bytes, .int (nI v_a2_count)])), (a2_bytes, aB C.D n2 t_a2_bytes), (a3, .inr (4, [.ref a3_bytes, .int (nI v_a3_count)])), (a3_bytes, aB C.D n3 t_a3_bytes)]
  refine v_aload_n g dX2_makeMac_9 0 rfl 0 rfl ?_
  refine gf_X2_35 g dX2_makeMac_10 0 rfl rfl ?_
  refine v_aload_n g dX2_makeMac_13 2 rfl 2 rfl ?_
  refine gf_X2_46 g dX2_makeMac_14 9 rfl rfl ?_
  refine v_aload_n g dX2_makeMac_17 2 rfl 2 rfl ?_
  refine gf_X2_49 g dX2_makeMac_18 9 rfl rfl ?_
  refine v_iconst g dX2_makeMac_21 (v := nI 0) (by decide +kernel) ?_
  refine v_callV (As := [.ref a2_bytes, .int (nI v_a2_count), .int (nI 0)]) (rest := []) (wr := [(a0, .inr (2, [.ref a0_digester, .ref a0_pad, .ref a0_inner, .ref a0_part, .ref a0_partNumber, .ref a0_labelInfo])), (a0_pad, aB C.D 64 ka), (a0_inner, aB C.D 32 t_a0_inner), (a1, .inr (4, [.ref a1_bytes, .int (nI v_a1_count)])), (a1_bytes, aB C.D n1 t_a1_bytes), (a2, .inr (4, [.ref a2_bytes, .int (nI v_a2_count)])), (a3, .inr (4, [.ref a3_bytes, .int (nI v_a3_count)])), (a3_bytes, aB C.D n3 t_a3_bytes)]) cw_X2_53 (hy_X0_put) g (c_DG_put C.l C.D a0_digester a2_bytes v_a2_count 0#32 a0_digester_sums a0_digester_words a0_digester_pending 0 64 sb wb_ bb n2 t_a2_bytes (fun j => ka j ^^^ 54#8) 64 rfl rfl hb (by omega) (by omega)) dX2_makeMac_22 1 rfl rfl rfl (by decide) (by decide) (Nat.le_of_ble_eq_true rfl) [1, 2, 3, 4, 10] [0, 5, 6, 7, 8, 9, 11, 12] rfl rfl (by decide) rfl (by decide) (by decide) _ rfl (fun r wo hp3 => ?_)
  obtain ⟨sc, wc, bc, rfl, rfl, hc⟩ := hp3
  refine v_perm [0, 8, 9, 10, 11, 1, 2, 3, 4, 5, 12, 6, 7] [(a0, .inr (2, [.ref a0_digester, .ref a0_pad, .ref a0_inner, .ref a0_part, .ref a0_partNumber, .ref a0_labelInfo])), (a0_digester, .inr (0, [.ref a0_digester_sums, .ref a0_digester_words, .ref a0_digester_pending, .int (nI ((64 + v_a2_count) % 64)), .long (lN (64 + v_a2_count))])), (a0_digester_sums, aW C.D 8 sc), (a0_digester_words, aW C.D 64 wc), (a0_digester_pending, aB C.D 64 bc), (a0_pad, aB C.D 64 ka), (a0_inner, aB C.D 32 t_a0_inner), (a1, .inr (4, [.ref a1_bytes, .int (nI v_a1_count)])), (a1_bytes, aB C.D n1 t_a1_bytes), (a2, .inr (4, [.ref a2_bytes, .int (nI v_a2_count)])), (a2_bytes, aB C.D n2 t_a2_bytes), (a3, .inr (4, [.ref a3_bytes, .int (nI v_a3_count)])), (a3_bytes, aB C.D n3 t_a3_bytes)] (by decide) rfl rfl ?_
  show VJ C 0 0 25 [(0, .ref a0), (1, .ref a1), (2, .ref a2), (3, .ref a3)] [] [(a0, .inr (2, [.ref a0_digester, .ref a0_pad, .ref a0_inner, .ref a0_part, .ref a0_partNumber, .ref a0_labelInfo])), (a0_digester, .inr (0, [.ref a0_digester_sums, .ref a0_digester_words, .ref a0_digester_pending, .int (nI ((64 + v_a2_count) % 64)), .long (lN (64 + v_a2_count))])), (a0_digester_sums, aW C.D 8 sc), (a0_digester_words, aW C.D 64 wc), (a0_digester_pending, aB C.D 64 bc), (a0_pad, aB C.D 64 ka), (a0_inner, aB C.D 32 t_a0_inner), (a1, .inr (4, [.ref a1_bytes, .int (nI v_a1_count)])), (a1_bytes, aB C.D n1 t_a1_bytes), (a2, .inr (4, [.ref a2_bytes, .int (nI v_a2_count)])), (a2_bytes, aB C.D n2 t_a2_bytes), (a3, .inr (4, [.ref a3_bytes, .int (nI v_a3_count)])), (a3_bytes, aB C.D n3 t_a3_bytes)]
  refine v_aload_n g dX2_makeMac_25 0 rfl 0 rfl ?_
  refine v_aload_n g dX2_makeMac_26 3 rfl 3 rfl ?_
  refine gf_X2_46 g dX2_makeMac_27 11 rfl rfl ?_
  refine v_callV (As := [.ref a3_bytes]) (rest := []) (wr := [(a1, .inr (4, [.ref a1_bytes, .int (nI v_a1_count)])), (a1_bytes, aB C.D n1 t_a1_bytes), (a2, .inr (4, [.ref a2_bytes, .int (nI v_a2_count)])), (a2_bytes, aB C.D n2 t_a2_bytes), (a3, .inr (4, [.ref a3_bytes, .int (nI v_a3_count)]))]) cw_X2_57 (hy_X2_finishMac) g (c_KM_finishMac C.l C.D a0 a3_bytes a0_digester a0_pad a0_inner a0_part a0_partNumber a0_labelInfo a0_digester_sums a0_digester_words a0_digester_pending ((64 + v_a2_count) % 64) (64 + v_a2_count) sc wc bc ka t_a0_inner n3 t_a3_bytes (cat (fun j => ka j ^^^ 54#8) 64 t_a2_bytes) (64 + v_a2_count) rfl rfl (dgR_x0 hc) (by omega) (by omega) (by omega)) dX2_makeMac_30 0 rfl rfl rfl (by decide) (by decide) (Nat.le_of_ble_eq_true rfl) [0, 1, 2, 3, 4, 5, 6, 12] [7, 8, 9, 10, 11] rfl rfl (by decide) rfl (by decide) (by decide) _ rfl (fun r wo hp4 => ?_)
  obtain ⟨fd, ld, sd, wd, bd, id_, rd, rfl, rfl, hd, hd2⟩ := hp4
  refine v_perm [5, 6, 7, 8, 9, 10, 11, 0, 1, 2, 3, 4, 12] [(a0, .inr (2, [.ref a0_digester, .ref a0_pad, .ref a0_inner, .ref a0_part, .ref a0_partNumber, .ref a0_labelInfo])), (a0_digester, .inr (0, [.ref a0_digester_sums, .ref a0_digester_words, .ref a0_digester_pending, .int (nI fd), .long (lN ld)])), (a0_digester_sums, aW C.D 8 sd), (a0_digester_words, aW C.D 64 wd), (a0_digester_pending, aB C.D 64 bd), (a0_pad, aB C.D 64 ka), (a0_inner, aB C.D 32 id_), (a1, .inr (4, [.ref a1_bytes, .int (nI v_a1_count)])), (a1_bytes, aB C.D n1 t_a1_bytes), (a2, .inr (4, [.ref a2_bytes, .int (nI v_a2_count)])), (a2_bytes, aB C.D n2 t_a2_bytes), (a3, .inr (4, [.ref a3_bytes, .int (nI v_a3_count)])), (a3_bytes, aB C.D n3 rd)] (by decide) rfl rfl ?_
  show VJ C 0 0 33 [(0, .ref a0), (1, .ref a1), (2, .ref a2), (3, .ref a3)] [] [(a0, .inr (2, [.ref a0_digester, .ref a0_pad, .ref a0_inner, .ref a0_part, .ref a0_partNumber, .ref a0_labelInfo])), (a0_digester, .inr (0, [.ref a0_digester_sums, .ref a0_digester_words, .ref a0_digester_pending, .int (nI fd), .long (lN ld)])), (a0_digester_sums, aW C.D 8 sd), (a0_digester_words, aW C.D 64 wd), (a0_digester_pending, aB C.D 64 bd), (a0_pad, aB C.D 64 ka), (a0_inner, aB C.D 32 id_), (a1, .inr (4, [.ref a1_bytes, .int (nI v_a1_count)])), (a1_bytes, aB C.D n1 t_a1_bytes), (a2, .inr (4, [.ref a2_bytes, .int (nI v_a2_count)])), (a2_bytes, aB C.D n2 t_a2_bytes), (a3, .inr (4, [.ref a3_bytes, .int (nI v_a3_count)])), (a3_bytes, aB C.D n3 rd)]
  refine v_aload_n g dX2_makeMac_33 3 rfl 3 rfl ?_
  refine v_bipush g dX2_makeMac_34 (v := nI 32) (by decide +kernel) ?_
  refine pf_X2_49 g dX2_makeMac_36 11 [(a0, .inr (2, [.ref a0_digester, .ref a0_pad, .ref a0_inner, .ref a0_part, .ref a0_partNumber, .ref a0_labelInfo])), (a0_digester, .inr (0, [.ref a0_digester_sums, .ref a0_digester_words, .ref a0_digester_pending, .int (nI fd), .long (lN ld)])), (a0_digester_sums, aW C.D 8 sd), (a0_digester_words, aW C.D 64 wd), (a0_digester_pending, aB C.D 64 bd), (a0_pad, aB C.D 64 ka), (a0_inner, aB C.D 32 id_), (a1, .inr (4, [.ref a1_bytes, .int (nI v_a1_count)])), (a1_bytes, aB C.D n1 t_a1_bytes), (a2, .inr (4, [.ref a2_bytes, .int (nI v_a2_count)])), (a2_bytes, aB C.D n2 t_a2_bytes), (a3, .inr (4, [.ref a3_bytes, .int (nI 32)])), (a3_bytes, aB C.D n3 rd)] rfl (Nat.le_of_ble_eq_true rfl) rfl ?_
  exact v_ret g R dX2_makeMac_39 (by decide) (by decide) ⟨fd, ld, sd, wd, bd, ka, id_, rd, rfl, rfl, (fun j hj => by rw [hd j hj]; exact congrFun (macP_congr (n := v_a2_count) ha (fun _ _ => rfl)) j)⟩
set_option maxHeartbeats 4000000 in
set_option maxRecDepth 100000 in
theorem c_KM_stretch (l : Launch) (D : va_G) (a0 : Nat) (a1 : Nat) (a2 : Nat) (p3 : Nat) (a4 : Nat) (a0_digester : Nat) (a0_pad : Nat) (a0_inner : Nat) (a0_part : Nat) (a0_partNumber : Nat) (a0_labelInfo : Nat) (a0_digester_sums : Nat) (a0_digester_words : Nat) (a0_digester_pending : Nat) (v_a0_digester_filled : Nat) (v_a0_digester_total : Nat) (t_a0_digester_sums : Nat → Wd) (t_a0_digester_words : Nat → Wd) (t_a0_digester_pending : Nat → By) (t_a0_pad : Nat → By) (t_a0_inner : Nat → By) (t_a0_part : Nat → By) (t_a0_partNumber : Nat → By) (a1_bytes : Nat) (v_a1_count : Nat) (n1 : Nat) (t_a1_bytes : Nat → By) (a2_bytes : Nat) (v_a2_count : Nat) (n2 : Nat) (t_a2_bytes : Nat → By) (a4_bytes : Nat) (v_a4_count : Nat) (n4 : Nat) (t_a4_bytes : Nat → By)  (h1 : v_a1_count ≤ n1) (h2 : v_a2_count ≤ n2) (h3 : 1 ≤ p3) (h4 : p3 ≤ 1024) (h5 : p3 ≤ n4) (g1 : n1 < 2 ^ 31) (g2 : n2 < 2 ^ 31) (g4 : n4 < 2 ^ 31) : vM l D yX2_makeStretch cX2_makeStretch 8 none { frames := 4, cells := 0, slots := 0, locals := 99 } [.ref a0, .ref a1, .ref a2, .int (nI p3), .ref a4] [(a0, .inr (2, [.ref a0_digester, .ref a0_pad, .ref a0_inner, .ref a0_part, .ref a0_partNumber, .ref a0_labelInfo])), (a0_digester, .inr (0, [.ref a0_digester_sums, .ref a0_digester_words, .ref a0_digester_pending, .int (nI v_a0_digester_filled), .long (lN v_a0_digester_total)])), (a0_digester_sums, aW D 8 t_a0_digester_sums), (a0_digester_words, aW D 64 t_a0_digester_words), (a0_digester_pending, aB D 64 t_a0_digester_pending), (a0_pad, aB D 64 t_a0_pad), (a0_inner, aB D 32 t_a0_inner), (a0_part, aB D 32 t_a0_part), (a0_partNumber, aB D 1 t_a0_partNumber), (a1, .inr (4, [.ref a1_bytes, .int (nI v_a1_count)])), (a1_bytes, aB D n1 t_a1_bytes), (a2, .inr (4, [.ref a2_bytes, .int (nI v_a2_count)])), (a2_bytes, aB D n2 t_a2_bytes), (a4, .inr (4, [.ref a4_bytes, .int (nI v_a4_count)])), (a4_bytes, aB D n4 t_a4_bytes)] (fun r wo => ∃ (f1 : Nat) (l1 : Nat) (s1 : Nat → Wd) (w1 : Nat → Wd) (b1 : Nat → By) (k1 : Nat → By) (i1 : Nat → By) (q1 : Nat → By) (u1 : Nat → By) (r1 : Nat → By), r = none ∧ wo = [(a0, .inr (2, [.ref a0_digester, .ref a0_pad, .ref a0_inner, .ref a0_part, .ref a0_partNumber, .ref a0_labelInfo])), (a0_digester, .inr (0, [.ref a0_digester_sums, .ref a0_digester_words, .ref a0_digester_pending, .int (nI f1), .long (lN l1)])), (a0_digester_sums, aW D 8 s1), (a0_digester_words, aW D 64 w1), (a0_digester_pending, aB D 64 b1), (a0_pad, aB D 64 k1), (a0_inner, aB D 32 i1), (a0_part, aB D 32 q1), (a0_partNumber, aB D 1 u1), (a1, .inr (4, [.ref a1_bytes, .int (nI v_a1_count)])), (a1_bytes, aB D n1 t_a1_bytes), (a2, .inr (4, [.ref a2_bytes, .int (nI v_a2_count)])), (a2_bytes, aB D n2 t_a2_bytes), (a4, .inr (4, [.ref a4_bytes, .int (nI p3)])), (a4_bytes, aB D n4 r1)] ∧ (∀ j, j < p3 → r1 j = strF t_a1_bytes v_a1_count t_a2_bytes v_a2_count j)) := by
  refine vM.of (by decide) (Nat.le_of_ble_eq_true rfl) (fun C hCl hCD g R => ?_)
  subst hCl; subst hCD
  show VJ C 0 0 0 [(0, .ref a0), (1, .ref a1), (2, .ref a2), (3, .int (nI p3)), (4, .ref a4)] [] [(a0, .inr (2, [.ref a0_digester, .ref a0_pad, .ref a0_inner, .ref a0_part, .ref a0_partNumber, .ref a0_labelInfo])), (a0_digester, .inr (0, [.ref a0_digester_sums, .ref a0_digester_words, .ref a0_digester_pending, .int (nI v_a0_digester_filled), .long (lN v_a0_digester_total)])), (a0_digester_sums, aW C.D 8 t_a0_digester_sums), (a0_digester_words, aW C.D 64 t_a0_digester_words), (a0_digester_pending, aB C.D 64 t_a0_digester_pending), (a0_pad, aB C.D 64 t_a0_pad), (a0_inner, aB C.D 32 t_a0_inner), (a0_part, aB C.D 32 t_a0_part), (a0_partNumber, aB C.D 1 t_a0_partNumber), (a1, .inr (4, [.ref a1_bytes, .int (nI v_a1_count)])), (a1_bytes, aB C.D n1 t_a1_bytes), (a2, .inr (4, [.ref a2_bytes, .int (nI v_a2_count)])), (a2_bytes, aB C.D n2 t_a2_bytes), (a4, .inr (4, [.ref a4_bytes, .int (nI v_a4_count)])), (a4_bytes, aB C.D n4 t_a4_bytes)]
  refine v_aload_n g dX2_makeStretch_0 0 rfl 0 rfl ?_
  refine v_aload_n g dX2_makeStretch_1 1 rfl 1 rfl ?_
  refine v_callV (As := [.ref a1]) (rest := []) (wr := [(a0_inner, aB C.D 32 t_a0_inner), (a0_part, aB C.D 32 t_a0_part), (a0_partNumber, aB C.D 1 t_a0_partNumber), (a2, .inr (4, [.ref a2_bytes, .int (nI v_a2_count)])), (a2_bytes, aB C.D n2 t_a2_bytes), (a4, .inr (4, [.ref a4_bytes, .int (nI v_a4_count)])), (a4_bytes, aB C.D n4 t_a4_bytes)]) cw_X2_39 (hy_X2_setKey) g (c_KM_setKey C.l C.D a0 a1 a0_digester a0_pad a0_inner a0_part a0_partNumber a0_labelInfo a0_digester_sums a0_digester_words a0_digester_pending v_a0_digester_filled v_a0_digester_total t_a0_digester_sums t_a0_digester_words t_a0_digester_pending t_a0_pad a1_bytes v_a1_count n1 t_a1_bytes (by omega) (by omega)) dX2_makeStretch_2 0 rfl rfl rfl (by decide) (by decide) (Nat.le_of_ble_eq_true rfl) [0, 1, 2, 3, 4, 5, 9, 10] [6, 7, 8, 11, 12, 13, 14] rfl rfl (by decide) rfl (by decide) (by decide) _ rfl (fun r wo hp1 => ?_)
  obtain ⟨fa, la, sa, wa, ba, ka, rfl, rfl, ha⟩ := hp1
  refine v_perm [7, 8, 9, 10, 11, 12, 0, 1, 2, 13, 14, 3, 4, 5, 6] [(a0, .inr (2, [.ref a0_digester, .ref a0_pad, .ref a0_inner, .ref a0_part, .ref a0_partNumber, .ref a0_labelInfo])), (a0_digester, .inr (0, [.ref a0_digester_sums, .ref a0_digester_words, .ref a0_digester_pending, .int (nI fa), .long (lN la)])), (a0_digester_sums, aW C.D 8 sa), (a0_digester_words, aW C.D 64 wa), (a0_digester_pending, aB C.D 64 ba), (a0_pad, aB C.D 64 ka), (a0_inner, aB C.D 32 t_a0_inner), (a0_part, aB C.D 32 t_a0_part), (a0_partNumber, aB C.D 1 t_a0_partNumber), (a1, .inr (4, [.ref a1_bytes, .int (nI v_a1_count)])), (a1_bytes, aB C.D n1 t_a1_bytes), (a2, .inr (4, [.ref a2_bytes, .int (nI v_a2_count)])), (a2_bytes, aB C.D n2 t_a2_bytes), (a4, .inr (4, [.ref a4_bytes, .int (nI v_a4_count)])), (a4_bytes, aB C.D n4 t_a4_bytes)] (by decide) rfl rfl ?_
  show VJ C 0 0 5 [(0, .ref a0), (1, .ref a1), (2, .ref a2), (3, .int (nI p3)), (4, .ref a4)] [] [(a0, .inr (2, [.ref a0_digester, .ref a0_pad, .ref a0_inner, .ref a0_part, .ref a0_partNumber, .ref a0_labelInfo])), (a0_digester, .inr (0, [.ref a0_digester_sums, .ref a0_digester_words, .ref a0_digester_pending, .int (nI fa), .long (lN la)])), (a0_digester_sums, aW C.D 8 sa), (a0_digester_words, aW C.D 64 wa), (a0_digester_pending, aB C.D 64 ba), (a0_pad, aB C.D 64 ka), (a0_inner, aB C.D 32 t_a0_inner), (a0_part, aB C.D 32 t_a0_part), (a0_partNumber, aB C.D 1 t_a0_partNumber), (a1, .inr (4, [.ref a1_bytes, .int (nI v_a1_count)])), (a1_bytes, aB C.D n1 t_a1_bytes), (a2, .inr (4, [.ref a2_bytes, .int (nI v_a2_count)])), (a2_bytes, aB C.D n2 t_a2_bytes), (a4, .inr (4, [.ref a4_bytes, .int (nI v_a4_count)])), (a4_bytes, aB C.D n4 t_a4_bytes)]
  refine v_iload_n g dX2_makeStretch_5 3 rfl 3 rfl ?_
  refine v_bipush g dX2_makeStretch_6 (v := nI 32) (by decide +kernel) ?_
  refine v_iaddN g dX2_makeStretch_8 ?_
  refine v_iconst g dX2_makeStretch_9 (v := nI 1) (by decide +kernel) ?_
  refine v_isubN g dX2_makeStretch_10 (by omega) ?_
  refine v_bipush g dX2_makeStretch_11 (v := nI 32) (by decide +kernel) ?_
  refine v_idivN g dX2_makeStretch_13 (by omega) (by omega) (by omega) ?_
  refine v_istore g [(5, .int (nI (((p3 + 32) - 1) / 32))), (0, .ref a0), (1, .ref a1), (2, .ref a2), (3, .int (nI p3)), (4, .ref a4)] dX2_makeStretch_14 (by decide) rfl ?_
  refine v_iconst g dX2_makeStretch_16 (v := nI 1) (by decide +kernel) ?_
  refine v_istore g [(6, .int (nI 1)), (5, .int (nI (((p3 + 32) - 1) / 32))), (0, .ref a0), (1, .ref a1), (2, .ref a2), (3, .int (nI p3)), (4, .ref a4)] dX2_makeStretch_17 (by decide) rfl ?_
  obtain ⟨np, hnp⟩ : ∃ z : Nat, z = (p3 + 32 - 1) / 32 := ⟨_, rfl⟩
  rw [← hnp]
  have L19_1 : ∀ i : Nat, i ≤ np → ∀ (f2 : Nat) (l2 : Nat) (s2 : Nat → Wd) (w2 : Nat → Wd) (b2 : Nat → By) (i2 : Nat → By) (q2 : Nat → By) (u2 : Nat → By) (r2 : Nat → By), (i ≠ 0 → ∀ j, j < 32 → q2 j = stT (padF t_a1_bytes v_a1_count) t_a2_bytes v_a2_count i j) → (∀ j, j < 32 * i → j < p3 → r2 j = strF t_a1_bytes v_a1_count t_a2_bytes v_a2_count j) → VJ C 0 0 19 [(6, .int (nI (i + 1))), (5, .int (nI np)), (0, .ref a0), (1, .ref a1), (2, .ref a2), (3, .int (nI p3)), (4, .ref a4)] [] [(a0, .inr (2, [.ref a0_digester, .ref a0_pad, .ref a0_inner, .ref a0_part, .ref a0_partNumber, .ref a0_labelInfo])), (a0_digester, .inr (0, [.ref a0_digester_sums, .ref a0_digester_words, .ref a0_digester_pending, .int (nI f2), .long (lN l2)])), (a0_digester_sums, aW C.D 8 s2), (a0_digester_words, aW C.D 64 w2), (a0_digester_pending, aB C.D 64 b2), (a0_pad, aB C.D 64 ka), (a0_inner, aB C.D 32 i2), (a0_part, aB C.D 32 q2), (a0_partNumber, aB C.D 1 u2), (a1, .inr (4, [.ref a1_bytes, .int (nI v_a1_count)])), (a1_bytes, aB C.D n1 t_a1_bytes), (a2, .inr (4, [.ref a2_bytes, .int (nI v_a2_count)])), (a2_bytes, aB C.D n2 t_a2_bytes), (a4, .inr (4, [.ref a4_bytes, .int (nI v_a4_count)])), (a4_bytes, aB C.D n4 r2)] := by
    refine v_for (np) ?_ ?_
    · skip
      intro i hii ih f2 l2 s2 w2 b2 i2 q2 u2 r2 hv0 hv1
      refine v_iload g dX2_makeStretch_19 0 rfl ?_
      refine v_iload g dX2_makeStretch_21 1 rfl ?_
      refine v_icmp_gtN g 139 dX2_makeStretch_23 (by decide) (by omega) (by omega) (fun h2 => ?_) (fun h2 => ?_)
      · skip
        exact absurd h2 (by omega)
      · skip
        refine v_aload_n g dX2_makeStretch_26 0 rfl 2 rfl ?_
        refine v_callV (As := []) (rest := []) (wr := [(a0_inner, aB C.D 32 i2), (a0_part, aB C.D 32 q2), (a0_partNumber, aB C.D 1 u2), (a1, .inr (4, [.ref a1_bytes, .int (nI v_a1_count)])), (a1_bytes, aB C.D n1 t_a1_bytes), (a2, .inr (4, [.ref a2_bytes, .int (nI v_a2_count)])), (a2_bytes, aB C.D n2 t_a2_bytes), (a4, .inr (4, [.ref a4_bytes, .int (nI v_a4_count)])), (a4_bytes, aB C.D n4 r2)]) cw_X2_43 (hy_X2_startMac) g (c_KM_startMac C.l C.D a0 a0_digester a0_pad a0_inner a0_part a0_partNumber a0_labelInfo a0_digester_sums a0_digester_words a0_digester_pending f2 l2 s2 w2 b2 ka ) dX2_makeStretch_27 0 rfl rfl rfl (by decide) (by decide) (Nat.le_of_ble_eq_true rfl) [0, 1, 2, 3, 4, 5] [6, 7, 8, 9, 10, 11, 12, 13, 14] rfl rfl (by decide) rfl (by decide) (by decide) _ rfl (fun r wo hp3 => ?_)
        obtain ⟨sb, wb_, bb, rfl, rfl, hb⟩ := hp3
        refine v_perm [9, 10, 11, 12, 13, 14, 0, 1, 2, 3, 4, 5, 6, 7, 8] [(a0, .inr (2, [.ref a0_digester, .ref a0_pad, .ref a0_inner, .ref a0_part, .ref a0_partNumber, .ref a0_labelInfo])), (a0_digester, .inr (0, [.ref a0_digester_sums, .ref a0_digester_words, .ref a0_digester_pending, .int (nI 0), .long (lN 64)])), (a0_digester_sums, aW C.D 8 sb), (a0_digester_words, aW C.D 64 wb_), (a0_digester_pending, aB C.D 64 bb), (a0_pad, aB C.D 64 ka), (a0_inner, aB C.D 32 i2), (a0_part, aB C.D 32 q2), (a0_partNumber, aB C.D 1 u2), (a1, .inr (4, [.ref a1_bytes, .int (nI v_a1_count)])), (a1_bytes, aB C.D n1 t_a1_bytes), (a2, .inr (4, [.ref a2_bytes, .int (nI v_a2_count)])), (a2_bytes, aB C.D n2 t_a2_bytes), (a4, .inr (4, [.ref a4_bytes, .int (nI v_a4_count)])), (a4_bytes, aB C.D n4 r2)] (by decide) rfl rfl ?_
        show VJ C 0 0 30 [(6, .int (nI (i + 1))), (5, .int (nI np)), (0, .ref a0), (1, .ref a1), (2, .ref a2), (3, .int (nI p3)), (4, .ref a4)] [] [(a0, .inr (2, [.ref a0_digester, .ref a0_pad, .ref a0_inner, .ref a0_part, .ref a0_partNumber, .ref a0_labelInfo])), (a0_digester, .inr (0, [.ref a0_digester_sums, .ref a0_digester_words, .ref a0_digester_pending, .int (nI 0), .long (lN 64)])), (a0_digester_sums, aW C.D 8 sb), (a0_digester_words, aW C.D 64 wb_), (a0_digester_pending, aB C.D 64 bb), (a0_pad, aB C.D 64 ka), (a0_inner, aB C.D 32 i2), (a0_part, aB C.D 32 q2), (a0_partNumber, aB C.D 1 u2), (a1, .inr (4, [.ref a1_bytes, .int (nI v_a1_count)])), (a1_bytes, aB C.D n1 t_a1_bytes), (a2, .inr (4, [.ref a2_bytes, .int (nI v_a2_count)])), (a2_bytes, aB C.D n2 t_a2_bytes), (a4, .inr (4, [.ref a4_bytes, .int (nI v_a4_count)])), (a4_bytes, aB C.D n4 r2)]
        refine v_aload_n g dX2_makeStretch_30 0 rfl 2 rfl ?_
        refine gf_X2_35 g dX2_makeStretch_31 0 rfl rfl ?_
        refine v_aload_n g dX2_makeStretch_34 0 rfl 2 rfl ?_
        refine gf_X2_20 g dX2_makeStretch_35 0 rfl rfl ?_
        refine v_iload g dX2_makeStretch_38 0 rfl ?_
        refine v_iconst g dX2_makeStretch_40 (v := nI 1) (by decide +kernel) ?_
        have J50 : ∀ (pl : Nat), (pl = st_l i) → VJ C 0 0 50 [(6, .int (nI (i + 1))), (5, .int (nI np)), (0, .ref a0), (1, .ref a1), (2, .ref a2), (3, .int (nI p3)), (4, .ref a4)] [.int (nI pl), .ref a0_part, .ref a0_digester] [(a0, .inr (2, [.ref a0_digester, .ref a0_pad, .ref a0_inner, .ref a0_part, .ref a0_partNumber, .ref a0_labelInfo])), (a0_digester, .inr (0, [.ref a0_digester_sums, .ref a0_digester_words, .ref a0_digester_pending, .int (nI 0), .long (lN 64)])), (a0_digester_sums, aW C.D 8 sb), (a0_digester_words, aW C.D 64 wb_), (a0_digester_pending, aB C.D 64 bb), (a0_pad, aB C.D 64 ka), (a0_inner, aB C.D 32 i2), (a0_part, aB C.D 32 q2), (a0_partNumber, aB C.D 1 u2), (a1, .inr (4, [.ref a1_bytes, .int (nI v_a1_count)])), (a1_bytes, aB C.D n1 t_a1_bytes), (a2, .inr (4, [.ref a2_bytes, .int (nI v_a2_count)])), (a2_bytes, aB C.D n2 t_a2_bytes), (a4, .inr (4, [.ref a4_bytes, .int (nI v_a4_count)])), (a4_bytes, aB C.D n4 r2)] := by
          intro pl hj0
          refine v_iconst g dX2_makeStretch_50 (v := nI 0) (by decide +kernel) ?_
          refine v_callV (As := [.ref a0_part, .int (nI pl), .int (nI 0)]) (rest := []) (wr := [(a0, .inr (2, [.ref a0_digester, .ref a0_pad, .ref a0_inner, .ref a0_part, .ref a0_partNumber, .ref a0_labelInfo])), (a0_pad, aB C.D 64 ka), (a0_inner, aB C.D 32 i2), (a0_partNumber, aB C.D 1 u2), (a1, .inr (4, [.ref a1_bytes, .int (nI v_a1_count)])), (a1_bytes, aB C.D n1 t_a1_bytes), (a2, .inr (4, [.ref a2_bytes, .int (nI v_a2_count)])), (a2_bytes, aB C.D n2 t_a2_bytes), (a4, .inr (4, [.ref a4_bytes, .int (nI v_a4_count)])), (a4_bytes, aB C.D n4 r2)]) cw_X2_53 (hy_X0_put) g (c_DG_put C.l C.D a0_digester a0_part pl 0#32 a0_digester_sums a0_digester_words a0_digester_pending 0 64 sb wb_ bb 32 q2 (fun j => ka j ^^^ 54#8) 64 rfl rfl hb (by rw [hj0]; unfold st_l; split <;> omega) (by omega)) dX2_makeStretch_51 1 rfl rfl rfl (by decide) (by decide) (Nat.le_of_ble_eq_true rfl) [1, 2, 3, 4, 7] [0, 5, 6, 8, 9, 10, 11, 12, 13, 14] rfl rfl (by decide) rfl (by decide) (by decide) _ rfl (fun r wo hp4 => ?_)
          obtain ⟨sc, wc, bc, rfl, rfl, hc⟩ := hp4
          refine v_perm [0, 10, 11, 12, 13, 1, 2, 14, 3, 4, 5, 6, 7, 8, 9] [(a0, .inr (2, [.ref a0_digester, .ref a0_pad, .ref a0_inner, .ref a0_part, .ref a0_partNumber, .ref a0_labelInfo])), (a0_digester, .inr (0, [.ref a0_digester_sums, .ref a0_digester_words, .ref a0_digester_pending, .int (nI ((64 + pl) % 64)), .long (lN (64 + pl))])), (a0_digester_sums, aW C.D 8 sc), (a0_digester_words, aW C.D 64 wc), (a0_digester_pending, aB C.D 64 bc), (a0_pad, aB C.D 64 ka), (a0_inner, aB C.D 32 i2), (a0_part, aB C.D 32 q2), (a0_partNumber, aB C.D 1 u2), (a1, .inr (4, [.ref a1_bytes, .int (nI v_a1_count)])), (a1_bytes, aB C.D n1 t_a1_bytes), (a2, .inr (4, [.ref a2_bytes, .int (nI v_a2_count)])), (a2_bytes, aB C.D n2 t_a2_bytes), (a4, .inr (4, [.ref a4_bytes, .int (nI v_a4_count)])), (a4_bytes, aB C.D n4 r2)] (by decide) rfl rfl ?_
          show VJ C 0 0 54 [(6, .int (nI (i + 1))), (5, .int (nI np)), (0, .ref a0), (1, .ref a1), (2, .ref a2), (3, .int (nI p3)), (4, .ref a4)] [] [(a0, .inr (2, [.ref a0_digester, .ref a0_pad, .ref a0_inner, .ref a0_part, .ref a0_partNumber, .ref a0_labelInfo])), (a0_digester, .inr (0, [.ref a0_digester_sums, .ref a0_digester_words, .ref a0_digester_pending, .int (nI ((64 + pl) % 64)), .long (lN (64 + pl))])), (a0_digester_sums, aW C.D 8 sc), (a0_digester_words, aW C.D 64 wc), (a0_digester_pending, aB C.D 64 bc), (a0_pad, aB C.D 64 ka), (a0_inner, aB C.D 32 i2), (a0_part, aB C.D 32 q2), (a0_partNumber, aB C.D 1 u2), (a1, .inr (4, [.ref a1_bytes, .int (nI v_a1_count)])), (a1_bytes, aB C.D n1 t_a1_bytes), (a2, .inr (4, [.ref a2_bytes, .int (nI v_a2_count)])), (a2_bytes, aB C.D n2 t_a2_bytes), (a4, .inr (4, [.ref a4_bytes, .int (nI v_a4_count)])), (a4_bytes, aB C.D n4 r2)]
          refine v_aload_n g dX2_makeStretch_54 0 rfl 2 rfl ?_
          refine gf_X2_35 g dX2_makeStretch_55 0 rfl rfl ?_
          refine v_aload_n g dX2_makeStretch_58 2 rfl 4 rfl ?_
          refine gf_X2_46 g dX2_makeStretch_59 11 rfl rfl ?_
          refine v_aload_n g dX2_makeStretch_62 2 rfl 4 rfl ?_
          refine gf_X2_49 g dX2_makeStretch_63 11 rfl rfl ?_
          refine v_iconst g dX2_makeStretch_66 (v := nI 0) (by decide +kernel) ?_
          refine v_callV (As := [.ref a2_bytes, .int (nI v_a2_count), .int (nI 0)]) (rest := []) (wr := [(a0, .inr (2, [.ref a0_digester, .ref a0_pad, .ref a0_inner, .ref a0_part, .ref a0_partNumber, .ref a0_labelInfo])), (a0_pad, aB C.D 64 ka), (a0_inner, aB C.D 32 i2), (a0_part, aB C.D 32 q2), (a0_partNumber, aB C.D 1 u2), (a1, .inr (4, [.ref a1_bytes, .int (nI v_a1_count)])), (a1_bytes, aB C.D n1 t_a1_bytes), (a2, .inr (4, [.ref a2_bytes, .int (nI v_a2_count)])), (a4, .inr (4, [.ref a4_bytes, .int (nI v_a4_count)])), (a4_bytes, aB C.D n4 r2)]) cw_X2_53 (hy_X0_put) g (c_DG_put C.l C.D a0_digester a2_bytes v_a2_count 0#32 a0_digester_sums a0_digester_words a0_digester_pending ((64 + pl) % 64) (64 + pl) sc wc bc n2 t_a2_bytes (cat (fun j => ka j ^^^ 54#8) 64 q2) (64 + pl) rfl rfl (dgR_x0 hc) (by omega) (by omega)) dX2_makeStretch_67 1 rfl rfl rfl (by decide) (by decide) (Nat.le_of_ble_eq_true rfl) [1, 2, 3, 4, 12] [0, 5, 6, 7, 8, 9, 10, 11, 13, 14] rfl rfl (by decide) rfl (by decide) (by decide) _ rfl (fun r wo hp5 => ?_)
          obtain ⟨sd, wd, bd, rfl, rfl, hd⟩ := hp5
          refine v_perm [0, 10, 11, 12, 13, 1, 2, 3, 4, 5, 6, 7, 14, 8, 9] [(a0, .inr (2, [.ref a0_digester, .ref a0_pad, .ref a0_inner, .ref a0_part, .ref a0_partNumber, .ref a0_labelInfo])), (a0_digester, .inr (0, [.ref a0_digester_sums, .ref a0_digester_words, .ref a0_digester_pending, .int (nI (((64 + pl) + v_a2_count) % 64)), .long (lN ((64 + pl) + v_a2_count))])), (a0_digester_sums, aW C.D 8 sd), (a0_digester_words, aW C.D 64 wd), (a0_digester_pending, aB C.D 64 bd), (a0_pad, aB C.D 64 ka), (a0_inner, aB C.D 32 i2), (a0_part, aB C.D 32 q2), (a0_partNumber, aB C.D 1 u2), (a1, .inr (4, [.ref a1_bytes, .int (nI v_a1_count)])), (a1_bytes, aB C.D n1 t_a1_bytes), (a2, .inr (4, [.ref a2_bytes, .int (nI v_a2_count)])), (a2_bytes, aB C.D n2 t_a2_bytes), (a4, .inr (4, [.ref a4_bytes, .int (nI v_a4_count)])), (a4_bytes, aB C.D n4 r2)] (by decide) rfl rfl ?_
          show VJ C 0 0 70 [(6, .int (nI (i + 1))), (5, .int (nI np)), (0, .ref a0), (1, .ref a1), (2, .ref a2), (3, .int (nI p3)), (4, .ref a4)] [] [(a0, .inr (2, [.ref a0_digester, .ref a0_pad, .ref a0_inner, .ref a0_part, .ref a0_partNumber, .ref a0_labelInfo])), (a0_digester, .inr (0, [.ref a0_digester_sums, .ref a0_digester_words, .ref a0_digester_pending, .int (nI (((64 + pl) + v_a2_count) % 64)), .long (lN ((64 + pl) + v_a2_count))])), (a0_digester_sums, aW C.D 8 sd), (a0_digester_words, aW C.D 64 wd), (a0_digester_pending, aB C.D 64 bd), (a0_pad, aB C.D 64 ka), (a0_inner, aB C.D 32 i2), (a0_part, aB C.D 32 q2), (a0_partNumber, aB C.D 1 u2), (a1, .inr (4, [.ref a1_bytes, .int (nI v_a1_count)])), (a1_bytes, aB C.D n1 t_a1_bytes), (a2, .inr (4, [.ref a2_bytes, .int (nI v_a2_count)])), (a2_bytes, aB C.D n2 t_a2_bytes), (a4, .inr (4, [.ref a4_bytes, .int (nI v_a4_count)])), (a4_bytes, aB C.D n4 r2)]
          refine v_aload_n g dX2_makeStretch_70 0 rfl 2 rfl ?_
          refine gf_X2_23 g dX2_makeStretch_71 0 rfl rfl ?_
          refine v_iconst g dX2_makeStretch_74 (v := nI 0) (by decide +kernel) ?_
          refine v_iload g dX2_makeStretch_75 0 rfl ?_
          refine v_i2bN g dX2_makeStretch_77 ?_
          obtain ⟨t6, ht6⟩ : ∃ z : Nat → By, z = va_up u2 0 (BitVec.ofNat 8 (i + 1)) := ⟨_, rfl⟩
          refine v_bastB g (BitVec.ofNat 8 (i + 1)) rfl t6 ht6 8 [(a0, .inr (2, [.ref a0_digester, .ref a0_pad, .ref a0_inner, .ref a0_part, .ref a0_partNumber, .ref a0_labelInfo])), (a0_digester, .inr (0, [.ref a0_digester_sums, .ref a0_digester_words, .ref a0_digester_pending, .int (nI (((64 + pl) + v_a2_count) % 64)), .long (lN ((64 + pl) + v_a2_count))])), (a0_digester_sums, aW C.D 8 sd), (a0_digester_words, aW C.D 64 wd), (a0_digester_pending, aB C.D 64 bd), (a0_pad, aB C.D 64 ka), (a0_inner, aB C.D 32 i2), (a0_part, aB C.D 32 q2), (a0_partNumber, aB C.D 1 t6), (a1, .inr (4, [.ref a1_bytes, .int (nI v_a1_count)])), (a1_bytes, aB C.D n1 t_a1_bytes), (a2, .inr (4, [.ref a2_bytes, .int (nI v_a2_count)])), (a2_bytes, aB C.D n2 t_a2_bytes), (a4, .inr (4, [.ref a4_bytes, .int (nI v_a4_count)])), (a4_bytes, aB C.D n4 r2)] rfl (by decide) (by decide) dX2_makeStretch_78 rfl ?_
          refine v_aload_n g dX2_makeStretch_79 0 rfl 2 rfl ?_
          refine gf_X2_35 g dX2_makeStretch_80 0 rfl rfl ?_
          refine v_aload_n g dX2_makeStretch_83 0 rfl 2 rfl ?_
          refine gf_X2_23 g dX2_makeStretch_84 0 rfl rfl ?_
          refine v_iconst g dX2_makeStretch_87 (v := nI 1) (by decide +kernel) ?_
          refine v_iconst g dX2_makeStretch_88 (v := nI 0) (by decide +kernel) ?_
          refine v_callV (As := [.ref a0_partNumber, .int (nI 1), .int (nI 0)]) (rest := []) (wr := [(a0, .inr (2, [.ref a0_digester, .ref a0_pad, .ref a0_inner, .ref a0_part, .ref a0_partNumber, .ref a0_labelInfo])), (a0_pad, aB C.D 64 ka), (a0_inner, aB C.D 32 i2), (a0_part, aB C.D 32 q2), (a1, .inr (4, [.ref a1_bytes, .int (nI v_a1_count)])), (a1_bytes, aB C.D n1 t_a1_bytes), (a2, .inr (4, [.ref a2_bytes, .int (nI v_a2_count)])), (a2_bytes, aB C.D n2 t_a2_bytes), (a4, .inr (4, [.ref a4_bytes, .int (nI v_a4_count)])), (a4_bytes, aB C.D n4 r2)]) cw_X2_53 (hy_X0_put) g (c_DG_put C.l C.D a0_digester a0_partNumber 1 0#32 a0_digester_sums a0_digester_words a0_digester_pending (((64 + pl) + v_a2_count) % 64) ((64 + pl) + v_a2_count) sd wd bd 1 t6 (cat (cat (fun j => ka j ^^^ 54#8) 64 q2) (64 + pl) t_a2_bytes) (64 + pl + v_a2_count) rfl rfl (dgR_x0 hd) (by omega) (by omega)) dX2_makeStretch_89 1 rfl rfl rfl (by decide) (by decide) (Nat.le_of_ble_eq_true rfl) [1, 2, 3, 4, 8] [0, 5, 6, 7, 9, 10, 11, 12, 13, 14] rfl rfl (by decide) rfl (by decide) (by decide) _ rfl (fun r wo hp7 => ?_)
          obtain ⟨se, we, be, rfl, rfl, he⟩ := hp7
          refine v_perm [0, 10, 11, 12, 13, 1, 2, 3, 14, 4, 5, 6, 7, 8, 9] [(a0, .inr (2, [.ref a0_digester, .ref a0_pad, .ref a0_inner, .ref a0_part, .ref a0_partNumber, .ref a0_labelInfo])), (a0_digester, .inr (0, [.ref a0_digester_sums, .ref a0_digester_words, .ref a0_digester_pending, .int (nI (((64 + pl + v_a2_count) + 1) % 64)), .long (lN ((64 + pl + v_a2_count) + 1))])), (a0_digester_sums, aW C.D 8 se), (a0_digester_words, aW C.D 64 we), (a0_digester_pending, aB C.D 64 be), (a0_pad, aB C.D 64 ka), (a0_inner, aB C.D 32 i2), (a0_part, aB C.D 32 q2), (a0_partNumber, aB C.D 1 t6), (a1, .inr (4, [.ref a1_bytes, .int (nI v_a1_count)])), (a1_bytes, aB C.D n1 t_a1_bytes), (a2, .inr (4, [.ref a2_bytes, .int (nI v_a2_count)])), (a2_bytes, aB C.D n2 t_a2_bytes), (a4, .inr (4, [.ref a4_bytes, .int (nI v_a4_count)])), (a4_bytes, aB C.D n4 r2)] (by decide) rfl rfl ?_
          show VJ C 0 0 92 [(6, .int (nI (i + 1))), (5, .int (nI np)), (0, .ref a0), (1, .ref a1), (2, .ref a2), (3, .int (nI p3)), (4, .ref a4)] [] [(a0, .inr (2, [.ref a0_digester, .ref a0_pad, .ref a0_inner, .ref a0_part, .ref a0_partNumber, .ref a0_labelInfo])), (a0_digester, .inr (0, [.ref a0_digester_sums, .ref a0_digester_words, .ref a0_digester_pending, .int (nI (((64 + pl + v_a2_count) + 1) % 64)), .long (lN ((64 + pl + v_a2_count) + 1))])), (a0_digester_sums, aW C.D 8 se), (a0_digester_words, aW C.D 64 we), (a0_digester_pending, aB C.D 64 be), (a0_pad, aB C.D 64 ka), (a0_inner, aB C.D 32 i2), (a0_part, aB C.D 32 q2), (a0_partNumber, aB C.D 1 t6), (a1, .inr (4, [.ref a1_bytes, .int (nI v_a1_count)])), (a1_bytes, aB C.D n1 t_a1_bytes), (a2, .inr (4, [.ref a2_bytes, .int (nI v_a2_count)])), (a2_bytes, aB C.D n2 t_a2_bytes), (a4, .inr (4, [.ref a4_bytes, .int (nI v_a4_count)])), (a4_bytes, aB C.D n4 r2)]
          have he2 : dgR (cat (fun j => ka j ^^^ 54#8) 64 (cat (cat q2 pl t_a2_bytes) (pl + v_a2_count) t6)) (64 + (pl + v_a2_count + 1)) se be := by
            have h9 := dgR_x0 he
            rw [cat_assoc, show 64 + pl + v_a2_count = 64 + (pl + v_a2_count) by omega, cat_assoc] at h9
            rw [cat_assoc q2]; exact h9
          have hpl : pl ≤ 32 := by rw [hj0]; unfold st_l; split <;> omega
          refine v_aload_n g dX2_makeStretch_92 0 rfl 2 rfl ?_
          refine v_aload_n g dX2_makeStretch_93 0 rfl 2 rfl ?_
          refine gf_X2_20 g dX2_makeStretch_94 0 rfl rfl ?_
          refine v_callV (As := [.ref a0_part]) (rest := []) (wr := [(a0_partNumber, aB C.D 1 t6), (a1, .inr (4, [.ref a1_bytes, .int (nI v_a1_count)])), (a1_bytes, aB C.D n1 t_a1_bytes), (a2, .inr (4, [.ref a2_bytes, .int (nI v_a2_count)])), (a2_bytes, aB C.D n2 t_a2_bytes), (a4, .inr (4, [.ref a4_bytes, .int (nI v_a4_count)])), (a4_bytes, aB C.D n4 r2)]) cw_X2_57 (hy_X2_finishMac) g (c_KM_finishMac C.l C.D a0 a0_part a0_digester a0_pad a0_inner a0_part a0_partNumber a0_labelInfo a0_digester_sums a0_digester_words a0_digester_pending (((64 + pl + v_a2_count) + 1) % 64) ((64 + pl + v_a2_count) + 1) se we be ka i2 32 q2 (cat (fun j => ka j ^^^ 54#8) 64 (cat (cat q2 pl t_a2_bytes) (pl + v_a2_count) t6)) (64 + (pl + v_a2_count + 1)) (by omega) (by omega) he2 (by omega) (by omega) (by omega)) dX2_makeStretch_97 0 rfl rfl rfl (by decide) (by decide) (Nat.le_of_ble_eq_true rfl) [0, 1, 2, 3, 4, 5, 6, 7] [8, 9, 10, 11, 12, 13, 14] rfl rfl (by decide) rfl (by decide) (by decide) _ rfl (fun r wo hp8 => ?_)
          obtain ⟨ff, lf, sf, wf, bf, i_f, rf, rfl, rfl, hf, hf2⟩ := hp8
          refine v_perm [7, 8, 9, 10, 11, 12, 13, 14, 0, 1, 2, 3, 4, 5, 6] [(a0, .inr (2, [.ref a0_digester, .ref a0_pad, .ref a0_inner, .ref a0_part, .ref a0_partNumber, .ref a0_labelInfo])), (a0_digester, .inr (0, [.ref a0_digester_sums, .ref a0_digester_words, .ref a0_digester_pending, .int (nI ff), .long (lN lf)])), (a0_digester_sums, aW C.D 8 sf), (a0_digester_words, aW C.D 64 wf), (a0_digester_pending, aB C.D 64 bf), (a0_pad, aB C.D 64 ka), (a0_inner, aB C.D 32 i_f), (a0_part, aB C.D 32 rf), (a0_partNumber, aB C.D 1 t6), (a1, .inr (4, [.ref a1_bytes, .int (nI v_a1_count)])), (a1_bytes, aB C.D n1 t_a1_bytes), (a2, .inr (4, [.ref a2_bytes, .int (nI v_a2_count)])), (a2_bytes, aB C.D n2 t_a2_bytes), (a4, .inr (4, [.ref a4_bytes, .int (nI v_a4_count)])), (a4_bytes, aB C.D n4 r2)] (by decide) rfl rfl ?_
          show VJ C 0 0 100 [(6, .int (nI (i + 1))), (5, .int (nI np)), (0, .ref a0), (1, .ref a1), (2, .ref a2), (3, .int (nI p3)), (4, .ref a4)] [] [(a0, .inr (2, [.ref a0_digester, .ref a0_pad, .ref a0_inner, .ref a0_part, .ref a0_partNumber, .ref a0_labelInfo])), (a0_digester, .inr (0, [.ref a0_digester_sums, .ref a0_digester_words, .ref a0_digester_pending, .int (nI ff), .long (lN lf)])), (a0_digester_sums, aW C.D 8 sf), (a0_digester_words, aW C.D 64 wf), (a0_digester_pending, aB C.D 64 bf), (a0_pad, aB C.D 64 ka), (a0_inner, aB C.D 32 i_f), (a0_part, aB C.D 32 rf), (a0_partNumber, aB C.D 1 t6), (a1, .inr (4, [.ref a1_bytes, .int (nI v_a1_count)])), (a1_bytes, aB C.D n1 t_a1_bytes), (a2, .inr (4, [.ref a2_bytes, .int (nI v_a2_count)])), (a2_bytes, aB C.D n2 t_a2_bytes), (a4, .inr (4, [.ref a4_bytes, .int (nI v_a4_count)])), (a4_bytes, aB C.D n4 r2)]
          have hT : ∀ j, j < 32 → rf j = stT (padF t_a1_bytes v_a1_count) t_a2_bytes v_a2_count (i + 1) j := by
            intro j hj
            rw [hf j hj]
            simp only [stT]
            rw [hj0]
            refine congrFun (macP_congr ha (cat_congr (cat_congr (fun q hq => ?_) (fun _ _ => rfl)) (fun q hq => ?_))) j
            · unfold st_l at hq; by_cases e : i = 0
              · rw [if_pos e] at hq; omega
              · rw [if_neg e] at hq; exact hv0 e q hq
            · rw [ht6, show q = 0 by omega, va_up_at]
          refine v_bipush g dX2_makeStretch_100 (v := nI 32) (by decide +kernel) ?_
          refine v_iload g dX2_makeStretch_102 0 rfl ?_
          refine v_iconst g dX2_makeStretch_104 (v := nI 1) (by decide +kernel) ?_
          refine v_isubN g dX2_makeStretch_105 (by omega) ?_
          refine v_imulN g dX2_makeStretch_106 ?_
          refine v_istore g [(7, .int (nI (32 * ((i + 1) - 1)))), (6, .int (nI (i + 1))), (5, .int (nI np)), (0, .ref a0), (1, .ref a1), (2, .ref a2), (3, .int (nI p3)), (4, .ref a4)] dX2_makeStretch_107 (by decide) rfl ?_
          refine v_aload_n g dX2_makeStretch_109 0 rfl 3 rfl ?_
          refine gf_X2_20 g dX2_makeStretch_110 0 rfl rfl ?_
          refine v_iconst g dX2_makeStretch_113 (v := nI 0) (by decide +kernel) ?_
          refine v_aload g dX2_makeStretch_114 7 rfl ?_
          refine gf_X2_46 g dX2_makeStretch_116 13 rfl rfl ?_
          refine v_iload g dX2_makeStretch_119 0 rfl ?_
          refine v_bipush g dX2_makeStretch_121 (v := nI 32) (by decide +kernel) ?_
          refine v_iload_n g dX2_makeStretch_123 3 rfl 6 rfl ?_
          refine v_iload g dX2_makeStretch_124 0 rfl ?_
          refine v_isubN g dX2_makeStretch_126 (by omega) ?_
          refine v_min g mn_X2_61 (by omega) (by omega) (by decide) (Nat.le_of_ble_eq_true rfl) (by decide) (by decide) dX2_makeStretch_127 ?_
          obtain ⟨t9, ht9⟩ : ∃ z : Nat → By, z = va_cpy rf r2 0 (32 * ((i + 1) - 1)) (min 32 (p3 - (32 * ((i + 1) - 1)))) := ⟨_, rfl⟩
          refine v_acpB g ac_X2_67 t9 ht9 7 14 [(a0, .inr (2, [.ref a0_digester, .ref a0_pad, .ref a0_inner, .ref a0_part, .ref a0_partNumber, .ref a0_labelInfo])), (a0_digester, .inr (0, [.ref a0_digester_sums, .ref a0_digester_words, .ref a0_digester_pending, .int (nI ff), .long (lN lf)])), (a0_digester_sums, aW C.D 8 sf), (a0_digester_words, aW C.D 64 wf), (a0_digester_pending, aB C.D 64 bf), (a0_pad, aB C.D 64 ka), (a0_inner, aB C.D 32 i_f), (a0_part, aB C.D 32 rf), (a0_partNumber, aB C.D 1 t6), (a1, .inr (4, [.ref a1_bytes, .int (nI v_a1_count)])), (a1_bytes, aB C.D n1 t_a1_bytes), (a2, .inr (4, [.ref a2_bytes, .int (nI v_a2_count)])), (a2_bytes, aB C.D n2 t_a2_bytes), (a4, .inr (4, [.ref a4_bytes, .int (nI v_a4_count)])), (a4_bytes, aB C.D n4 t9)] rfl rfl (by omega) (by omega) (by omega) (by omega) (by decide) (Nat.le_of_ble_eq_true rfl) dX2_makeStretch_130 rfl ?_
          refine v_iincN g 1 [(6, .int (nI (i + 1 + 1))), (7, .int (nI (32 * ((i + 1) - 1)))), (5, .int (nI np)), (0, .ref a0), (1, .ref a1), (2, .ref a2), (3, .int (nI p3)), (4, .ref a4)] dX2_makeStretch_133 1 rfl (by decide +kernel) (by decide) rfl ?_
          refine v_goto g 19 dX2_makeStretch_136 (by decide) ?_
          refine v_lpick [0, 2, 3, 4, 5, 6, 7] [(6, .int (nI (i + 1 + 1))), (5, .int (nI np)), (0, .ref a0), (1, .ref a1), (2, .ref a2), (3, .int (nI p3)), (4, .ref a4)] rfl ?_
          exact ih ff lf sf wf bf i_f rf t6 t9 (fun _ => hT) (str_s hT hv1 ht9)
        refine v_icmp_neN g 48 dX2_makeStretch_41 (by decide) (by omega) (by omega) (fun h10 => ?_) (fun h10 => ?_)
        · skip
          refine v_bipush g dX2_makeStretch_48 (v := nI 32) (by decide +kernel) ?_
          exact J50 32 (by unfold st_l; rw [if_neg (by omega)])
        · skip
          refine v_iconst g dX2_makeStretch_44 (v := nI 0) (by decide +kernel) ?_
          refine v_goto g 50 dX2_makeStretch_45 (by decide) ?_
          exact J50 0 (by unfold st_l; rw [if_pos (by omega)])
    · skip
      intro f2 l2 s2 w2 b2 i2 q2 u2 r2 hv0 hv1
      refine v_iload g dX2_makeStretch_19 0 rfl ?_
      refine v_iload g dX2_makeStretch_21 1 rfl ?_
      refine v_icmp_gtN g 139 dX2_makeStretch_23 (by decide) (by omega) (by omega) (fun h11 => ?_) (fun h11 => ?_)
      · skip
        refine v_aload g dX2_makeStretch_139 6 rfl ?_
        refine v_iload_n g dX2_makeStretch_141 3 rfl 5 rfl ?_
        refine pf_X2_49 g dX2_makeStretch_142 13 [(a0, .inr (2, [.ref a0_digester, .ref a0_pad, .ref a0_inner, .ref a0_part, .ref a0_partNumber, .ref a0_labelInfo])), (a0_digester, .inr (0, [.ref a0_digester_sums, .ref a0_digester_words, .ref a0_digester_pending, .int (nI f2), .long (lN l2)])), (a0_digester_sums, aW C.D 8 s2), (a0_digester_words, aW C.D 64 w2), (a0_digester_pending, aB C.D 64 b2), (a0_pad, aB C.D 64 ka), (a0_inner, aB C.D 32 i2), (a0_part, aB C.D 32 q2), (a0_partNumber, aB C.D 1 u2), (a1, .inr (4, [.ref a1_bytes, .int (nI v_a1_count)])), (a1_bytes, aB C.D n1 t_a1_bytes), (a2, .inr (4, [.ref a2_bytes, .int (nI v_a2_count)])), (a2_bytes, aB C.D n2 t_a2_bytes), (a4, .inr (4, [.ref a4_bytes, .int (nI p3)])), (a4_bytes, aB C.D n4 r2)] rfl (Nat.le_of_ble_eq_true rfl) rfl ?_
        exact v_ret g R dX2_makeStretch_145 (by decide) (by decide) ⟨f2, l2, s2, w2, b2, ka, i2, q2, u2, r2, rfl, rfl, (fun j hj => hv1 j (by omega) hj)⟩
      · skip
        exact absurd h11 (by omega)
  exact L19_1 0 (by omega) fa la sa wa ba t_a0_inner t_a0_part t_a0_partNumber t_a4_bytes (fun h => absurd rfl h) (fun j hj => absurd hj (by omega))
set_option maxHeartbeats 4000000 in
set_option maxRecDepth 100000 in
theorem c_KM_stretchA (l : Launch) (D : va_G) (a0 : Nat) (a1 : Nat) (a2 : Nat) (p3 : Nat) (a0_digester : Nat) (a0_pad : Nat) (a0_inner : Nat) (a0_part : Nat) (a0_partNumber : Nat) (a0_labelInfo : Nat) (a0_digester_sums : Nat) (a0_digester_words : Nat) (a0_digester_pending : Nat) (v_a0_digester_filled : Nat) (v_a0_digester_total : Nat) (t_a0_digester_sums : Nat → Wd) (t_a0_digester_words : Nat → Wd) (t_a0_digester_pending : Nat → By) (t_a0_pad : Nat → By) (t_a0_inner : Nat → By) (t_a0_part : Nat → By) (t_a0_partNumber : Nat → By) (a1_bytes : Nat) (v_a1_count : Nat) (n1 : Nat) (t_a1_bytes : Nat → By) (a2_bytes : Nat) (v_a2_count : Nat) (n2 : Nat) (t_a2_bytes : Nat → By)  (h1 : v_a1_count ≤ n1) (h2 : v_a2_count ≤ n2) (h3 : 1 ≤ p3) (h4 : p3 ≤ 1024) (h5 : p3 ≤ n1) (g1 : n1 < 2 ^ 31) (g2 : n2 < 2 ^ 31) : vM l D yX2_makeStretch cX2_makeStretch 8 none { frames := 4, cells := 0, slots := 0, locals := 99 } [.ref a0, .ref a1, .ref a2, .int (nI p3), .ref a1] [(a0, .inr (2, [.ref a0_digester, .ref a0_pad, .ref a0_inner, .ref a0_part, .ref a0_partNumber, .ref a0_labelInfo])), (a0_digester, .inr (0, [.ref a0_digester_sums, .ref a0_digester_words, .ref a0_digester_pending, .int (nI v_a0_digester_filled), .long (lN v_a0_digester_total)])), (a0_digester_sums, aW D 8 t_a0_digester_sums), (a0_digester_words, aW D 64 t_a0_digester_words), (a0_digester_pending, aB D 64 t_a0_digester_pending), (a0_pad, aB D 64 t_a0_pad), (a0_inner, aB D 32 t_a0_inner), (a0_part, aB D 32 t_a0_part), (a0_partNumber, aB D 1 t_a0_partNumber), (a1, .inr (4, [.ref a1_bytes, .int (nI v_a1_count)])), (a1_bytes, aB D n1 t_a1_bytes), (a2, .inr (4, [.ref a2_bytes, .int (nI v_a2_count)])), (a2_bytes, aB D n2 t_a2_bytes)] (fun r wo => ∃ (f1 : Nat) (l1 : Nat) (s1 : Nat → Wd) (w1 : Nat → Wd) (b1 : Nat → By) (k1 : Nat → By) (i1 : Nat → By) (q1 : Nat → By) (u1 : Nat → By) (r1 : Nat → By), r = none ∧ wo = [(a0, .inr (2, [.ref a0_digester, .ref a0_pad, .ref a0_inner, .ref a0_part, .ref a0_partNumber, .ref a0_labelInfo])), (a0_digester, .inr (0, [.ref a0_digester_sums, .ref a0_digester_words, .ref a0_digester_pending, .int (nI f1), .long (lN l1)])), (a0_digester_sums, aW D 8 s1), (a0_digester_words, aW D 64 w1), (a0_digester_pending, aB D 64 b1), (a0_pad, aB D 64 k1), (a0_inner, aB D 32 i1), (a0_part, aB D 32 q1), (a0_partNumber, aB D 1 u1), (a1, .inr (4, [.ref a1_bytes, .int (nI p3)])), (a1_bytes, aB D n1 r1), (a2, .inr (4, [.ref a2_bytes, .int (nI v_a2_count)])), (a2_bytes, aB D n2 t_a2_bytes)] ∧ (∀ j, j < p3 → r1 j = strF t_a1_bytes v_a1_count t_a2_bytes v_a2_count j)) := by
  refine vM.of (by decide) (Nat.le_of_ble_eq_true rfl) (fun C hCl hCD g R => ?_)
  subst hCl; subst hCD
  show VJ C 0 0 0 [(0, .ref a0), (1, .ref a1), (2, .ref a2), (3, .int (nI p3)), (4, .ref a1)] [] [(a0, .inr (2, [.ref a0_digester, .ref a0_pad, .ref a0_inner, .ref a0_part, .ref a0_partNumber, .ref a0_labelInfo])), (a0_digester, .inr (0, [.ref a0_digester_sums, .ref a0_digester_words, .ref a0_digester_pending, .int (nI v_a0_digester_filled), .long (lN v_a0_digester_total)])), (a0_digester_sums, aW C.D 8 t_a0_digester_sums), (a0_digester_words, aW C.D 64 t_a0_digester_words), (a0_digester_pending, aB C.D 64 t_a0_digester_pending), (a0_pad, aB C.D 64 t_a0_pad), (a0_inner, aB C.D 32 t_a0_inner), (a0_part, aB C.D 32 t_a0_part), (a0_partNumber, aB C.D 1 t_a0_partNumber), (a1, .inr (4, [.ref a1_bytes, .int (nI v_a1_count)])), (a1_bytes, aB C.D n1 t_a1_bytes), (a2, .inr (4, [.ref a2_bytes, .int (nI v_a2_count)])), (a2_bytes, aB C.D n2 t_a2_bytes)]
  refine v_aload_n g dX2_makeStretch_0 0 rfl 0 rfl ?_
  refine v_aload_n g dX2_makeStretch_1 1 rfl 1 rfl ?_
  refine v_callV (As := [.ref a1]) (rest := []) (wr := [(a0_inner, aB C.D 32 t_a0_inner), (a0_part, aB C.D 32 t_a0_part), (a0_partNumber, aB C.D 1 t_a0_partNumber), (a2, .inr (4, [.ref a2_bytes, .int (nI v_a2_count)])), (a2_bytes, aB C.D n2 t_a2_bytes)]) cw_X2_39 (hy_X2_setKey) g (c_KM_setKey C.l C.D a0 a1 a0_digester a0_pad a0_inner a0_part a0_partNumber a0_labelInfo a0_digester_sums a0_digester_words a0_digester_pending v_a0_digester_filled v_a0_digester_total t_a0_digester_sums t_a0_digester_words t_a0_digester_pending t_a0_pad a1_bytes v_a1_count n1 t_a1_bytes (by omega) (by omega)) dX2_makeStretch_2 0 rfl rfl rfl (by decide) (by decide) (Nat.le_of_ble_eq_true rfl) [0, 1, 2, 3, 4, 5, 9, 10] [6, 7, 8, 11, 12] rfl rfl (by decide) rfl (by decide) (by decide) _ rfl (fun r wo hp1 => ?_)
  obtain ⟨fa, la, sa, wa, ba, ka, rfl, rfl, ha⟩ := hp1
  refine v_perm [5, 6, 7, 8, 9, 10, 0, 1, 2, 11, 12, 3, 4] [(a0, .inr (2, [.ref a0_digester, .ref a0_pad, .ref a0_inner, .ref a0_part, .ref a0_partNumber, .ref a0_labelInfo])), (a0_digester, .inr (0, [.ref a0_digester_sums, .ref a0_digester_words, .ref a0_digester_pending, .int (nI fa), .long (lN la)])), (a0_digester_sums, aW C.D 8 sa), (a0_digester_words, aW C.D 64 wa), (a0_digester_pending, aB C.D 64 ba), (a0_pad, aB C.D 64 ka), (a0_inner, aB C.D 32 t_a0_inner), (a0_part, aB C.D 32 t_a0_part), (a0_partNumber, aB C.D 1 t_a0_partNumber), (a1, .inr (4, [.ref a1_bytes, .int (nI v_a1_count)])), (a1_bytes, aB C.D n1 t_a1_bytes), (a2, .inr (4, [.ref a2_bytes, .int (nI v_a2_count)])), (a2_bytes, aB C.D n2 t_a2_bytes)] (by decide) rfl rfl ?_
  show VJ C 0 0 5 [(0, .ref a0), (1, .ref a1), (2, .ref a2), (3, .int (nI p3)), (4, .ref a1)] [] [(a0, .inr (2, [.ref a0_digester, .ref a0_pad, .ref a0_inner, .ref a0_part, .ref a0_partNumber, .ref a0_labelInfo])), (a0_digester, .inr (0, [.ref a0_digester_sums, .ref a0_digester_words, .ref a0_digester_pending, .int (nI fa), .long (lN la)])), (a0_digester_sums, aW C.D 8 sa), (a0_digester_words, aW C.D 64 wa), (a0_digester_pending, aB C.D 64 ba), (a0_pad, aB C.D 64 ka), (a0_inner, aB C.D 32 t_a0_inner), (a0_part, aB C.D 32 t_a0_part), (a0_partNumber, aB C.D 1 t_a0_partNumber), (a1, .inr (4, [.ref a1_bytes, .int (nI v_a1_count)])), (a1_bytes, aB C.D n1 t_a1_bytes), (a2, .inr (4, [.ref a2_bytes, .int (nI v_a2_count)])), (a2_bytes, aB C.D n2 t_a2_bytes)]
  refine v_iload_n g dX2_makeStretch_5 3 rfl 3 rfl ?_
  refine v_bipush g dX2_makeStretch_6 (v := nI 32) (by decide +kernel) ?_
  refine v_iaddN g dX2_makeStretch_8 ?_
  refine v_iconst g dX2_makeStretch_9 (v := nI 1) (by decide +kernel) ?_
  refine v_isubN g dX2_makeStretch_10 (by omega) ?_
  refine v_bipush g dX2_makeStretch_11 (v := nI 32) (by decide +kernel) ?_
  refine v_idivN g dX2_makeStretch_13 (by omega) (by omega) (by omega) ?_
  refine v_istore g [(5, .int (nI (((p3 + 32) - 1) / 32))), (0, .ref a0), (1, .ref a1), (2, .ref a2), (3, .int (nI p3)), (4, .ref a1)] dX2_makeStretch_14 (by decide) rfl ?_
  refine v_iconst g dX2_makeStretch_16 (v := nI 1) (by decide +kernel) ?_
  refine v_istore g [(6, .int (nI 1)), (5, .int (nI (((p3 + 32) - 1) / 32))), (0, .ref a0), (1, .ref a1), (2, .ref a2), (3, .int (nI p3)), (4, .ref a1)] dX2_makeStretch_17 (by decide) rfl ?_
  obtain ⟨np, hnp⟩ : ∃ z : Nat, z = (p3 + 32 - 1) / 32 := ⟨_, rfl⟩
  rw [← hnp]
  have L19_1 : ∀ i : Nat, i ≤ np → ∀ (f2 : Nat) (l2 : Nat) (s2 : Nat → Wd) (w2 : Nat → Wd) (b2 : Nat → By) (i2 : Nat → By) (q2 : Nat → By) (u2 : Nat → By) (r2 : Nat → By), (i ≠ 0 → ∀ j, j < 32 → q2 j = stT (padF t_a1_bytes v_a1_count) t_a2_bytes v_a2_count i j) → (∀ j, j < 32 * i → j < p3 → r2 j = strF t_a1_bytes v_a1_count t_a2_bytes v_a2_count j) → VJ C 0 0 19 [(6, .int (nI (i + 1))), (5, .int (nI np)), (0, .ref a0), (1, .ref a1), (2, .ref a2), (3, .int (nI p3)), (4, .ref a1)] [] [(a0, .inr (2, [.ref a0_digester, .ref a0_pad, .ref a0_inner, .ref a0_part, .ref a0_partNumber, .ref a0_labelInfo])), (a0_digester, .inr (0, [.ref a0_digester_sums, .ref a0_digester_words, .ref a0_digester_pending, .int (nI f2), .long (lN l2)])), (a0_digester_sums, aW C.D 8 s2), (a0_digester_words, aW C.D 64 w2), (a0_digester_pending, aB C.D 64 b2), (a0_pad, aB C.D 64 ka), (a0_inner, aB C.D 32 i2), (a0_part, aB C.D 32 q2), (a0_partNumber, aB C.D 1 u2), (a1, .inr (4, [.ref a1_bytes, .int (nI v_a1_count)])), (a1_bytes, aB C.D n1 r2), (a2, .inr (4, [.ref a2_bytes, .int (nI v_a2_count)])), (a2_bytes, aB C.D n2 t_a2_bytes)] := by
    refine v_for (np) ?_ ?_
    · skip
      intro i hii ih f2 l2 s2 w2 b2 i2 q2 u2 r2 hv0 hv1
      refine v_iload g dX2_makeStretch_19 0 rfl ?_
      refine v_iload g dX2_makeStretch_21 1 rfl ?_
      refine v_icmp_gtN g 139 dX2_makeStretch_23 (by decide) (by omega) (by omega) (fun h2 => ?_) (fun h2 => ?_)
      · skip
        exact absurd h2 (by omega)
      · skip
        refine v_aload_n g dX2_makeStretch_26 0 rfl 2 rfl ?_
        refine v_callV (As := []) (rest := []) (wr := [(a0_inner, aB C.D 32 i2), (a0_part, aB C.D 32 q2), (a0_partNumber, aB C.D 1 u2), (a1, .inr (4, [.ref a1_bytes, .int (nI v_a1_count)])), (a1_bytes, aB C.D n1 r2), (a2, .inr (4, [.ref a2_bytes, .int (nI v_a2_count)])), (a2_bytes, aB C.D n2 t_a2_bytes)]) cw_X2_43 (hy_X2_startMac) g (c_KM_startMac C.l C.D a0 a0_digester a0_pad a0_inner a0_part a0_partNumber a0_labelInfo a0_digester_sums a0_digester_words a0_digester_pending f2 l2 s2 w2 b2 ka ) dX2_makeStretch_27 0 rfl rfl rfl (by decide) (by decide) (Nat.le_of_ble_eq_true rfl) [0, 1, 2, 3, 4, 5] [6, 7, 8, 9, 10, 11, 12] rfl rfl (by decide) rfl (by decide) (by decide) _ rfl (fun r wo hp3 => ?_)
        obtain ⟨sb, wb_, bb, rfl, rfl, hb⟩ := hp3
        refine v_perm [7, 8, 9, 10, 11, 12, 0, 1, 2, 3, 4, 5, 6] [(a0, .inr (2, [.ref a0_digester, .ref a0_pad, .ref a0_inner, .ref a0_part, .ref a0_partNumber, .ref a0_labelInfo])), (a0_digester, .inr (0, [.ref a0_digester_sums, .ref a0_digester_words, .ref a0_digester_pending, .int (nI 0), .long (lN 64)])), (a0_digester_sums, aW C.D 8 sb), (a0_digester_words, aW C.D 64 wb_), (a0_digester_pending, aB C.D 64 bb), (a0_pad, aB C.D 64 ka), (a0_inner, aB C.D 32 i2), (a0_part, aB C.D 32 q2), (a0_partNumber, aB C.D 1 u2), (a1, .inr (4, [.ref a1_bytes, .int (nI v_a1_count)])), (a1_bytes, aB C.D n1 r2), (a2, .inr (4, [.ref a2_bytes, .int (nI v_a2_count)])), (a2_bytes, aB C.D n2 t_a2_bytes)] (by decide) rfl rfl ?_
        show VJ C 0 0 30 [(6, .int (nI (i + 1))), (5, .int (nI np)), (0, .ref a0), (1, .ref a1), (2, .ref a2), (3, .int (nI p3)), (4, .ref a1)] [] [(a0, .inr (2, [.ref a0_digester, .ref a0_pad, .ref a0_inner, .ref a0_part, .ref a0_partNumber, .ref a0_labelInfo])), (a0_digester, .inr (0, [.ref a0_digester_sums, .ref a0_digester_words, .ref a0_digester_pending, .int (nI 0), .long (lN 64)])), (a0_digester_sums, aW C.D 8 sb), (a0_digester_words, aW C.D 64 wb_), (a0_digester_pending, aB C.D 64 bb), (a0_pad, aB C.D 64 ka), (a0_inner, aB C.D 32 i2), (a0_part, aB C.D 32 q2), (a0_partNumber, aB C.D 1 u2), (a1, .inr (4, [.ref a1_bytes, .int (nI v_a1_count)])), (a1_bytes, aB C.D n1 r2), (a2, .inr (4, [.ref a2_bytes, .int (nI v_a2_count)])), (a2_bytes, aB C.D n2 t_a2_bytes)]
        refine v_aload_n g dX2_makeStretch_30 0 rfl 2 rfl ?_
        refine gf_X2_35 g dX2_makeStretch_31 0 rfl rfl ?_
        refine v_aload_n g dX2_makeStretch_34 0 rfl 2 rfl ?_
        refine gf_X2_20 g dX2_makeStretch_35 0 rfl rfl ?_
        refine v_iload g dX2_makeStretch_38 0 rfl ?_
        refine v_iconst g dX2_makeStretch_40 (v := nI 1) (by decide +kernel) ?_
        have J50 : ∀ (pl : Nat), (pl = st_l i) → VJ C 0 0 50 [(6, .int (nI (i + 1))), (5, .int (nI np)), (0, .ref a0), (1, .ref a1), (2, .ref a2), (3, .int (nI p3)), (4, .ref a1)] [.int (nI pl), .ref a0_part, .ref a0_digester] [(a0, .inr (2, [.ref a0_digester, .ref a0_pad, .ref a0_inner, .ref a0_part, .ref a0_partNumber, .ref a0_labelInfo])), (a0_digester, .inr (0, [.ref a0_digester_sums, .ref a0_digester_words, .ref a0_digester_pending, .int (nI 0), .long (lN 64)])), (a0_digester_sums, aW C.D 8 sb), (a0_digester_words, aW C.D 64 wb_), (a0_digester_pending, aB C.D 64 bb), (a0_pad, aB C.D 64 ka), (a0_inner, aB C.D 32 i2), (a0_part, aB C.D 32 q2), (a0_partNumber, aB C.D 1 u2), (a1, .inr (4, [.ref a1_bytes, .int (nI v_a1_count)])), (a1_bytes, aB C.D n1 r2), (a2, .inr (4, [.ref a2_bytes, .int (nI v_a2_count)])), (a2_bytes, aB C.D n2 t_a2_bytes)] := by
          intro pl hj0
          refine v_iconst g dX2_makeStretch_50 (v := nI 0) (by decide +kernel) ?_
          refine v_callV (As := [.ref a0_part, .int (nI pl), .int (nI 0)]) (rest := []) (wr := [(a0, .inr (2, [.ref a0_digester, .ref a0_pad, .ref a0_inner, .ref a0_part, .ref a0_partNumber, .ref a0_labelInfo])), (a0_pad, aB C.D 64 ka), (a0_inner, aB C.D 32 i2), (a0_partNumber, aB C.D 1 u2), (a1, .inr (4, [.ref a1_bytes, .int (nI v_a1_count)])), (a1_bytes, aB C.D n1 r2), (a2, .inr (4, [.ref a2_bytes, .int (nI v_a2_count)])), (a2_bytes, aB C.D n2 t_a2_bytes)]) cw_X2_53 (hy_X0_put) g (c_DG_put C.l C.D a0_digester a0_part pl 0#32 a0_digester_sums a0_digester_words a0_digester_pending 0 64 sb wb_ bb 32 q2 (fun j => ka j ^^^ 54#8) 64 rfl rfl hb (by rw [hj0]; unfold st_l; split <;> omega) (by omega)) dX2_makeStretch_51 1 rfl rfl rfl (by decide) (by decide) (Nat.le_of_ble_eq_true rfl) [1, 2, 3, 4, 7] [0, 5, 6, 8, 9, 10, 11, 12] rfl rfl (by decide) rfl (by decide) (by decide) _ rfl (fun r wo hp4 => ?_)
          obtain ⟨sc, wc, bc, rfl, rfl, hc⟩ := hp4
          refine v_perm [0, 8, 9, 10, 11, 1, 2, 12, 3, 4, 5, 6, 7] [(a0, .inr (2, [.ref a0_digester, .ref a0_pad, .ref a0_inner, .ref a0_part, .ref a0_partNumber, .ref a0_labelInfo])), (a0_digester, .inr (0, [.ref a0_digester_sums, .ref a0_digester_words, .ref a0_digester_pending, .int (nI ((64 + pl) % 64)), .long (lN (64 + pl))])), (a0_digester_sums, aW C.D 8 sc), (a0_digester_words, aW C.D 64 wc), (a0_digester_pending, aB C.D 64 bc), (a0_pad, aB C.D 64 ka), (a0_inner, aB C.D 32 i2), (a0_part, aB C.D 32 q2), (a0_partNumber, aB C.D 1 u2), (a1, .inr (4, [.ref a1_bytes, .int (nI v_a1_count)])), (a1_bytes, aB C.D n1 r2), (a2, .inr (4, [.ref a2_bytes, .int (nI v_a2_count)])), (a2_bytes, aB C.D n2 t_a2_bytes)] (by decide) rfl rfl ?_
          show VJ C 0 0 54 [(6, .int (nI (i + 1))), (5, .int (nI np)), (0, .ref a0), (1, .ref a1), (2, .ref a2), (3, .int (nI p3)), (4, .ref a1)] [] [(a0, .inr (2, [.ref a0_digester, .ref a0_pad, .ref a0_inner, .ref a0_part, .ref a0_partNumber, .ref a0_labelInfo])), (a0_digester, .inr (0, [.ref a0_digester_sums, .ref a0_digester_words, .ref a0_digester_pending, .int (nI ((64 + pl) % 64)), .long (lN (64 + pl))])), (a0_digester_sums, aW C.D 8 sc), (a0_digester_words, aW C.D 64 wc), (a0_digester_pending, aB C.D 64 bc), (a0_pad, aB C.D 64 ka), (a0_inner, aB C.D 32 i2), (a0_part, aB C.D 32 q2), (a0_partNumber, aB C.D 1 u2), (a1, .inr (4, [.ref a1_bytes, .int (nI v_a1_count)])), (a1_bytes, aB C.D n1 r2), (a2, .inr (4, [.ref a2_bytes, .int (nI v_a2_count)])), (a2_bytes, aB C.D n2 t_a2_bytes)]
          refine v_aload_n g dX2_makeStretch_54 0 rfl 2 rfl ?_
          refine gf_X2_35 g dX2_makeStretch_55 0 rfl rfl ?_
          refine v_aload_n g dX2_makeStretch_58 2 rfl 4 rfl ?_
          refine gf_X2_46 g dX2_makeStretch_59 11 rfl rfl ?_
          refine v_aload_n g dX2_makeStretch_62 2 rfl 4 rfl ?_
          refine gf_X2_49 g dX2_makeStretch_63 11 rfl rfl ?_
          refine v_iconst g dX2_makeStretch_66 (v := nI 0) (by decide +kernel) ?_
          refine v_callV (As := [.ref a2_bytes, .int (nI v_a2_count), .int (nI 0)]) (rest := []) (wr := [(a0, .inr (2, [.ref a0_digester, .ref a0_pad, .ref a0_inner, .ref a0_part, .ref a0_partNumber, .ref a0_labelInfo])), (a0_pad, aB C.D 64 ka), (a0_inner, aB C.D 32 i2), (a0_part, aB C.D 32 q2), (a0_partNumber, aB C.D 1 u2), (a1, .inr (4, [.ref a1_bytes, .int (nI v_a1_count)])), (a1_bytes, aB C.D n1 r2), (a2, .inr (4, [.ref a2_bytes, .int (nI v_a2_count)]))]) cw_X2_53 (hy_X0_put) g (c_DG_put C.l C.D a0_digester a2_bytes v_a2_count 0#32 a0_digester_sums a0_digester_words a0_digester_pending ((64 + pl) % 64) (64 + pl) sc wc bc n2 t_a2_bytes (cat (fun j => ka j ^^^ 54#8) 64 q2) (64 + pl) rfl rfl (dgR_x0 hc) (by omega) (by omega)) dX2_makeStretch_67 1 rfl rfl rfl (by decide) (by decide) (Nat.le_of_ble_eq_true rfl) [1, 2, 3, 4, 12] [0, 5, 6, 7, 8, 9, 10, 11] rfl rfl (by decide) rfl (by decide) (by decide) _ rfl (fun r wo hp5 => ?_)
          obtain ⟨sd, wd, bd, rfl, rfl, hd⟩ := hp5
          refine v_perm [0, 8, 9, 10, 11, 1, 2, 3, 4, 5, 6, 7, 12] [(a0, .inr (2, [.ref a0_digester, .ref a0_pad, .ref a0_inner, .ref a0_part, .ref a0_partNumber, .ref a0_labelInfo])), (a0_digester, .inr (0, [.ref a0_digester_sums, .ref a0_digester_words, .ref a0_digester_pending, .int (nI (((64 + pl) + v_a2_count) % 64)), .long (lN ((64 + pl) + v_a2_count))])), (a0_digester_sums, aW C.D 8 sd), (a0_digester_words, aW C.D 64 wd), (a0_digester_pending, aB C.D 64 bd), (a0_pad, aB C.D 64 ka), (a0_inner, aB C.D 32 i2), (a0_part, aB C.D 32 q2), (a0_partNumber, aB C.D 1 u2), (a1, .inr (4, [.ref a1_bytes, .int (nI v_a1_count)])), (a1_bytes, aB C.D n1 r2), (a2, .inr (4, [.ref a2_bytes, .int (nI v_a2_count)])), (a2_bytes, aB C.D n2 t_a2_bytes)] (by decide) rfl rfl ?_
          show VJ C 0 0 70 [(6, .int (nI (i + 1))), (5, .int (nI np)), (0, .ref a0), (1, .ref a1), (2, .ref a2), (3, .int (nI p3)), (4, .ref a1)] [] [(a0, .inr (2, [.ref a0_digester, .ref a0_pad, .ref a0_inner, .ref a0_part, .ref a0_partNumber, .ref a0_labelInfo])), (a0_digester, .inr (0, [.ref a0_digester_sums, .ref a0_digester_words, .ref a0_digester_pending, .int (nI (((64 + pl) + v_a2_count) % 64)), .long (lN ((64 + pl) + v_a2_count))])), (a0_digester_sums, aW C.D 8 sd), (a0_digester_words, aW C.D 64 wd), (a0_digester_pending, aB C.D 64 bd), (a0_pad, aB C.D 64 ka), (a0_inner, aB C.D 32 i2), (a0_part, aB C.D 32 q2), (a0_partNumber, aB C.D 1 u2), (a1, .inr (4, [.ref a1_bytes, .int (nI v_a1_count)])), (a1_bytes, aB C.D n1 r2), (a2, .inr (4, [.ref a2_bytes, .int (nI v_a2_count)])), (a2_bytes, aB C.D n2 t_a2_bytes)]
          refine v_aload_n g dX2_makeStretch_70 0 rfl 2 rfl ?_
          refine gf_X2_23 g dX2_makeStretch_71 0 rfl rfl ?_
          refine v_iconst g dX2_makeStretch_74 (v := nI 0) (by decide +kernel) ?_
          refine v_iload g dX2_makeStretch_75 0 rfl ?_
          refine v_i2bN g dX2_makeStretch_77 ?_
          obtain ⟨t6, ht6⟩ : ∃ z : Nat → By, z = va_up u2 0 (BitVec.ofNat 8 (i + 1)) := ⟨_, rfl⟩
          refine v_bastB g (BitVec.ofNat 8 (i + 1)) rfl t6 ht6 8 [(a0, .inr (2, [.ref a0_digester, .ref a0_pad, .ref a0_inner, .ref a0_part, .ref a0_partNumber, .ref a0_labelInfo])), (a0_digester, .inr (0, [.ref a0_digester_sums, .ref a0_digester_words, .ref a0_digester_pending, .int (nI (((64 + pl) + v_a2_count) % 64)), .long (lN ((64 + pl) + v_a2_count))])), (a0_digester_sums, aW C.D 8 sd), (a0_digester_words, aW C.D 64 wd), (a0_digester_pending, aB C.D 64 bd), (a0_pad, aB C.D 64 ka), (a0_inner, aB C.D 32 i2), (a0_part, aB C.D 32 q2), (a0_partNumber, aB C.D 1 t6), (a1, .inr (4, [.ref a1_bytes, .int (nI v_a1_count)])), (a1_bytes, aB C.D n1 r2), (a2, .inr (4, [.ref a2_bytes, .int (nI v_a2_count)])), (a2_bytes, aB C.D n2 t_a2_bytes)] rfl (by decide) (by decide) dX2_makeStretch_78 rfl ?_
          refine v_aload_n g dX2_makeStretch_79 0 rfl 2 rfl ?_
          refine gf_X2_35 g dX2_makeStretch_80 0 rfl rfl ?_
          refine v_aload_n g dX2_makeStretch_83 0 rfl 2 rfl ?_
          refine gf_X2_23 g dX2_makeStretch_84 0 rfl rfl ?_
          refine v_iconst g dX2_makeStretch_87 (v := nI 1) (by decide +kernel) ?_
          refine v_iconst g dX2_makeStretch_88 (v := nI 0) (by decide +kernel) ?_
          refine v_callV (As := [.ref a0_partNumber, .int (nI 1), .int (nI 0)]) (rest := []) (wr := [(a0, .inr (2, [.ref a0_digester, .ref a0_pad, .ref a0_inner, .ref a0_part, .ref a0_partNumber, .ref a0_labelInfo])), (a0_pad, aB C.D 64 ka), (a0_inner, aB C.D 32 i2), (a0_part, aB C.D 32 q2), (a1, .inr (4, [.ref a1_bytes, .int (nI v_a1_count)])), (a1_bytes, aB C.D n1 r2), (a2, .inr (4, [.ref a2_bytes, .int (nI v_a2_count)])), (a2_bytes, aB C.D n2 t_a2_bytes)]) cw_X2_53 (hy_X0_put) g (c_DG_put C.l C.D a0_digester a0_partNumber 1 0#32 a0_digester_sums a0_digester_words a0_digester_pending (((64 + pl) + v_a2_count) % 64) ((64 + pl) + v_a2_count) sd wd bd 1 t6 (cat (cat (fun j => ka j ^^^ 54#8) 64 q2) (64 + pl) t_a2_bytes) (64 + pl + v_a2_count) rfl rfl (dgR_x0 hd) (by omega) (by omega)) dX2_makeStretch_89 1 rfl rfl rfl (by decide) (by decide) (Nat.le_of_ble_eq_true rfl) [1, 2, 3, 4, 8] [0, 5, 6, 7, 9, 10, 11, 12] rfl rfl (by decide) rfl (by decide) (by decide) _ rfl (fun r wo hp7 => ?_)
          obtain ⟨se, we, be, rfl, rfl, he⟩ := hp7
          refine v_perm [0, 8, 9, 10, 11, 1, 2, 3, 12, 4, 5, 6, 7] [(a0, .inr (2, [.ref a0_digester, .ref a0_pad, .ref a0_inner, .ref a0_part, .ref a0_partNumber, .ref a0_labelInfo])), (a0_digester, .inr (0, [.ref a0_digester_sums, .ref a0_digester_words, .ref a0_digester_pending, .int (nI (((64 + pl + v_a2_count) + 1) % 64)), .long (lN ((64 + pl + v_a2_count) + 1))])), (a0_digester_sums, aW C.D 8 se), (a0_digester_words, aW C.D 64 we), (a0_digester_pending, aB C.D 64 be), (a0_pad, aB C.D 64 ka), (a0_inner, aB C.D 32 i2), (a0_part, aB C.D 32 q2), (a0_partNumber, aB C.D 1 t6), (a1, .inr (4, [.ref a1_bytes, .int (nI v_a1_count)])), (a1_bytes, aB C.D n1 r2), (a2, .inr (4, [.ref a2_bytes, .int (nI v_a2_count)])), (a2_bytes, aB C.D n2 t_a2_bytes)] (by decide) rfl rfl ?_
          show VJ C 0 0 92 [(6, .int (nI (i + 1))), (5, .int (nI np)), (0, .ref a0), (1, .ref a1), (2, .ref a2), (3, .int (nI p3)), (4, .ref a1)] [] [(a0, .inr (2, [.ref a0_digester, .ref a0_pad, .ref a0_inner, .ref a0_part, .ref a0_partNumber, .ref a0_labelInfo])), (a0_digester, .inr (0, [.ref a0_digester_sums, .ref a0_digester_words, .ref a0_digester_pending, .int (nI (((64 + pl + v_a2_count) + 1) % 64)), .long (lN ((64 + pl + v_a2_count) + 1))])), (a0_digester_sums, aW C.D 8 se), (a0_digester_words, aW C.D 64 we), (a0_digester_pending, aB C.D 64 be), (a0_pad, aB C.D 64 ka), (a0_inner, aB C.D 32 i2), (a0_part, aB C.D 32 q2), (a0_partNumber, aB C.D 1 t6), (a1, .inr (4, [.ref a1_bytes, .int (nI v_a1_count)])), (a1_bytes, aB C.D n1 r2), (a2, .inr (4, [.ref a2_bytes, .int (nI v_a2_count)])), (a2_bytes, aB C.D n2 t_a2_bytes)]
          have he2 : dgR (cat (fun j => ka j ^^^ 54#8) 64 (cat (cat q2 pl t_a2_bytes) (pl + v_a2_count) t6)) (64 + (pl + v_a2_count + 1)) se be := by
            have h9 := dgR_x0 he
            rw [cat_assoc, show 64 + pl + v_a2_count = 64 + (pl + v_a2_count) by omega, cat_assoc] at h9
            rw [cat_assoc q2]; exact h9
          have hpl : pl ≤ 32 := by rw [hj0]; unfold st_l; split <;> omega
          refine v_aload_n g dX2_makeStretch_92 0 rfl 2 rfl ?_
          refine v_aload_n g dX2_makeStretch_93 0 rfl 2 rfl ?_
          refine gf_X2_20 g dX2_makeStretch_94 0 rfl rfl ?_
          refine v_callV (As := [.ref a0_part]) (rest := []) (wr := [(a0_partNumber, aB C.D 1 t6), (a1, .inr (4, [.ref a1_bytes, .int (nI v_a1_count)])), (a1_bytes, aB C.D n1 r2), (a2, .inr (4, [.ref a2_bytes, .int (nI v_a2_count)])), (a2_bytes, aB C.D n2 t_a2_bytes)]) cw_X2_57 (hy_X2_finishMac) g (c_KM_finishMac C.l C.D a0 a0_part a0_digester a0_pad a0_inner a0_part a0_partNumber a0_labelInfo a0_digester_sums a0_digester_words a0_digester_pending (((64 + pl + v_a2_count) + 1) % 64) ((64 + pl + v_a2_count) + 1) se we be ka i2 32 q2 (cat (fun j => ka j ^^^ 54#8) 64 (cat (cat q2 pl t_a2_bytes) (pl + v_a2_count) t6)) (64 + (pl + v_a2_count + 1)) (by omega) (by omega) he2 (by omega) (by omega) (by omega)) dX2_makeStretch_97 0 rfl rfl rfl (by decide) (by decide) (Nat.le_of_ble_eq_true rfl) [0, 1, 2, 3, 4, 5, 6, 7] [8, 9, 10, 11, 12] rfl rfl (by decide) rfl (by decide) (by decide) _ rfl (fun r wo hp8 => ?_)
          obtain ⟨ff, lf, sf, wf, bf, i_f, rf, rfl, rfl, hf, hf2⟩ := hp8
          refine v_perm [5, 6, 7, 8, 9, 10, 11, 12, 0, 1, 2, 3, 4] [(a0, .inr (2, [.ref a0_digester, .ref a0_pad, .ref a0_inner, .ref a0_part, .ref a0_partNumber, .ref a0_labelInfo])), (a0_digester, .inr (0, [.ref a0_digester_sums, .ref a0_digester_words, .ref a0_digester_pending, .int (nI ff), .long (lN lf)])), (a0_digester_sums, aW C.D 8 sf), (a0_digester_words, aW C.D 64 wf), (a0_digester_pending, aB C.D 64 bf), (a0_pad, aB C.D 64 ka), (a0_inner, aB C.D 32 i_f), (a0_part, aB C.D 32 rf), (a0_partNumber, aB C.D 1 t6), (a1, .inr (4, [.ref a1_bytes, .int (nI v_a1_count)])), (a1_bytes, aB C.D n1 r2), (a2, .inr (4, [.ref a2_bytes, .int (nI v_a2_count)])), (a2_bytes, aB C.D n2 t_a2_bytes)] (by decide) rfl rfl ?_
          show VJ C 0 0 100 [(6, .int (nI (i + 1))), (5, .int (nI np)), (0, .ref a0), (1, .ref a1), (2, .ref a2), (3, .int (nI p3)), (4, .ref a1)] [] [(a0, .inr (2, [.ref a0_digester, .ref a0_pad, .ref a0_inner, .ref a0_part, .ref a0_partNumber, .ref a0_labelInfo])), (a0_digester, .inr (0, [.ref a0_digester_sums, .ref a0_digester_words, .ref a0_digester_pending, .int (nI ff), .long (lN lf)])), (a0_digester_sums, aW C.D 8 sf), (a0_digester_words, aW C.D 64 wf), (a0_digester_pending, aB C.D 64 bf), (a0_pad, aB C.D 64 ka), (a0_inner, aB C.D 32 i_f), (a0_part, aB C.D 32 rf), (a0_partNumber, aB C.D 1 t6), (a1, .inr (4, [.ref a1_bytes, .int (nI v_a1_count)])), (a1_bytes, aB C.D n1 r2), (a2, .inr (4, [.ref a2_bytes, .int (nI v_a2_count)])), (a2_bytes, aB C.D n2 t_a2_bytes)]
          have hT : ∀ j, j < 32 → rf j = stT (padF t_a1_bytes v_a1_count) t_a2_bytes v_a2_count (i + 1) j := by
            intro j hj
            rw [hf j hj]
            simp only [stT]
            rw [hj0]
            refine congrFun (macP_congr ha (cat_congr (cat_congr (fun q hq => ?_) (fun _ _ => rfl)) (fun q hq => ?_))) j
            · unfold st_l at hq; by_cases e : i = 0
              · rw [if_pos e] at hq; omega
              · rw [if_neg e] at hq; exact hv0 e q hq
            · rw [ht6, show q = 0 by omega, va_up_at]
          refine v_bipush g dX2_makeStretch_100 (v := nI 32) (by decide +kernel) ?_
          refine v_iload g dX2_makeStretch_102 0 rfl ?_
          refine v_iconst g dX2_makeStretch_104 (v := nI 1) (by decide +kernel) ?_
          refine v_isubN g dX2_makeStretch_105 (by omega) ?_
          refine v_imulN g dX2_makeStretch_106 ?_
          refine v_istore g [(7, .int (nI (32 * ((i + 1) - 1)))), (6, .int (nI (i + 1))), (5, .int (nI np)), (0, .ref a0), (1, .ref a1), (2, .ref a2), (3, .int (nI p3)), (4, .ref a1)] dX2_makeStretch_107 (by decide) rfl ?_
          refine v_aload_n g dX2_makeStretch_109 0 rfl 3 rfl ?_
          refine gf_X2_20 g dX2_makeStretch_110 0 rfl rfl ?_
          refine v_iconst g dX2_makeStretch_113 (v := nI 0) (by decide +kernel) ?_
          refine v_aload g dX2_makeStretch_114 7 rfl ?_
          refine gf_X2_46 g dX2_makeStretch_116 9 rfl rfl ?_
          refine v_iload g dX2_makeStretch_119 0 rfl ?_
          refine v_bipush g dX2_makeStretch_121 (v := nI 32) (by decide +kernel) ?_
          refine v_iload_n g dX2_makeStretch_123 3 rfl 6 rfl ?_
          refine v_iload g dX2_makeStretch_124 0 rfl ?_
          refine v_isubN g dX2_makeStretch_126 (by omega) ?_
          refine v_min g mn_X2_61 (by omega) (by omega) (by decide) (Nat.le_of_ble_eq_true rfl) (by decide) (by decide) dX2_makeStretch_127 ?_
          obtain ⟨t9, ht9⟩ : ∃ z : Nat → By, z = va_cpy rf r2 0 (32 * ((i + 1) - 1)) (min 32 (p3 - (32 * ((i + 1) - 1)))) := ⟨_, rfl⟩
          refine v_acpB g ac_X2_67 t9 ht9 7 10 [(a0, .inr (2, [.ref a0_digester, .ref a0_pad, .ref a0_inner, .ref a0_part, .ref a0_partNumber, .ref a0_labelInfo])), (a0_digester, .inr (0, [.ref a0_digester_sums, .ref a0_digester_words, .ref a0_digester_pending, .int (nI ff), .long (lN lf)])), (a0_digester_sums, aW C.D 8 sf), (a0_digester_words, aW C.D 64 wf), (a0_digester_pending, aB C.D 64 bf), (a0_pad, aB C.D 64 ka), (a0_inner, aB C.D 32 i_f), (a0_part, aB C.D 32 rf), (a0_partNumber, aB C.D 1 t6), (a1, .inr (4, [.ref a1_bytes, .int (nI v_a1_count)])), (a1_bytes, aB C.D n1 t9), (a2, .inr (4, [.ref a2_bytes, .int (nI v_a2_count)])), (a2_bytes, aB C.D n2 t_a2_bytes)] rfl rfl (by omega) (by omega) (by omega) (by omega) (by decide) (Nat.le_of_ble_eq_true rfl) dX2_makeStretch_130 rfl ?_
          refine v_iincN g 1 [(6, .int (nI (i + 1 + 1))), (7, .int (nI (32 * ((i + 1) - 1)))), (5, .int (nI np)), (0, .ref a0), (1, .ref a1), (2, .ref a2), (3, .int (nI p3)), (4, .ref a1)] dX2_makeStretch_133 1 rfl (by decide +kernel) (by decide) rfl ?_
          refine v_goto g 19 dX2_makeStretch_136 (by decide) ?_
          refine v_lpick [0, 2, 3, 4, 5, 6, 7] [(6, .int (nI (i + 1 + 1))), (5, .int (nI np)), (0, .ref a0), (1, .ref a1), (2, .ref a2), (3, .int (nI p3)), (4, .ref a1)] rfl ?_
          exact ih ff lf sf wf bf i_f rf t6 t9 (fun _ => hT) (str_s hT hv1 ht9)
        refine v_icmp_neN g 48 dX2_makeStretch_41 (by decide) (by omega) (by omega) (fun h10 => ?_) (fun h10 => ?_)
        · skip
          refine v_bipush g dX2_makeStretch_48 (v := nI 32) (by decide +kernel) ?_
          exact J50 32 (by unfold st_l; rw [if_neg (by omega)])
        · skip
          refine v_iconst g dX2_makeStretch_44 (v := nI 0) (by decide +kernel) ?_
          refine v_goto g 50 dX2_makeStretch_45 (by decide) ?_
          exact J50 0 (by unfold st_l; rw [if_pos (by omega)])
    · skip
      intro f2 l2 s2 w2 b2 i2 q2 u2 r2 hv0 hv1
      refine v_iload g dX2_makeStretch_19 0 rfl ?_
      refine v_iload g dX2_makeStretch_21 1 rfl ?_
      refine v_icmp_gtN g 139 dX2_makeStretch_23 (by decide) (by omega) (by omega) (fun h11 => ?_) (fun h11 => ?_)
      · skip
        refine v_aload g dX2_makeStretch_139 6 rfl ?_
        refine v_iload_n g dX2_makeStretch_141 3 rfl 5 rfl ?_
        refine pf_X2_49 g dX2_makeStretch_142 9 [(a0, .inr (2, [.ref a0_digester, .ref a0_pad, .ref a0_inner, .ref a0_part, .ref a0_partNumber, .ref a0_labelInfo])), (a0_digester, .inr (0, [.ref a0_digester_sums, .ref a0_digester_words, .ref a0_digester_pending, .int (nI f2), .long (lN l2)])), (a0_digester_sums, aW C.D 8 s2), (a0_digester_words, aW C.D 64 w2), (a0_digester_pending, aB C.D 64 b2), (a0_pad, aB C.D 64 ka), (a0_inner, aB C.D 32 i2), (a0_part, aB C.D 32 q2), (a0_partNumber, aB C.D 1 u2), (a1, .inr (4, [.ref a1_bytes, .int (nI p3)])), (a1_bytes, aB C.D n1 r2), (a2, .inr (4, [.ref a2_bytes, .int (nI v_a2_count)])), (a2_bytes, aB C.D n2 t_a2_bytes)] rfl (Nat.le_of_ble_eq_true rfl) rfl ?_
        exact v_ret g R dX2_makeStretch_145 (by decide) (by decide) ⟨f2, l2, s2, w2, b2, ka, i2, q2, u2, r2, rfl, rfl, (fun j hj => hv1 j (by omega) hj)⟩
      · skip
        exact absurd h11 (by omega)
  exact L19_1 0 (by omega) fa la sa wa ba t_a0_inner t_a0_part t_a0_partNumber t_a1_bytes (fun h => absurd rfl h) (fun j hj => absurd hj (by omega))
