/-! the reference: words in longs, loops that count down -/
section QQ
variable {C : Cx} {cc : ByteArray} {own : String} {nL : Nat} {rm : Room} {k n pc : Nat} {lv : List (Nat × Value)} {st : List Value} {ws : va_W}
theorem v_lxorQ (g : vG C cc own nL rm) {x y : Int64} (a b : Wd) (hx : x = lN a.toNat) (hy : y = lN b.toNat) (hd : decode cc pc = .ok (.lxor, 1)) (K : VJ C k n (pc + 1) lv (.long (lN (a ^^^ b).toNat) :: st) ws) : VJ C k n pc lv (.long y :: .long x :: st) ws := by
  subst hx; subst hy
  refine v_lxorN g hd ?_
  rw [← BitVec.toNat_xor]
  exact K
theorem v_landQ (g : vG C cc own nL rm) {x y : Int64} (a b : Wd) (hx : x = lN a.toNat) (hy : y = lN b.toNat) (hd : decode cc pc = .ok (.land, 1)) (K : VJ C k n (pc + 1) lv (.long (lN (a &&& b).toNat) :: st) ws) : VJ C k n pc lv (.long y :: .long x :: st) ws := by
  subst hx; subst hy
  refine v_landN g hd ?_
  rw [← BitVec.toNat_and]
  exact K
theorem v_lorQ (g : vG C cc own nL rm) {x y : Int64} (a b : Wd) (hx : x = lN a.toNat) (hy : y = lN b.toNat) (hd : decode cc pc = .ok (.lor, 1)) (K : VJ C k n (pc + 1) lv (.long (lN (a ||| b).toNat) :: st) ws) : VJ C k n pc lv (.long y :: .long x :: st) ws := by
  subst hx; subst hy
  refine v_lorN g hd ?_
  rw [← BitVec.toNat_or]
  exact K
theorem v_lshrQ (g : vG C cc own nL rm) {a : Wd} {s : Nat} (hs : s < 32) (hd : decode cc pc = .ok (.lshr, 1)) (K : VJ C k n (pc + 1) lv (.long (lN (a >>> s).toNat) :: st) ws) : VJ C k n pc lv (.int (nI s) :: .long (lN a.toNat) :: st) ws := by
  refine v_lshrN g (Nat.lt_trans a.isLt (by decide)) (by omega) hd ?_
  rw [← Nat.shiftRight_eq_div_pow, ← BitVec.toNat_ushiftRight]
  exact K
theorem v_landB (g : vG C cc own nL rm) {a : Wd} (hd : decode cc pc = .ok (.land, 1)) (K : VJ C k n (pc + 1) lv (.long (lN (a.setWidth 8).toNat) :: st) ws) : VJ C k n pc lv (.long (lN 255) :: .long (lN a.toNat) :: st) ws := by
  refine v_landM g 8 (by decide) hd ?_
  rw [← BitVec.toNat_setWidth]
  exact K
theorem sq_b (a : Wd) : a.toNat % 2 ^ 32 = a.toNat := Nat.mod_eq_of_lt a.isLt
theorem sq_add {m n : Nat} {a b : Wd} (h1 : m % 2 ^ 32 = a.toNat) (h2 : n % 2 ^ 32 = b.toNat) : (m + n) % 2 ^ 32 = (a + b).toNat := by
  rw [BitVec.toNat_add, ← h1, ← h2, ← Nat.add_mod]
theorem dn_eq {e : Nat} (h : 1 ≤ e) : nI e - 1 = nI (e - 1) := by
  have q := pk_sub (a := e) (b := 1) h
  exact q
theorem dn_i (e : Nat) : nI e + Int32.ofInt (-1) = nI e - 1 := by
  rw [Int32.sub_eq_add_neg]
  rfl
theorem v_if_ltD (g : vG C cc own nL rm) {e : Nat} {off : Int} (tgt : Nat) (hd : decode cc pc = .ok (.ifCond .lt off, 3)) (ht : (pc : Int) + off = (tgt : Int)) (he : e < 2 ^ 31) (kt : e = 0 → VJ C k n tgt lv st ws) (kf : 1 ≤ e → VJ C k n (pc + 3) lv st ws) : VJ C k n pc lv (.int (nI e - 1) :: st) ws := by
  by_cases h0 : e = 0
  · subst h0
    exact v_if_lt g tgt hd ht (fun _ => kt rfl) (fun h => absurd (by decide +kernel) h)
  · rw [dn_eq (by omega)]
    exact v_if_lt g tgt hd ht (fun h => absurd h (nI_pos (by omega))) (fun _ => kf (by omega))
end QQ
theorem rr_eq (x : Wd) {n : Nat} : ((x >>> n).toNat ||| x.toNat * 2 ^ (32 - n)) % 2 ^ 32 = (rotr x n).toNat := by
  unfold rotr
  rw [Nat.or_mod_two_pow, BitVec.toNat_or, BitVec.toNat_shiftLeft, Nat.shiftLeft_eq, Nat.mod_eq_of_lt (x >>> n).isLt]
theorem rl_eq (x : Wd) {n : Nat} : (x.toNat * 2 ^ n ||| (x >>> (32 - n)).toNat) % 2 ^ 32 = (rotl x n).toNat := by
  unfold rotl
  rw [Nat.or_mod_two_pow, BitVec.toNat_or, BitVec.toNat_shiftLeft, Nat.shiftLeft_eq, Nat.mod_eq_of_lt (x >>> (32 - n)).isLt]
theorem ctr_eq (c : BitVec 64) : xL (c &&& 4294967295#64) = lN (c.setWidth 32).toNat := by
  rw [show lN (c.setWidth 32).toNat = xL (BitVec.ofNat 64 (c.setWidth 32).toNat) from xL_n _]
  congr 1
  apply BitVec.eq_of_toNat_eq
  rw [BitVec.toNat_and, show (4294967295#64).toNat = 2 ^ 32 - 1 from by decide, BitVec.toNat_ofNat, BitVec.toNat_setWidth, Nat.and_two_pow_sub_one_eq_mod, Nat.mod_eq_of_lt (Nat.lt_trans (Nat.mod_lt _ (by decide)) (by decide))]
def cc_rd (s k : Nat) (x : Nat → Wd) : Nat → Wd := cc_qr k (4 + (k + s) % 4) (8 + (k + 2 * s) % 4) (12 + (k + 3 * s) % 4) x
def cc_rk (s : Nat) (x : Nat → Wd) : Nat → Nat → Wd
  | 0 => x
  | k + 1 => cc_rd s k (cc_rk s x k)
def cc_hs (x : Nat → Wd) : Nat → Nat → Wd
  | 0 => x
  | i + 1 => cc_rk (i % 2) (cc_hs x i) 4
theorem cc_hs2 (x : Nat → Wd) : ∀ i, cc_hs x (2 * i) = cc_it x i := by
  intro i
  induction i with
  | zero => rfl
  | succ i ih =>
    show cc_rk ((2 * i + 1) % 2) (cc_rk ((2 * i) % 2) (cc_hs x (2 * i)) 4) 4 = cc_r1 (cc_r0 (cc_it x i))
    rw [ih, show (2 * i + 1) % 2 = 1 by omega, show (2 * i) % 2 = 0 by omega]
    rfl
theorem dX8_right_0 : decode cX8_right 0 = .ok (.lload_n 0, 1) := by decide +kernel
theorem dX8_right_1 : decode cX8_right 1 = .ok (.iload_n 2, 1) := by decide +kernel
theorem dX8_right_2 : decode cX8_right 2 = .ok (.lshr, 1) := by decide +kernel
theorem dX8_right_3 : decode cX8_right 3 = .ok (.lload_n 0, 1) := by decide +kernel
theorem dX8_right_4 : decode cX8_right 4 = .ok (.bipush 32, 2) := by decide +kernel
theorem dX8_right_6 : decode cX8_right 6 = .ok (.iload_n 2, 1) := by decide +kernel
theorem dX8_right_7 : decode cX8_right 7 = .ok (.isub, 1) := by decide +kernel
theorem dX8_right_8 : decode cX8_right 8 = .ok (.lshl, 1) := by decide +kernel
theorem dX8_right_9 : decode cX8_right 9 = .ok (.lor, 1) := by decide +kernel
theorem dX8_right_10 : decode cX8_right 10 = .ok (.ldc2_w 123, 3) := by decide +kernel
theorem dX8_right_13 : decode cX8_right 13 = .ok (.land, 1) := by decide +kernel
theorem dX8_right_14 : decode cX8_right 14 = .ok (.lreturn, 1) := by decide +kernel
theorem dX8_left_0 : decode cX8_left 0 = .ok (.lload_n 0, 1) := by decide +kernel
theorem dX8_left_1 : decode cX8_left 1 = .ok (.iload_n 2, 1) := by decide +kernel
theorem dX8_left_2 : decode cX8_left 2 = .ok (.lshl, 1) := by decide +kernel
theorem dX8_left_3 : decode cX8_left 3 = .ok (.lload_n 0, 1) := by decide +kernel
theorem dX8_left_4 : decode cX8_left 4 = .ok (.bipush 32, 2) := by decide +kernel
theorem dX8_left_6 : decode cX8_left 6 = .ok (.iload_n 2, 1) := by decide +kernel
theorem dX8_left_7 : decode cX8_left 7 = .ok (.isub, 1) := by decide +kernel
theorem dX8_left_8 : decode cX8_left 8 = .ok (.lshr, 1) := by decide +kernel
theorem dX8_left_9 : decode cX8_left 9 = .ok (.lor, 1) := by decide +kernel
theorem dX8_left_10 : decode cX8_left 10 = .ok (.ldc2_w 123, 3) := by decide +kernel
theorem dX8_left_13 : decode cX8_left 13 = .ok (.land, 1) := by decide +kernel
theorem dX8_left_14 : decode cX8_left 14 = .ok (.lreturn, 1) := by decide +kernel
theorem dX8_wordOf_0 : decode cX8_wordOf 0 = .ok (.aload_n 0, 1) := by decide +kernel
theorem dX8_wordOf_1 : decode cX8_wordOf 1 = .ok (.iload_n 1, 1) := by decide +kernel
theorem dX8_wordOf_2 : decode cX8_wordOf 2 = .ok (.iaload, 1) := by decide +kernel
theorem dX8_wordOf_3 : decode cX8_wordOf 3 = .ok (.aload_n 0, 1) := by decide +kernel
theorem dX8_wordOf_4 : decode cX8_wordOf 4 = .ok (.iload_n 1, 1) := by decide +kernel
theorem dX8_wordOf_5 : decode cX8_wordOf 5 = .ok (.iconst 1, 1) := by decide +kernel
theorem dX8_wordOf_6 : decode cX8_wordOf 6 = .ok (.iadd, 1) := by decide +kernel
theorem dX8_wordOf_7 : decode cX8_wordOf 7 = .ok (.iaload, 1) := by decide +kernel
theorem dX8_wordOf_8 : decode cX8_wordOf 8 = .ok (.bipush 8, 2) := by decide +kernel
theorem dX8_wordOf_10 : decode cX8_wordOf 10 = .ok (.ishl, 1) := by decide +kernel
theorem dX8_wordOf_11 : decode cX8_wordOf 11 = .ok (.ior, 1) := by decide +kernel
theorem dX8_wordOf_12 : decode cX8_wordOf 12 = .ok (.aload_n 0, 1) := by decide +kernel
theorem dX8_wordOf_13 : decode cX8_wordOf 13 = .ok (.iload_n 1, 1) := by decide +kernel
theorem dX8_wordOf_14 : decode cX8_wordOf 14 = .ok (.iconst 2, 1) := by decide +kernel
theorem dX8_wordOf_15 : decode cX8_wordOf 15 = .ok (.iadd, 1) := by decide +kernel
theorem dX8_wordOf_16 : decode cX8_wordOf 16 = .ok (.iaload, 1) := by decide +kernel
theorem dX8_wordOf_17 : decode cX8_wordOf 17 = .ok (.bipush 16, 2) := by decide +kernel
theorem dX8_wordOf_19 : decode cX8_wordOf 19 = .ok (.ishl, 1) := by decide +kernel
theorem dX8_wordOf_20 : decode cX8_wordOf 20 = .ok (.ior, 1) := by decide +kernel
theorem dX8_wordOf_21 : decode cX8_wordOf 21 = .ok (.i2l, 1) := by decide +kernel
theorem dX8_wordOf_22 : decode cX8_wordOf 22 = .ok (.aload_n 0, 1) := by decide +kernel
theorem dX8_wordOf_23 : decode cX8_wordOf 23 = .ok (.iload_n 1, 1) := by decide +kernel
theorem dX8_wordOf_24 : decode cX8_wordOf 24 = .ok (.iconst 3, 1) := by decide +kernel
theorem dX8_wordOf_25 : decode cX8_wordOf 25 = .ok (.iadd, 1) := by decide +kernel
theorem dX8_wordOf_26 : decode cX8_wordOf 26 = .ok (.iaload, 1) := by decide +kernel
theorem dX8_wordOf_27 : decode cX8_wordOf 27 = .ok (.i2l, 1) := by decide +kernel
theorem dX8_wordOf_28 : decode cX8_wordOf 28 = .ok (.bipush 24, 2) := by decide +kernel
theorem dX8_wordOf_30 : decode cX8_wordOf 30 = .ok (.lshl, 1) := by decide +kernel
theorem dX8_wordOf_31 : decode cX8_wordOf 31 = .ok (.lor, 1) := by decide +kernel
theorem dX8_wordOf_32 : decode cX8_wordOf 32 = .ok (.lreturn, 1) := by decide +kernel
theorem dX8_put_0 : decode cX8_put 0 = .ok (.aload_n 0, 1) := by decide +kernel
theorem dX8_put_1 : decode cX8_put 1 = .ok (.getfield 68, 3) := by decide +kernel
theorem dX8_put_4 : decode cX8_put 4 = .ok (.aload_n 0, 1) := by decide +kernel
theorem dX8_put_5 : decode cX8_put 5 = .ok (.getfield 145, 3) := by decide +kernel
theorem dX8_put_8 : decode cX8_put 8 = .ok (.iload_n 1, 1) := by decide +kernel
theorem dX8_put_9 : decode cX8_put 9 = .ok (.iastore, 1) := by decide +kernel
theorem dX8_put_10 : decode cX8_put 10 = .ok (.aload_n 0, 1) := by decide +kernel
theorem dX8_put_11 : decode cX8_put 11 = .ok (.dup, 1) := by decide +kernel
theorem dX8_put_12 : decode cX8_put 12 = .ok (.getfield 145, 3) := by decide +kernel
theorem dX8_put_15 : decode cX8_put 15 = .ok (.iconst 1, 1) := by decide +kernel
theorem dX8_put_16 : decode cX8_put 16 = .ok (.iadd, 1) := by decide +kernel
theorem dX8_put_17 : decode cX8_put 17 = .ok (.putfield 145, 3) := by decide +kernel
theorem dX8_put_20 : decode cX8_put 20 = .ok (.return_, 1) := by decide +kernel
theorem dX8_tell_0 : decode cX8_tell 0 = .ok (.aload_n 0, 1) := by decide +kernel
theorem dX8_tell_1 : decode cX8_tell 1 = .ok (.getfield 71, 3) := by decide +kernel
theorem dX8_tell_4 : decode cX8_tell 4 = .ok (.aload_n 0, 1) := by decide +kernel
theorem dX8_tell_5 : decode cX8_tell 5 = .ok (.getfield 151, 3) := by decide +kernel
theorem dX8_tell_8 : decode cX8_tell 8 = .ok (.iload_n 1, 1) := by decide +kernel
theorem dX8_tell_9 : decode cX8_tell 9 = .ok (.iastore, 1) := by decide +kernel
theorem dX8_tell_10 : decode cX8_tell 10 = .ok (.aload_n 0, 1) := by decide +kernel
theorem dX8_tell_11 : decode cX8_tell 11 = .ok (.dup, 1) := by decide +kernel
theorem dX8_tell_12 : decode cX8_tell 12 = .ok (.getfield 151, 3) := by decide +kernel
theorem dX8_tell_15 : decode cX8_tell 15 = .ok (.iconst 1, 1) := by decide +kernel
theorem dX8_tell_16 : decode cX8_tell 16 = .ok (.iadd, 1) := by decide +kernel
theorem dX8_tell_17 : decode cX8_tell 17 = .ok (.putfield 151, 3) := by decide +kernel
theorem dX8_tell_20 : decode cX8_tell 20 = .ok (.return_, 1) := by decide +kernel
theorem dX8_half_0 : decode cX8_half 0 = .ok (.aload_n 0, 1) := by decide +kernel
theorem dX8_half_1 : decode cX8_half 1 = .ok (.getfield 83, 3) := by decide +kernel
theorem dX8_half_4 : decode cX8_half 4 = .ok (.iload_n 1, 1) := by decide +kernel
theorem dX8_half_5 : decode cX8_half 5 = .ok (.aload_n 0, 1) := by decide +kernel
theorem dX8_half_6 : decode cX8_half 6 = .ok (.getfield 83, 3) := by decide +kernel
theorem dX8_half_9 : decode cX8_half 9 = .ok (.iload_n 1, 1) := by decide +kernel
theorem dX8_half_10 : decode cX8_half 10 = .ok (.laload, 1) := by decide +kernel
theorem dX8_half_11 : decode cX8_half 11 = .ok (.aload_n 0, 1) := by decide +kernel
theorem dX8_half_12 : decode cX8_half 12 = .ok (.getfield 83, 3) := by decide +kernel
theorem dX8_half_15 : decode cX8_half 15 = .ok (.iload_n 2, 1) := by decide +kernel
theorem dX8_half_16 : decode cX8_half 16 = .ok (.laload, 1) := by decide +kernel
theorem dX8_half_17 : decode cX8_half 17 = .ok (.ladd, 1) := by decide +kernel
theorem dX8_half_18 : decode cX8_half 18 = .ok (.ldc2_w 123, 3) := by decide +kernel
theorem dX8_half_21 : decode cX8_half 21 = .ok (.land, 1) := by decide +kernel
theorem dX8_half_22 : decode cX8_half 22 = .ok (.lastore, 1) := by decide +kernel
theorem dX8_half_23 : decode cX8_half 23 = .ok (.aload_n 0, 1) := by decide +kernel
theorem dX8_half_24 : decode cX8_half 24 = .ok (.getfield 83, 3) := by decide +kernel
theorem dX8_half_27 : decode cX8_half 27 = .ok (.iload_n 3, 1) := by decide +kernel
theorem dX8_half_28 : decode cX8_half 28 = .ok (.aload_n 0, 1) := by decide +kernel
theorem dX8_half_29 : decode cX8_half 29 = .ok (.getfield 83, 3) := by decide +kernel
theorem dX8_half_32 : decode cX8_half 32 = .ok (.iload_n 3, 1) := by decide +kernel
theorem dX8_half_33 : decode cX8_half 33 = .ok (.laload, 1) := by decide +kernel
theorem dX8_half_34 : decode cX8_half 34 = .ok (.aload_n 0, 1) := by decide +kernel
theorem dX8_half_35 : decode cX8_half 35 = .ok (.getfield 83, 3) := by decide +kernel
theorem dX8_half_38 : decode cX8_half 38 = .ok (.iload_n 1, 1) := by decide +kernel
theorem dX8_half_39 : decode cX8_half 39 = .ok (.laload, 1) := by decide +kernel
theorem dX8_half_40 : decode cX8_half 40 = .ok (.lxor, 1) := by decide +kernel
theorem dX8_half_41 : decode cX8_half 41 = .ok (.iload 4, 2) := by decide +kernel
theorem dX8_half_43 : decode cX8_half 43 = .ok (.invokestatic 186, 3) := by decide +kernel
theorem dX8_half_46 : decode cX8_half 46 = .ok (.lastore, 1) := by decide +kernel
theorem dX8_half_47 : decode cX8_half 47 = .ok (.return_, 1) := by decide +kernel
theorem dX8_mix_0 : decode cX8_mix 0 = .ok (.aload_n 0, 1) := by decide +kernel
theorem dX8_mix_1 : decode cX8_mix 1 = .ok (.iload_n 1, 1) := by decide +kernel
theorem dX8_mix_2 : decode cX8_mix 2 = .ok (.iload_n 2, 1) := by decide +kernel
theorem dX8_mix_3 : decode cX8_mix 3 = .ok (.iload 4, 2) := by decide +kernel
theorem dX8_mix_5 : decode cX8_mix 5 = .ok (.bipush 16, 2) := by decide +kernel
theorem dX8_mix_7 : decode cX8_mix 7 = .ok (.invokevirtual 189, 3) := by decide +kernel
theorem dX8_mix_10 : decode cX8_mix 10 = .ok (.aload_n 0, 1) := by decide +kernel
theorem dX8_mix_11 : decode cX8_mix 11 = .ok (.iload_n 3, 1) := by decide +kernel
theorem dX8_mix_12 : decode cX8_mix 12 = .ok (.iload 4, 2) := by decide +kernel
theorem dX8_mix_14 : decode cX8_mix 14 = .ok (.iload_n 2, 1) := by decide +kernel
theorem dX8_mix_15 : decode cX8_mix 15 = .ok (.bipush 12, 2) := by decide +kernel
theorem dX8_mix_17 : decode cX8_mix 17 = .ok (.invokevirtual 189, 3) := by decide +kernel
theorem dX8_mix_20 : decode cX8_mix 20 = .ok (.aload_n 0, 1) := by decide +kernel
theorem dX8_mix_21 : decode cX8_mix 21 = .ok (.iload_n 1, 1) := by decide +kernel
theorem dX8_mix_22 : decode cX8_mix 22 = .ok (.iload_n 2, 1) := by decide +kernel
theorem dX8_mix_23 : decode cX8_mix 23 = .ok (.iload 4, 2) := by decide +kernel
theorem dX8_mix_25 : decode cX8_mix 25 = .ok (.bipush 8, 2) := by decide +kernel
theorem dX8_mix_27 : decode cX8_mix 27 = .ok (.invokevirtual 189, 3) := by decide +kernel
theorem dX8_mix_30 : decode cX8_mix 30 = .ok (.aload_n 0, 1) := by decide +kernel
theorem dX8_mix_31 : decode cX8_mix 31 = .ok (.iload_n 3, 1) := by decide +kernel
theorem dX8_mix_32 : decode cX8_mix 32 = .ok (.iload 4, 2) := by decide +kernel
theorem dX8_mix_34 : decode cX8_mix 34 = .ok (.iload_n 2, 1) := by decide +kernel
theorem dX8_mix_35 : decode cX8_mix 35 = .ok (.bipush 7, 2) := by decide +kernel
theorem dX8_mix_37 : decode cX8_mix 37 = .ok (.invokevirtual 189, 3) := by decide +kernel
theorem dX8_mix_40 : decode cX8_mix 40 = .ok (.return_, 1) := by decide +kernel
set_option maxHeartbeats 4000000 in
set_option maxRecDepth 100000 in
theorem c_right (l : Launch) (D : va_G) (p0 : Wd) (p1 : Nat)  (h1 : p1 < 32) : vM l D yX8_right cX8_right 3 (some .long) { frames := 0, cells := 0, slots := 0, locals := 0 } [.long (lN p0.toNat), .int (nI p1)] [] (fun r wo => r = some (.long (lN (rotr p0 p1).toNat)) ∧ wo = []) := by
  refine vM.of (by decide) (Nat.le_of_ble_eq_true rfl) (fun C hCl hCD g R => ?_)
  subst hCl; subst hCD
  show VJ C 0 0 0 [(0, .long (lN p0.toNat)), (2, .int (nI p1))] [] []
  refine v_lload_n g dX8_right_0 0 rfl 0 rfl ?_
  refine v_iload_n g dX8_right_1 2 rfl 1 rfl ?_
  refine v_lshrQ g (by omega) dX8_right_2 ?_
  refine v_lload_n g dX8_right_3 0 rfl 0 rfl ?_
  refine v_bipush g dX8_right_4 (v := nI 32) (by decide +kernel) ?_
  refine v_iload_n g dX8_right_6 2 rfl 1 rfl ?_
  refine v_isubN g dX8_right_7 (by omega) ?_
  refine v_lshlN g (by omega) dX8_right_8 ?_
  refine v_lorN g dX8_right_9 ?_
  refine v_ldc2 g dX8_right_10 kl_X8_123 ?_
  refine v_landM g 32 (by decide) dX8_right_13 ?_
  refine v_tol (lN (rotr p0 p1).toNat) (congrArg lN (rr_eq p0 (n := p1))) ?_
  exact v_lret g R dX8_right_14 (by decide) (by decide) ⟨rfl, rfl⟩
set_option maxHeartbeats 4000000 in
set_option maxRecDepth 100000 in
theorem c_left (l : Launch) (D : va_G) (p0 : Wd) (p1 : Nat)  (h1 : p1 < 32) (h2 : 1 ≤ p1) : vM l D yX8_left cX8_left 3 (some .long) { frames := 0, cells := 0, slots := 0, locals := 0 } [.long (lN p0.toNat), .int (nI p1)] [] (fun r wo => r = some (.long (lN (rotl p0 p1).toNat)) ∧ wo = []) := by
  refine vM.of (by decide) (Nat.le_of_ble_eq_true rfl) (fun C hCl hCD g R => ?_)
  subst hCl; subst hCD
  show VJ C 0 0 0 [(0, .long (lN p0.toNat)), (2, .int (nI p1))] [] []
  refine v_lload_n g dX8_left_0 0 rfl 0 rfl ?_
  refine v_iload_n g dX8_left_1 2 rfl 1 rfl ?_
  refine v_lshlN g (by omega) dX8_left_2 ?_
  refine v_lload_n g dX8_left_3 0 rfl 0 rfl ?_
  refine v_bipush g dX8_left_4 (v := nI 32) (by decide +kernel) ?_
  refine v_iload_n g dX8_left_6 2 rfl 1 rfl ?_
  refine v_isubN g dX8_left_7 (by omega) ?_
  refine v_lshrQ g (by omega) dX8_left_8 ?_
  refine v_lorN g dX8_left_9 ?_
  refine v_ldc2 g dX8_left_10 kl_X8_123 ?_
  refine v_landM g 32 (by decide) dX8_left_13 ?_
  refine v_tol (lN (rotl p0 p1).toNat) (congrArg lN (rl_eq p0 (n := p1))) ?_
  exact v_lret g R dX8_left_14 (by decide) (by decide) ⟨rfl, rfl⟩
set_option maxHeartbeats 4000000 in
set_option maxRecDepth 100000 in
theorem c_wordOf (l : Launch) (D : va_G) (a0 : Nat) (p1 : Nat) (n0 : Nat) (t_a0 : Nat → By)  (h1 : p1 + 4 ≤ n0) (hn : n0 < 2 ^ 31) : vM l D yX8_wordOf cX8_wordOf 2 (some .long) { frames := 0, cells := 0, slots := 0, locals := 0 } [.ref a0, .int (nI p1)] [(a0, aY D n0 t_a0)] (fun r wo => r = some (.long (lN (le4 t_a0 p1).toNat)) ∧ wo = [(a0, aY D n0 t_a0)]) := by
  refine vM.of (by decide) (Nat.le_of_ble_eq_true rfl) (fun C hCl hCD g R => ?_)
  subst hCl; subst hCD
  show VJ C 0 0 0 [(0, .ref a0), (1, .int (nI p1))] [] [(a0, aY C.D n0 t_a0)]
  have b0 := (t_a0 (p1 + 0)).isLt
  have b1 := (t_a0 (p1 + 1)).isLt
  have b2 := (t_a0 (p1 + 2)).isLt
  have b3 := (t_a0 (p1 + 3)).isLt
  refine v_aload_n g dX8_wordOf_0 0 rfl 0 rfl ?_
  refine v_iload_n g dX8_wordOf_1 1 rfl 1 rfl ?_
  refine v_ialdY g 0 rfl (by omega) (by omega) dX8_wordOf_2 ?_
  refine v_aload_n g dX8_wordOf_3 0 rfl 0 rfl ?_
  refine v_iload_n g dX8_wordOf_4 1 rfl 1 rfl ?_
  refine v_iconst g dX8_wordOf_5 (v := nI 1) (by decide +kernel) ?_
  refine v_iaddN g dX8_wordOf_6 ?_
  refine v_ialdY g 0 rfl (by omega) (by omega) dX8_wordOf_7 ?_
  refine v_bipush g dX8_wordOf_8 (v := nI 8) (by decide +kernel) ?_
  refine v_ishlN g (by omega) dX8_wordOf_10 ?_
  refine v_iorN g dX8_wordOf_11 ?_
  refine v_toi (nI ((t_a0 p1).toNat + (t_a0 (p1 + 1)).toNat * 2 ^ 8)) (congrArg nI (or_add (k := 8) (t_a0 p1).isLt)) ?_
  refine v_aload_n g dX8_wordOf_12 0 rfl 0 rfl ?_
  refine v_iload_n g dX8_wordOf_13 1 rfl 1 rfl ?_
  refine v_iconst g dX8_wordOf_14 (v := nI 2) (by decide +kernel) ?_
  refine v_iaddN g dX8_wordOf_15 ?_
  refine v_ialdY g 0 rfl (by omega) (by omega) dX8_wordOf_16 ?_
  refine v_bipush g dX8_wordOf_17 (v := nI 16) (by decide +kernel) ?_
  refine v_ishlN g (by omega) dX8_wordOf_19 ?_
  refine v_iorN g dX8_wordOf_20 ?_
  refine v_toi (nI ((t_a0 p1).toNat + (t_a0 (p1 + 1)).toNat * 2 ^ 8 + (t_a0 (p1 + 2)).toNat * 2 ^ 16)) (congrArg nI (or_add (k := 16) (by have := (t_a0 p1).isLt; omega))) ?_
  have b4 := (t_a0 p1).isLt
  refine v_i2lN g (by omega) dX8_wordOf_21 ?_
  refine v_aload_n g dX8_wordOf_22 0 rfl 0 rfl ?_
  refine v_iload_n g dX8_wordOf_23 1 rfl 1 rfl ?_
  refine v_iconst g dX8_wordOf_24 (v := nI 3) (by decide +kernel) ?_
  refine v_iaddN g dX8_wordOf_25 ?_
  refine v_ialdY g 0 rfl (by omega) (by omega) dX8_wordOf_26 ?_
  refine v_i2lN g (by omega) dX8_wordOf_27 ?_
  refine v_bipush g dX8_wordOf_28 (v := nI 24) (by decide +kernel) ?_
  refine v_lshlN g (by decide) dX8_wordOf_30 ?_
  refine v_lorN g dX8_wordOf_31 ?_
  refine v_tol (lN (le4 t_a0 p1).toNat) (congrArg lN ((or_add (k := 24) (by omega)).trans (le4_nat t_a0 p1).symm)) ?_
  exact v_lret g R dX8_wordOf_32 (by decide) (by decide) ⟨rfl, rfl⟩
set_option maxHeartbeats 4000000 in
set_option maxRecDepth 100000 in
theorem c_R_put (l : Launch) (D : va_G) (a0 : Nat) (p1 : Nat) (v_a0_thrown : Nat) (a0_tape : Nat) (v_a0_taped : Nat) (a0_out : Nat) (v_a0_outs : Nat) (a0_slots : Nat) (a0_kept : Nat) (a0_phase : Nat) (a0_secret : Nat) (a0_key : Nat) (a0_hide : Nat) (a0_iv : Nat) (a0_begin : Nat) (a0_each : Nat) (a0_root : Nat) (a0_power : Nat) (a0_work : Nat) (a0_w : Nat) (a0_h : Nat) (a0_state : Nat) (a0_sum : Nat) (a0_pad : Nat) (a0_text : Nat) (v_a0_texts : Nat) (a0_info : Nat) (v_a0_infos : Nat) (a0_made : Nat) (a0_blockKey : Nat) (a0_nonce : Nat) (a0_x : Nat) (a0_first : Nat) (a0_block : Nat) (a0_a : Nat) (a0_r : Nat) (a0_product : Nat) (a0_tag : Nat) (a0_sealed : Nat) (t_a0_text : Nat → By) (b : By) (h1 : v_a0_texts < 2400) (hb : p1 = b.toNat) : vM l D yX8_put cX8_put 2 none { frames := 0, cells := 0, slots := 0, locals := 0 } [.ref a0, .int (nI p1)] [(a0, .inr (8, [.int (nI v_a0_thrown), .ref a0_tape, .int (nI v_a0_taped), .ref a0_out, .int (nI v_a0_outs), .ref a0_slots, .ref a0_kept, .ref a0_phase, .ref a0_secret, .ref a0_key, .ref a0_hide, .ref a0_iv, .ref a0_begin, .ref a0_each, .ref a0_root, .ref a0_power, .ref a0_work, .ref a0_w, .ref a0_h, .ref a0_state, .ref a0_sum, .ref a0_pad, .ref a0_text, .int (nI v_a0_texts), .ref a0_info, .int (nI v_a0_infos), .ref a0_made, .ref a0_blockKey, .ref a0_nonce, .ref a0_x, .ref a0_first, .ref a0_block, .ref a0_a, .ref a0_r, .ref a0_product, .ref a0_tag, .ref a0_sealed])), (a0_text, aY D 2400 t_a0_text)] (fun r wo => r = none ∧ wo = [(a0, .inr (8, [.int (nI v_a0_thrown), .ref a0_tape, .int (nI v_a0_taped), .ref a0_out, .int (nI v_a0_outs), .ref a0_slots, .ref a0_kept, .ref a0_phase, .ref a0_secret, .ref a0_key, .ref a0_hide, .ref a0_iv, .ref a0_begin, .ref a0_each, .ref a0_root, .ref a0_power, .ref a0_work, .ref a0_w, .ref a0_h, .ref a0_state, .ref a0_sum, .ref a0_pad, .ref a0_text, .int (nI (v_a0_texts + 1)), .ref a0_info, .int (nI v_a0_infos), .ref a0_made, .ref a0_blockKey, .ref a0_nonce, .ref a0_x, .ref a0_first, .ref a0_block, .ref a0_a, .ref a0_r, .ref a0_product, .ref a0_tag, .ref a0_sealed])), (a0_text, aY D 2400 (va_up t_a0_text v_a0_texts b))]) := by
  refine vM.of (by decide) (Nat.le_of_ble_eq_true rfl) (fun C hCl hCD g R => ?_)
  subst hCl; subst hCD
  show VJ C 0 0 0 [(0, .ref a0), (1, .int (nI p1))] [] [(a0, .inr (8, [.int (nI v_a0_thrown), .ref a0_tape, .int (nI v_a0_taped), .ref a0_out, .int (nI v_a0_outs), .ref a0_slots, .ref a0_kept, .ref a0_phase, .ref a0_secret, .ref a0_key, .ref a0_hide, .ref a0_iv, .ref a0_begin, .ref a0_each, .ref a0_root, .ref a0_power, .ref a0_work, .ref a0_w, .ref a0_h, .ref a0_state, .ref a0_sum, .ref a0_pad, .ref a0_text, .int (nI v_a0_texts), .ref a0_info, .int (nI v_a0_infos), .ref a0_made, .ref a0_blockKey, .ref a0_nonce, .ref a0_x, .ref a0_first, .ref a0_block, .ref a0_a, .ref a0_r, .ref a0_product, .ref a0_tag, .ref a0_sealed])), (a0_text, aY C.D 2400 t_a0_text)]
  subst hb
  refine v_aload_n g dX8_put_0 0 rfl 0 rfl ?_
  refine gf_X8_68 g dX8_put_1 0 rfl rfl ?_
  refine v_aload_n g dX8_put_4 0 rfl 0 rfl ?_
  refine gf_X8_145 g dX8_put_5 0 rfl rfl ?_
  refine v_iload_n g dX8_put_8 1 rfl 1 rfl ?_
  obtain ⟨t1, ht1⟩ : ∃ z : Nat → By, z = va_up t_a0_text v_a0_texts b := ⟨_, rfl⟩
  refine v_iastY g (b) rfl t1 ht1 1 [(a0, .inr (8, [.int (nI v_a0_thrown), .ref a0_tape, .int (nI v_a0_taped), .ref a0_out, .int (nI v_a0_outs), .ref a0_slots, .ref a0_kept, .ref a0_phase, .ref a0_secret, .ref a0_key, .ref a0_hide, .ref a0_iv, .ref a0_begin, .ref a0_each, .ref a0_root, .ref a0_power, .ref a0_work, .ref a0_w, .ref a0_h, .ref a0_state, .ref a0_sum, .ref a0_pad, .ref a0_text, .int (nI v_a0_texts), .ref a0_info, .int (nI v_a0_infos), .ref a0_made, .ref a0_blockKey, .ref a0_nonce, .ref a0_x, .ref a0_first, .ref a0_block, .ref a0_a, .ref a0_r, .ref a0_product, .ref a0_tag, .ref a0_sealed])), (a0_text, aY C.D 2400 t1)] rfl (by omega) (by decide) dX8_put_9 rfl ?_
  subst ht1
  refine v_aload_n g dX8_put_10 0 rfl 0 rfl ?_
  refine v_dup g dX8_put_11 rfl ?_
  refine gf_X8_145 g dX8_put_12 0 rfl rfl ?_
  refine v_iconst g dX8_put_15 (v := nI 1) (by decide +kernel) ?_
  refine v_iaddN g dX8_put_16 ?_
  refine pf_X8_145 g dX8_put_17 0 [(a0, .inr (8, [.int (nI v_a0_thrown), .ref a0_tape, .int (nI v_a0_taped), .ref a0_out, .int (nI v_a0_outs), .ref a0_slots, .ref a0_kept, .ref a0_phase, .ref a0_secret, .ref a0_key, .ref a0_hide, .ref a0_iv, .ref a0_begin, .ref a0_each, .ref a0_root, .ref a0_power, .ref a0_work, .ref a0_w, .ref a0_h, .ref a0_state, .ref a0_sum, .ref a0_pad, .ref a0_text, .int (nI (v_a0_texts + 1)), .ref a0_info, .int (nI v_a0_infos), .ref a0_made, .ref a0_blockKey, .ref a0_nonce, .ref a0_x, .ref a0_first, .ref a0_block, .ref a0_a, .ref a0_r, .ref a0_product, .ref a0_tag, .ref a0_sealed])), (a0_text, aY C.D 2400 (va_up t_a0_text v_a0_texts b))] rfl (Nat.le_of_ble_eq_true rfl) rfl ?_
  exact v_ret g R dX8_put_20 (by decide) (by decide) ⟨rfl, rfl⟩
set_option maxHeartbeats 4000000 in
set_option maxRecDepth 100000 in
theorem c_R_tell (l : Launch) (D : va_G) (a0 : Nat) (p1 : Nat) (v_a0_thrown : Nat) (a0_tape : Nat) (v_a0_taped : Nat) (a0_out : Nat) (v_a0_outs : Nat) (a0_slots : Nat) (a0_kept : Nat) (a0_phase : Nat) (a0_secret : Nat) (a0_key : Nat) (a0_hide : Nat) (a0_iv : Nat) (a0_begin : Nat) (a0_each : Nat) (a0_root : Nat) (a0_power : Nat) (a0_work : Nat) (a0_w : Nat) (a0_h : Nat) (a0_state : Nat) (a0_sum : Nat) (a0_pad : Nat) (a0_text : Nat) (v_a0_texts : Nat) (a0_info : Nat) (v_a0_infos : Nat) (a0_made : Nat) (a0_blockKey : Nat) (a0_nonce : Nat) (a0_x : Nat) (a0_first : Nat) (a0_block : Nat) (a0_a : Nat) (a0_r : Nat) (a0_product : Nat) (a0_tag : Nat) (a0_sealed : Nat) (t_a0_info : Nat → By) (b : By) (h1 : v_a0_infos < 2400) (hb : p1 = b.toNat) : vM l D yX8_tell cX8_tell 2 none { frames := 0, cells := 0, slots := 0, locals := 0 } [.ref a0, .int (nI p1)] [(a0, .inr (8, [.int (nI v_a0_thrown), .ref a0_tape, .int (nI v_a0_taped), .ref a0_out, .int (nI v_a0_outs), .ref a0_slots, .ref a0_kept, .ref a0_phase, .ref a0_secret, .ref a0_key, .ref a0_hide, .ref a0_iv, .ref a0_begin, .ref a0_each, .ref a0_root, .ref a0_power, .ref a0_work, .ref a0_w, .ref a0_h, .ref a0_state, .ref a0_sum, .ref a0_pad, .ref a0_text, .int (nI v_a0_texts), .ref a0_info, .int (nI v_a0_infos), .ref a0_made, .ref a0_blockKey, .ref a0_nonce, .ref a0_x, .ref a0_first, .ref a0_block, .ref a0_a, .ref a0_r, .ref a0_product, .ref a0_tag, .ref a0_sealed])), (a0_info, aY D 2400 t_a0_info)] (fun r wo => r = none ∧ wo = [(a0, .inr (8, [.int (nI v_a0_thrown), .ref a0_tape, .int (nI v_a0_taped), .ref a0_out, .int (nI v_a0_outs), .ref a0_slots, .ref a0_kept, .ref a0_phase, .ref a0_secret, .ref a0_key, .ref a0_hide, .ref a0_iv, .ref a0_begin, .ref a0_each, .ref a0_root, .ref a0_power, .ref a0_work, .ref a0_w, .ref a0_h, .ref a0_state, .ref a0_sum, .ref a0_pad, .ref a0_text, .int (nI v_a0_texts), .ref a0_info, .int (nI (v_a0_infos + 1)), .ref a0_made, .ref a0_blockKey, .ref a0_nonce, .ref a0_x, .ref a0_first, .ref a0_block, .ref a0_a, .ref a0_r, .ref a0_product, .ref a0_tag, .ref a0_sealed])), (a0_info, aY D 2400 (va_up t_a0_info v_a0_infos b))]) := by
  refine vM.of (by decide) (Nat.le_of_ble_eq_true rfl) (fun C hCl hCD g R => ?_)
  subst hCl; subst hCD
  show VJ C 0 0 0 [(0, .ref a0), (1, .int (nI p1))] [] [(a0, .inr (8, [.int (nI v_a0_thrown), .ref a0_tape, .int (nI v_a0_taped), .ref a0_out, .int (nI v_a0_outs), .ref a0_slots, .ref a0_kept, .ref a0_phase, .ref a0_secret, .ref a0_key, .ref a0_hide, .ref a0_iv, .ref a0_begin, .ref a0_each, .ref a0_root, .ref a0_power, .ref a0_work, .ref a0_w, .ref a0_h, .ref a0_state, .ref a0_sum, .ref a0_pad, .ref a0_text, .int (nI v_a0_texts), .ref a0_info, .int (nI v_a0_infos), .ref a0_made, .ref a0_blockKey, .ref a0_nonce, .ref a0_x, .ref a0_first, .ref a0_block, .ref a0_a, .ref a0_r, .ref a0_product, .ref a0_tag, .ref a0_sealed])), (a0_info, aY C.D 2400 t_a0_info)]
  subst hb
  refine v_aload_n g dX8_tell_0 0 rfl 0 rfl ?_
  refine gf_X8_71 g dX8_tell_1 0 rfl rfl ?_
  refine v_aload_n g dX8_tell_4 0 rfl 0 rfl ?_
  refine gf_X8_151 g dX8_tell_5 0 rfl rfl ?_
  refine v_iload_n g dX8_tell_8 1 rfl 1 rfl ?_
  obtain ⟨t1, ht1⟩ : ∃ z : Nat → By, z = va_up t_a0_info v_a0_infos b := ⟨_, rfl⟩
  refine v_iastY g (b) rfl t1 ht1 1 [(a0, .inr (8, [.int (nI v_a0_thrown), .ref a0_tape, .int (nI v_a0_taped), .ref a0_out, .int (nI v_a0_outs), .ref a0_slots, .ref a0_kept, .ref a0_phase, .ref a0_secret, .ref a0_key, .ref a0_hide, .ref a0_iv, .ref a0_begin, .ref a0_each, .ref a0_root, .ref a0_power, .ref a0_work, .ref a0_w, .ref a0_h, .ref a0_state, .ref a0_sum, .ref a0_pad, .ref a0_text, .int (nI v_a0_texts), .ref a0_info, .int (nI v_a0_infos), .ref a0_made, .ref a0_blockKey, .ref a0_nonce, .ref a0_x, .ref a0_first, .ref a0_block, .ref a0_a, .ref a0_r, .ref a0_product, .ref a0_tag, .ref a0_sealed])), (a0_info, aY C.D 2400 t1)] rfl (by omega) (by decide) dX8_tell_9 rfl ?_
  subst ht1
  refine v_aload_n g dX8_tell_10 0 rfl 0 rfl ?_
  refine v_dup g dX8_tell_11 rfl ?_
  refine gf_X8_151 g dX8_tell_12 0 rfl rfl ?_
  refine v_iconst g dX8_tell_15 (v := nI 1) (by decide +kernel) ?_
  refine v_iaddN g dX8_tell_16 ?_
  refine pf_X8_151 g dX8_tell_17 0 [(a0, .inr (8, [.int (nI v_a0_thrown), .ref a0_tape, .int (nI v_a0_taped), .ref a0_out, .int (nI v_a0_outs), .ref a0_slots, .ref a0_kept, .ref a0_phase, .ref a0_secret, .ref a0_key, .ref a0_hide, .ref a0_iv, .ref a0_begin, .ref a0_each, .ref a0_root, .ref a0_power, .ref a0_work, .ref a0_w, .ref a0_h, .ref a0_state, .ref a0_sum, .ref a0_pad, .ref a0_text, .int (nI v_a0_texts), .ref a0_info, .int (nI (v_a0_infos + 1)), .ref a0_made, .ref a0_blockKey, .ref a0_nonce, .ref a0_x, .ref a0_first, .ref a0_block, .ref a0_a, .ref a0_r, .ref a0_product, .ref a0_tag, .ref a0_sealed])), (a0_info, aY C.D 2400 (va_up t_a0_info v_a0_infos b))] rfl (Nat.le_of_ble_eq_true rfl) rfl ?_
  exact v_ret g R dX8_tell_20 (by decide) (by decide) ⟨rfl, rfl⟩
set_option maxHeartbeats 4000000 in
set_option maxRecDepth 100000 in
theorem c_R_half (l : Launch) (D : va_G) (a0 : Nat) (p1 : Nat) (p2 : Nat) (p3 : Nat) (p4 : Nat) (v_a0_thrown : Nat) (a0_tape : Nat) (v_a0_taped : Nat) (a0_out : Nat) (v_a0_outs : Nat) (a0_slots : Nat) (a0_kept : Nat) (a0_phase : Nat) (a0_secret : Nat) (a0_key : Nat) (a0_hide : Nat) (a0_iv : Nat) (a0_begin : Nat) (a0_each : Nat) (a0_root : Nat) (a0_power : Nat) (a0_work : Nat) (a0_w : Nat) (a0_h : Nat) (a0_state : Nat) (a0_sum : Nat) (a0_pad : Nat) (a0_text : Nat) (v_a0_texts : Nat) (a0_info : Nat) (v_a0_infos : Nat) (a0_made : Nat) (a0_blockKey : Nat) (a0_nonce : Nat) (a0_x : Nat) (a0_first : Nat) (a0_block : Nat) (a0_a : Nat) (a0_r : Nat) (a0_product : Nat) (a0_tag : Nat) (a0_sealed : Nat) (t_a0_x : Nat → Wd)  (h1 : p1 < 16) (h2 : p2 < 16) (h3 : p3 < 16) (h4 : p4 < 32) (h5 : 1 ≤ p4) : vM l D yX8_half cX8_half 5 none { frames := 1, cells := 0, slots := 0, locals := 22 } [.ref a0, .int (nI p1), .int (nI p2), .int (nI p3), .int (nI p4)] [(a0, .inr (8, [.int (nI v_a0_thrown), .ref a0_tape, .int (nI v_a0_taped), .ref a0_out, .int (nI v_a0_outs), .ref a0_slots, .ref a0_kept, .ref a0_phase, .ref a0_secret, .ref a0_key, .ref a0_hide, .ref a0_iv, .ref a0_begin, .ref a0_each, .ref a0_root, .ref a0_power, .ref a0_work, .ref a0_w, .ref a0_h, .ref a0_state, .ref a0_sum, .ref a0_pad, .ref a0_text, .int (nI v_a0_texts), .ref a0_info, .int (nI v_a0_infos), .ref a0_made, .ref a0_blockKey, .ref a0_nonce, .ref a0_x, .ref a0_first, .ref a0_block, .ref a0_a, .ref a0_r, .ref a0_product, .ref a0_tag, .ref a0_sealed])), (a0_x, aM D 16 t_a0_x)] (fun r wo => r = none ∧ wo = [(a0, .inr (8, [.int (nI v_a0_thrown), .ref a0_tape, .int (nI v_a0_taped), .ref a0_out, .int (nI v_a0_outs), .ref a0_slots, .ref a0_kept, .ref a0_phase, .ref a0_secret, .ref a0_key, .ref a0_hide, .ref a0_iv, .ref a0_begin, .ref a0_each, .ref a0_root, .ref a0_power, .ref a0_work, .ref a0_w, .ref a0_h, .ref a0_state, .ref a0_sum, .ref a0_pad, .ref a0_text, .int (nI v_a0_texts), .ref a0_info, .int (nI v_a0_infos), .ref a0_made, .ref a0_blockKey, .ref a0_nonce, .ref a0_x, .ref a0_first, .ref a0_block, .ref a0_a, .ref a0_r, .ref a0_product, .ref a0_tag, .ref a0_sealed])), (a0_x, aM D 16 (cc_half p1 p2 p3 p4 t_a0_x))]) := by
  refine vM.of (by decide) (Nat.le_of_ble_eq_true rfl) (fun C hCl hCD g R => ?_)
  subst hCl; subst hCD
  show VJ C 0 0 0 [(0, .ref a0), (1, .int (nI p1)), (2, .int (nI p2)), (3, .int (nI p3)), (4, .int (nI p4))] [] [(a0, .inr (8, [.int (nI v_a0_thrown), .ref a0_tape, .int (nI v_a0_taped), .ref a0_out, .int (nI v_a0_outs), .ref a0_slots, .ref a0_kept, .ref a0_phase, .ref a0_secret, .ref a0_key, .ref a0_hide, .ref a0_iv, .ref a0_begin, .ref a0_each, .ref a0_root, .ref a0_power, .ref a0_work, .ref a0_w, .ref a0_h, .ref a0_state, .ref a0_sum, .ref a0_pad, .ref a0_text, .int (nI v_a0_texts), .ref a0_info, .int (nI v_a0_infos), .ref a0_made, .ref a0_blockKey, .ref a0_nonce, .ref a0_x, .ref a0_first, .ref a0_block, .ref a0_a, .ref a0_r, .ref a0_product, .ref a0_tag, .ref a0_sealed])), (a0_x, aM C.D 16 t_a0_x)]
  refine v_aload_n g dX8_half_0 0 rfl 0 rfl ?_
  refine gf_X8_83 g dX8_half_1 0 rfl rfl ?_
  refine v_iload_n g dX8_half_4 1 rfl 1 rfl ?_
  refine v_aload_n g dX8_half_5 0 rfl 0 rfl ?_
  refine gf_X8_83 g dX8_half_6 0 rfl rfl ?_
  refine v_iload_n g dX8_half_9 1 rfl 1 rfl ?_
  refine v_laldM g 1 rfl (by omega) (by decide) dX8_half_10 ?_
  refine v_aload_n g dX8_half_11 0 rfl 0 rfl ?_
  refine gf_X8_83 g dX8_half_12 0 rfl rfl ?_
  refine v_iload_n g dX8_half_15 2 rfl 2 rfl ?_
  refine v_laldM g 1 rfl (by omega) (by decide) dX8_half_16 ?_
  refine v_laddN g dX8_half_17 ?_
  refine v_ldc2 g dX8_half_18 kl_X8_123 ?_
  refine v_landM g 32 (by decide) dX8_half_21 ?_
  refine v_tol (lN ((t_a0_x p1) + (t_a0_x p2)).toNat) (congrArg lN (sq_add (sq_b (t_a0_x p1)) (sq_b (t_a0_x p2)))) ?_
  obtain ⟨t1, ht1⟩ : ∃ z : Nat → Wd, z = va_up t_a0_x p1 ((t_a0_x p1) + (t_a0_x p2)) := ⟨_, rfl⟩
  refine v_lastM g ((t_a0_x p1) + (t_a0_x p2)) rfl t1 ht1 1 [(a0, .inr (8, [.int (nI v_a0_thrown), .ref a0_tape, .int (nI v_a0_taped), .ref a0_out, .int (nI v_a0_outs), .ref a0_slots, .ref a0_kept, .ref a0_phase, .ref a0_secret, .ref a0_key, .ref a0_hide, .ref a0_iv, .ref a0_begin, .ref a0_each, .ref a0_root, .ref a0_power, .ref a0_work, .ref a0_w, .ref a0_h, .ref a0_state, .ref a0_sum, .ref a0_pad, .ref a0_text, .int (nI v_a0_texts), .ref a0_info, .int (nI v_a0_infos), .ref a0_made, .ref a0_blockKey, .ref a0_nonce, .ref a0_x, .ref a0_first, .ref a0_block, .ref a0_a, .ref a0_r, .ref a0_product, .ref a0_tag, .ref a0_sealed])), (a0_x, aM C.D 16 t1)] rfl (by omega) (by decide) dX8_half_22 rfl ?_
  subst ht1
  show VJ C 0 0 23 [(0, .ref a0), (1, .int (nI p1)), (2, .int (nI p2)), (3, .int (nI p3)), (4, .int (nI p4))] [] [(a0, .inr (8, [.int (nI v_a0_thrown), .ref a0_tape, .int (nI v_a0_taped), .ref a0_out, .int (nI v_a0_outs), .ref a0_slots, .ref a0_kept, .ref a0_phase, .ref a0_secret, .ref a0_key, .ref a0_hide, .ref a0_iv, .ref a0_begin, .ref a0_each, .ref a0_root, .ref a0_power, .ref a0_work, .ref a0_w, .ref a0_h, .ref a0_state, .ref a0_sum, .ref a0_pad, .ref a0_text, .int (nI v_a0_texts), .ref a0_info, .int (nI v_a0_infos), .ref a0_made, .ref a0_blockKey, .ref a0_nonce, .ref a0_x, .ref a0_first, .ref a0_block, .ref a0_a, .ref a0_r, .ref a0_product, .ref a0_tag, .ref a0_sealed])), (a0_x, aM C.D 16 (cc_add p1 p2 t_a0_x))]
  refine v_aload_n g dX8_half_23 0 rfl 0 rfl ?_
  refine gf_X8_83 g dX8_half_24 0 rfl rfl ?_
  refine v_iload_n g dX8_half_27 3 rfl 3 rfl ?_
  refine v_aload_n g dX8_half_28 0 rfl 0 rfl ?_
  refine gf_X8_83 g dX8_half_29 0 rfl rfl ?_
  refine v_iload_n g dX8_half_32 3 rfl 3 rfl ?_
  refine v_laldM g 1 rfl (by omega) (by decide) dX8_half_33 ?_
  refine v_aload_n g dX8_half_34 0 rfl 0 rfl ?_
  refine gf_X8_83 g dX8_half_35 0 rfl rfl ?_
  refine v_iload_n g dX8_half_38 1 rfl 1 rfl ?_
  refine v_laldM g 1 rfl (by omega) (by decide) dX8_half_39 ?_
  refine v_lxorQ g ((cc_add p1 p2 t_a0_x) p3) ((cc_add p1 p2 t_a0_x) p1) rfl rfl dX8_half_40 ?_
  refine v_iload g dX8_half_41 4 rfl ?_
  refine v_callS (As := [.long (lN (((cc_add p1 p2 t_a0_x) p3) ^^^ ((cc_add p1 p2 t_a0_x) p1)).toNat), .int (nI p4)]) (rest := [.int (nI p3), .ref a0_x]) (wr := [(a0, .inr (8, [.int (nI v_a0_thrown), .ref a0_tape, .int (nI v_a0_taped), .ref a0_out, .int (nI v_a0_outs), .ref a0_slots, .ref a0_kept, .ref a0_phase, .ref a0_secret, .ref a0_key, .ref a0_hide, .ref a0_iv, .ref a0_begin, .ref a0_each, .ref a0_root, .ref a0_power, .ref a0_work, .ref a0_w, .ref a0_h, .ref a0_state, .ref a0_sum, .ref a0_pad, .ref a0_text, .int (nI v_a0_texts), .ref a0_info, .int (nI v_a0_infos), .ref a0_made, .ref a0_blockKey, .ref a0_nonce, .ref a0_x, .ref a0_first, .ref a0_block, .ref a0_a, .ref a0_r, .ref a0_product, .ref a0_tag, .ref a0_sealed])), (a0_x, aM C.D 16 (cc_add p1 p2 t_a0_x))]) cw_X8_186 (hy_X8_left) g (c_left C.l C.D (((cc_add p1 p2 t_a0_x) p3) ^^^ ((cc_add p1 p2 t_a0_x) p1)) p4 (by omega) (by omega)) dX8_half_43 rfl (by decide) (by decide) (Nat.le_of_ble_eq_true rfl) [] [0, 1] rfl rfl (by decide) rfl (by decide) (by decide) _ rfl (fun r wo hp2 => ?_)
  obtain ⟨rfl, rfl⟩ := hp2
  show VJ C 0 0 46 [(0, .ref a0), (1, .int (nI p1)), (2, .int (nI p2)), (3, .int (nI p3)), (4, .int (nI p4))] [.long (lN (rotl (((cc_add p1 p2 t_a0_x) p3) ^^^ ((cc_add p1 p2 t_a0_x) p1)) p4).toNat), .int (nI p3), .ref a0_x] [(a0, .inr (8, [.int (nI v_a0_thrown), .ref a0_tape, .int (nI v_a0_taped), .ref a0_out, .int (nI v_a0_outs), .ref a0_slots, .ref a0_kept, .ref a0_phase, .ref a0_secret, .ref a0_key, .ref a0_hide, .ref a0_iv, .ref a0_begin, .ref a0_each, .ref a0_root, .ref a0_power, .ref a0_work, .ref a0_w, .ref a0_h, .ref a0_state, .ref a0_sum, .ref a0_pad, .ref a0_text, .int (nI v_a0_texts), .ref a0_info, .int (nI v_a0_infos), .ref a0_made, .ref a0_blockKey, .ref a0_nonce, .ref a0_x, .ref a0_first, .ref a0_block, .ref a0_a, .ref a0_r, .ref a0_product, .ref a0_tag, .ref a0_sealed])), (a0_x, aM C.D 16 (cc_add p1 p2 t_a0_x))]
  obtain ⟨t3, ht3⟩ : ∃ z : Nat → Wd, z = va_up (cc_add p1 p2 t_a0_x) p3 (rotl (((cc_add p1 p2 t_a0_x) p3) ^^^ ((cc_add p1 p2 t_a0_x) p1)) p4) := ⟨_, rfl⟩
  refine v_lastM g (rotl (((cc_add p1 p2 t_a0_x) p3) ^^^ ((cc_add p1 p2 t_a0_x) p1)) p4) rfl t3 ht3 1 [(a0, .inr (8, [.int (nI v_a0_thrown), .ref a0_tape, .int (nI v_a0_taped), .ref a0_out, .int (nI v_a0_outs), .ref a0_slots, .ref a0_kept, .ref a0_phase, .ref a0_secret, .ref a0_key, .ref a0_hide, .ref a0_iv, .ref a0_begin, .ref a0_each, .ref a0_root, .ref a0_power, .ref a0_work, .ref a0_w, .ref a0_h, .ref a0_state, .ref a0_sum, .ref a0_pad, .ref a0_text, .int (nI v_a0_texts), .ref a0_info, .int (nI v_a0_infos), .ref a0_made, .ref a0_blockKey, .ref a0_nonce, .ref a0_x, .ref a0_first, .ref a0_block, .ref a0_a, .ref a0_r, .ref a0_product, .ref a0_tag, .ref a0_sealed])), (a0_x, aM C.D 16 t3)] rfl (by omega) (by decide) dX8_half_46 rfl ?_
  subst ht3
  exact v_ret g R dX8_half_47 (by decide) (by decide) ⟨rfl, rfl⟩
set_option maxHeartbeats 4000000 in
set_option maxRecDepth 100000 in
theorem c_R_mix (l : Launch) (D : va_G) (a0 : Nat) (p1 : Nat) (p2 : Nat) (p3 : Nat) (p4 : Nat) (v_a0_thrown : Nat) (a0_tape : Nat) (v_a0_taped : Nat) (a0_out : Nat) (v_a0_outs : Nat) (a0_slots : Nat) (a0_kept : Nat) (a0_phase : Nat) (a0_secret : Nat) (a0_key : Nat) (a0_hide : Nat) (a0_iv : Nat) (a0_begin : Nat) (a0_each : Nat) (a0_root : Nat) (a0_power : Nat) (a0_work : Nat) (a0_w : Nat) (a0_h : Nat) (a0_state : Nat) (a0_sum : Nat) (a0_pad : Nat) (a0_text : Nat) (v_a0_texts : Nat) (a0_info : Nat) (v_a0_infos : Nat) (a0_made : Nat) (a0_blockKey : Nat) (a0_nonce : Nat) (a0_x : Nat) (a0_first : Nat) (a0_block : Nat) (a0_a : Nat) (a0_r : Nat) (a0_product : Nat) (a0_tag : Nat) (a0_sealed : Nat) (t_a0_x : Nat → Wd)  (h1 : p1 < 16) (h2 : p2 < 16) (h3 : p3 < 16) (h4 : p4 < 16) : vM l D yX8_mix cX8_mix 5 none { frames := 2, cells := 0, slots := 0, locals := 46 } [.ref a0, .int (nI p1), .int (nI p2), .int (nI p3), .int (nI p4)] [(a0, .inr (8, [.int (nI v_a0_thrown), .ref a0_tape, .int (nI v_a0_taped), .ref a0_out, .int (nI v_a0_outs), .ref a0_slots, .ref a0_kept, .ref a0_phase, .ref a0_secret, .ref a0_key, .ref a0_hide, .ref a0_iv, .ref a0_begin, .ref a0_each, .ref a0_root, .ref a0_power, .ref a0_work, .ref a0_w, .ref a0_h, .ref a0_state, .ref a0_sum, .ref a0_pad, .ref a0_text, .int (nI v_a0_texts), .ref a0_info, .int (nI v_a0_infos), .ref a0_made, .ref a0_blockKey, .ref a0_nonce, .ref a0_x, .ref a0_first, .ref a0_block, .ref a0_a, .ref a0_r, .ref a0_product, .ref a0_tag, .ref a0_sealed])), (a0_x, aM D 16 t_a0_x)] (fun r wo => r = none ∧ wo = [(a0, .inr (8, [.int (nI v_a0_thrown), .ref a0_tape, .int (nI v_a0_taped), .ref a0_out, .int (nI v_a0_outs), .ref a0_slots, .ref a0_kept, .ref a0_phase, .ref a0_secret, .ref a0_key, .ref a0_hide, .ref a0_iv, .ref a0_begin, .ref a0_each, .ref a0_root, .ref a0_power, .ref a0_work, .ref a0_w, .ref a0_h, .ref a0_state, .ref a0_sum, .ref a0_pad, .ref a0_text, .int (nI v_a0_texts), .ref a0_info, .int (nI v_a0_infos), .ref a0_made, .ref a0_blockKey, .ref a0_nonce, .ref a0_x, .ref a0_first, .ref a0_block, .ref a0_a, .ref a0_r, .ref a0_product, .ref a0_tag, .ref a0_sealed])), (a0_x, aM D 16 (cc_qr p1 p2 p3 p4 t_a0_x))]) := by
  refine vM.of (by decide) (Nat.le_of_ble_eq_true rfl) (fun C hCl hCD g R => ?_)
  subst hCl; subst hCD
  show VJ C 0 0 0 [(0, .ref a0), (1, .int (nI p1)), (2, .int (nI p2)), (3, .int (nI p3)), (4, .int (nI p4))] [] [(a0, .inr (8, [.int (nI v_a0_thrown), .ref a0_tape, .int (nI v_a0_taped), .ref a0_out, .int (nI v_a0_outs), .ref a0_slots, .ref a0_kept, .ref a0_phase, .ref a0_secret, .ref a0_key, .ref a0_hide, .ref a0_iv, .ref a0_begin, .ref a0_each, .ref a0_root, .ref a0_power, .ref a0_work, .ref a0_w, .ref a0_h, .ref a0_state, .ref a0_sum, .ref a0_pad, .ref a0_text, .int (nI v_a0_texts), .ref a0_info, .int (nI v_a0_infos), .ref a0_made, .ref a0_blockKey, .ref a0_nonce, .ref a0_x, .ref a0_first, .ref a0_block, .ref a0_a, .ref a0_r, .ref a0_product, .ref a0_tag, .ref a0_sealed])), (a0_x, aM C.D 16 t_a0_x)]
  refine v_aload_n g dX8_mix_0 0 rfl 0 rfl ?_
  refine v_iload_n g dX8_mix_1 1 rfl 1 rfl ?_
  refine v_iload_n g dX8_mix_2 2 rfl 2 rfl ?_
  refine v_iload g dX8_mix_3 4 rfl ?_
  refine v_bipush g dX8_mix_5 (v := nI 16) (by decide +kernel) ?_
  refine v_callV (As := [.int (nI p1), .int (nI p2), .int (nI p4), .int (nI 16)]) (rest := []) (wr := []) cw_X8_189 (hy_X8_half) g (c_R_half C.l C.D a0 p1 p2 p4 16 v_a0_thrown a0_tape v_a0_taped a0_out v_a0_outs a0_slots a0_kept a0_phase a0_secret a0_key a0_hide a0_iv a0_begin a0_each a0_root a0_power a0_work a0_w a0_h a0_state a0_sum a0_pad a0_text v_a0_texts a0_info v_a0_infos a0_made a0_blockKey a0_nonce a0_x a0_first a0_block a0_a a0_r a0_product a0_tag a0_sealed t_a0_x (by omega) (by omega) (by omega) (by omega) (by omega)) dX8_mix_7 0 rfl rfl rfl (by decide) (by decide) (Nat.le_of_ble_eq_true rfl) [0, 1] [] rfl rfl (by decide) rfl (by decide) (by decide) _ rfl (fun r wo hp1 => ?_)
  obtain ⟨rfl, rfl⟩ := hp1
  show VJ C 0 0 10 [(0, .ref a0), (1, .int (nI p1)), (2, .int (nI p2)), (3, .int (nI p3)), (4, .int (nI p4))] [] [(a0, .inr (8, [.int (nI v_a0_thrown), .ref a0_tape, .int (nI v_a0_taped), .ref a0_out, .int (nI v_a0_outs), .ref a0_slots, .ref a0_kept, .ref a0_phase, .ref a0_secret, .ref a0_key, .ref a0_hide, .ref a0_iv, .ref a0_begin, .ref a0_each, .ref a0_root, .ref a0_power, .ref a0_work, .ref a0_w, .ref a0_h, .ref a0_state, .ref a0_sum, .ref a0_pad, .ref a0_text, .int (nI v_a0_texts), .ref a0_info, .int (nI v_a0_infos), .ref a0_made, .ref a0_blockKey, .ref a0_nonce, .ref a0_x, .ref a0_first, .ref a0_block, .ref a0_a, .ref a0_r, .ref a0_product, .ref a0_tag, .ref a0_sealed])), (a0_x, aM C.D 16 (cc_half p1 p2 p4 16 t_a0_x))]
  refine v_aload_n g dX8_mix_10 0 rfl 0 rfl ?_
  refine v_iload_n g dX8_mix_11 3 rfl 3 rfl ?_
  refine v_iload g dX8_mix_12 4 rfl ?_
  refine v_iload_n g dX8_mix_14 2 rfl 2 rfl ?_
  refine v_bipush g dX8_mix_15 (v := nI 12) (by decide +kernel) ?_
  refine v_callV (As := [.int (nI p3), .int (nI p4), .int (nI p2), .int (nI 12)]) (rest := []) (wr := []) cw_X8_189 (hy_X8_half) g (c_R_half C.l C.D a0 p3 p4 p2 12 v_a0_thrown a0_tape v_a0_taped a0_out v_a0_outs a0_slots a0_kept a0_phase a0_secret a0_key a0_hide a0_iv a0_begin a0_each a0_root a0_power a0_work a0_w a0_h a0_state a0_sum a0_pad a0_text v_a0_texts a0_info v_a0_infos a0_made a0_blockKey a0_nonce a0_x a0_first a0_block a0_a a0_r a0_product a0_tag a0_sealed (cc_half p1 p2 p4 16 t_a0_x) (by omega) (by omega) (by omega) (by omega) (by omega)) dX8_mix_17 0 rfl rfl rfl (by decide) (by decide) (Nat.le_of_ble_eq_true rfl) [0, 1] [] rfl rfl (by decide) rfl (by decide) (by decide) _ rfl (fun r wo hp2 => ?_)
  obtain ⟨rfl, rfl⟩ := hp2
  show VJ C 0 0 20 [(0, .ref a0), (1, .int (nI p1)), (2, .int (nI p2)), (3, .int (nI p3)), (4, .int (nI p4))] [] [(a0, .inr (8, [.int (nI v_a0_thrown), .ref a0_tape, .int (nI v_a0_taped), .ref a0_out, .int (nI v_a0_outs), .ref a0_slots, .ref a0_kept, .ref a0_phase, .ref a0_secret, .ref a0_key, .ref a0_hide, .ref a0_iv, .ref a0_begin, .ref a0_each, .ref a0_root, .ref a0_power, .ref a0_work, .ref a0_w, .ref a0_h, .ref a0_state, .ref a0_sum, .ref a0_pad, .ref a0_text, .int (nI v_a0_texts), .ref a0_info, .int (nI v_a0_infos), .ref a0_made, .ref a0_blockKey, .ref a0_nonce, .ref a0_x, .ref a0_first, .ref a0_block, .ref a0_a, .ref a0_r, .ref a0_product, .ref a0_tag, .ref a0_sealed])), (a0_x, aM C.D 16 (cc_half p3 p4 p2 12 (cc_half p1 p2 p4 16 t_a0_x)))]
  refine v_aload_n g dX8_mix_20 0 rfl 0 rfl ?_
  refine v_iload_n g dX8_mix_21 1 rfl 1 rfl ?_
  refine v_iload_n g dX8_mix_22 2 rfl 2 rfl ?_
  refine v_iload g dX8_mix_23 4 rfl ?_
  refine v_bipush g dX8_mix_25 (v := nI 8) (by decide +kernel) ?_
  refine v_callV (As := [.int (nI p1), .int (nI p2), .int (nI p4), .int (nI 8)]) (rest := []) (wr := []) cw_X8_189 (hy_X8_half) g (c_R_half C.l C.D a0 p1 p2 p4 8 v_a0_thrown a0_tape v_a0_taped a0_out v_a0_outs a0_slots a0_kept a0_phase a0_secret a0_key a0_hide a0_iv a0_begin a0_each a0_root a0_power a0_work a0_w a0_h a0_state a0_sum a0_pad a0_text v_a0_texts a0_info v_a0_infos a0_made a0_blockKey a0_nonce a0_x a0_first a0_block a0_a a0_r a0_product a0_tag a0_sealed (cc_half p3 p4 p2 12 (cc_half p1 p2 p4 16 t_a0_x)) (by omega) (by omega) (by omega) (by omega) (by omega)) dX8_mix_27 0 rfl rfl rfl (by decide) (by decide) (Nat.le_of_ble_eq_true rfl) [0, 1] [] rfl rfl (by decide) rfl (by decide) (by decide) _ rfl (fun r wo hp3 => ?_)
  obtain ⟨rfl, rfl⟩ := hp3
  show VJ C 0 0 30 [(0, .ref a0), (1, .int (nI p1)), (2, .int (nI p2)), (3, .int (nI p3)), (4, .int (nI p4))] [] [(a0, .inr (8, [.int (nI v_a0_thrown), .ref a0_tape, .int (nI v_a0_taped), .ref a0_out, .int (nI v_a0_outs), .ref a0_slots, .ref a0_kept, .ref a0_phase, .ref a0_secret, .ref a0_key, .ref a0_hide, .ref a0_iv, .ref a0_begin, .ref a0_each, .ref a0_root, .ref a0_power, .ref a0_work, .ref a0_w, .ref a0_h, .ref a0_state, .ref a0_sum, .ref a0_pad, .ref a0_text, .int (nI v_a0_texts), .ref a0_info, .int (nI v_a0_infos), .ref a0_made, .ref a0_blockKey, .ref a0_nonce, .ref a0_x, .ref a0_first, .ref a0_block, .ref a0_a, .ref a0_r, .ref a0_product, .ref a0_tag, .ref a0_sealed])), (a0_x, aM C.D 16 (cc_half p1 p2 p4 8 (cc_half p3 p4 p2 12 (cc_half p1 p2 p4 16 t_a0_x))))]
  refine v_aload_n g dX8_mix_30 0 rfl 0 rfl ?_
  refine v_iload_n g dX8_mix_31 3 rfl 3 rfl ?_
  refine v_iload g dX8_mix_32 4 rfl ?_
  refine v_iload_n g dX8_mix_34 2 rfl 2 rfl ?_
  refine v_bipush g dX8_mix_35 (v := nI 7) (by decide +kernel) ?_
  refine v_callV (As := [.int (nI p3), .int (nI p4), .int (nI p2), .int (nI 7)]) (rest := []) (wr := []) cw_X8_189 (hy_X8_half) g (c_R_half C.l C.D a0 p3 p4 p2 7 v_a0_thrown a0_tape v_a0_taped a0_out v_a0_outs a0_slots a0_kept a0_phase a0_secret a0_key a0_hide a0_iv a0_begin a0_each a0_root a0_power a0_work a0_w a0_h a0_state a0_sum a0_pad a0_text v_a0_texts a0_info v_a0_infos a0_made a0_blockKey a0_nonce a0_x a0_first a0_block a0_a a0_r a0_product a0_tag a0_sealed (cc_half p1 p2 p4 8 (cc_half p3 p4 p2 12 (cc_half p1 p2 p4 16 t_a0_x))) (by omega) (by omega) (by omega) (by omega) (by omega)) dX8_mix_37 0 rfl rfl rfl (by decide) (by decide) (Nat.le_of_ble_eq_true rfl) [0, 1] [] rfl rfl (by decide) rfl (by decide) (by decide) _ rfl (fun r wo hp4 => ?_)
  obtain ⟨rfl, rfl⟩ := hp4
  show VJ C 0 0 40 [(0, .ref a0), (1, .int (nI p1)), (2, .int (nI p2)), (3, .int (nI p3)), (4, .int (nI p4))] [] [(a0, .inr (8, [.int (nI v_a0_thrown), .ref a0_tape, .int (nI v_a0_taped), .ref a0_out, .int (nI v_a0_outs), .ref a0_slots, .ref a0_kept, .ref a0_phase, .ref a0_secret, .ref a0_key, .ref a0_hide, .ref a0_iv, .ref a0_begin, .ref a0_each, .ref a0_root, .ref a0_power, .ref a0_work, .ref a0_w, .ref a0_h, .ref a0_state, .ref a0_sum, .ref a0_pad, .ref a0_text, .int (nI v_a0_texts), .ref a0_info, .int (nI v_a0_infos), .ref a0_made, .ref a0_blockKey, .ref a0_nonce, .ref a0_x, .ref a0_first, .ref a0_block, .ref a0_a, .ref a0_r, .ref a0_product, .ref a0_tag, .ref a0_sealed])), (a0_x, aM C.D 16 (cc_half p3 p4 p2 7 (cc_half p1 p2 p4 8 (cc_half p3 p4 p2 12 (cc_half p1 p2 p4 16 t_a0_x)))))]
  exact v_ret g R dX8_mix_40 (by decide) (by decide) ⟨rfl, rfl⟩
