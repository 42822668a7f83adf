/-! WORDS, BYTES: what an int or a long stands for. -/
abbrev By : Type := BitVec 8
abbrev Wd : Type := BitVec 32
def wI (x : Wd) : Int32 := Int32.ofBitVec x
def bI (b : By) : Int32 := (Int8.ofBitVec b).toInt32
def xL (x : BitVec 64) : Int64 := Int64.ofBitVec x
theorem wI_n (n : Nat) : nI n = wI (BitVec.ofNat 32 n) := rfl
theorem wI_inj {a b : Wd} (h : wI a = wI b) : a = b := congrArg Int32.toBitVec h
theorem wI_of (x : Int32) : x = wI x.toBitVec := rfl
theorem wI_bv (x : Wd) : (wI x).toBitVec = x := rfl
theorem bI_w : ∀ b : By, bI b = wI (b.signExtend 32) := by decide +kernel
theorem bI_and : ∀ b : By, bI b &&& nI 255 = wI (b.setWidth 32) := by decide +kernel
theorem bI_nat : ∀ b : By, bI b &&& nI 255 = nI b.toNat := by decide +kernel
theorem bI_inj : ∀ a b : By, bI a = bI b → a = b := by
  intro a b h
  have ha := bI_nat a
  have hb := bI_nat b
  rw [h, hb] at ha
  have := congrArg (fun z : Int32 => z.toBitVec.toNat) ha
  simp only [nI, Int32.toBitVec_ofNat', BitVec.toNat_ofNat] at this
  have h1 := a.isLt
  have h2 := b.isLt
  apply BitVec.eq_of_toNat_eq
  omega
theorem bI_nar : ∀ b : By, vp_nar .byte (bI b) = bI b := by decide +kernel
theorem wI_i2b (x : Wd) : (wI x).toInt8.toInt32 = bI (x.setWidth 8) := by
  unfold wI bI
  congr 1
  apply Int8.toBitVec_inj.mp
  simp [BitVec.signExtend_eq_setWidth_of_le]
theorem nI_i2b (n : Nat) : (nI n).toInt8.toInt32 = bI (BitVec.ofNat 8 n) := by
  rw [wI_n, wI_i2b]
  congr 1
  apply BitVec.eq_of_toNat_eq
  simp
theorem bI_fit (b : By) : fits .byte (.int (bI b)) = true := by
  have h := pk_fb (bI b)
  have e : (bI b).toInt8.toInt32 = bI b := by revert b; decide +kernel
  rw [e] at h
  exact h
theorem sh_l : ∀ k, k < 32 → ((nI k &&& 31).toBitVec.smod 32).toNat = k := by decide +kernel
theorem sh_u : ∀ k, k < 32 → (((nI k).toUInt32 &&& Int32.toUInt32 31).toBitVec % 32).toNat = k := by decide +kernel
theorem wI_shl (x : Wd) {k : Nat} (hk : k < 32) : wI x <<< (nI k &&& 31) = wI (x <<< k) := by
  apply Int32.toBitVec_inj.mp
  rw [Int32.toBitVec_shiftLeft]
  rw [BitVec.shiftLeft_eq', sh_l k hk]
  rfl
theorem wI_ushr (x : Wd) {k : Nat} (hk : k < 32) : ((wI x).toUInt32 >>> ((nI k).toUInt32 &&& Int32.toUInt32 31)).toInt32 = wI (x >>> k) := by
  apply Int32.toBitVec_inj.mp
  show ((wI x).toUInt32 >>> ((nI k).toUInt32 &&& Int32.toUInt32 31)).toBitVec = x >>> k
  rw [UInt32.toBitVec_shiftRight]
  rw [BitVec.ushiftRight_eq', sh_u k hk]
  rfl
theorem nI_ior (a b : Nat) : nI a ||| nI b = nI (a ||| b) := by
  apply Int32.toBitVec_inj.mp
  simp [nI, BitVec.ofNat_or]
theorem nI_iand (a b : Nat) : nI a &&& nI b = nI (a &&& b) := by
  apply Int32.toBitVec_inj.mp
  simp [nI, BitVec.ofNat_and]
theorem nI_ixor (a b : Nat) : nI a ^^^ nI b = nI (a ^^^ b) := by
  apply Int32.toBitVec_inj.mp
  simp [nI, BitVec.ofNat_xor]
theorem nI_mask (a s : Nat) : nI a &&& nI (2 ^ s - 1) = nI (a % 2 ^ s) := by
  rw [nI_iand, Nat.and_two_pow_sub_one_eq_mod]
theorem nI_shl (a : Nat) {k : Nat} (hk : k < 32) : nI a <<< (nI k &&& 31) = nI (a * 2 ^ k) := by
  rw [wI_n, wI_shl _ hk, wI_n]
  congr 1
  apply BitVec.eq_of_toNat_eq
  simp [Nat.shiftLeft_eq, Nat.mod_mul_mod]
theorem nI_shr {a : Nat} (ha : a < 2 ^ 31) {k : Nat} (hk : k < 32) : nI a >>> (nI k &&& 31) = nI (a / 2 ^ k) := pk_shrN ha _ k (sh_l k hk)
theorem nI_ushr {a : Nat} (ha : a < 2 ^ 32) {k : Nat} (hk : k < 32) : ((nI a).toUInt32 >>> ((nI k).toUInt32 &&& Int32.toUInt32 31)).toInt32 = nI (a / 2 ^ k) := pk_ushrN ha _ k (sh_u k hk)
/-! longs -/
theorem xL_n (n : Nat) : lN n = xL (BitVec.ofNat 64 n) := rfl
theorem sh_L : ∀ k, k < 64 → (((nI k).toInt64 &&& 63).toBitVec.smod 64).toNat = k := by decide +kernel
theorem sh_U : ∀ k, k < 64 → (((nI k).toInt64.toUInt64 &&& Int64.toUInt64 63).toBitVec % 64).toNat = k := by decide +kernel
theorem xL_shl (x : BitVec 64) {k : Nat} (hk : k < 64) : xL x <<< ((nI k).toInt64 &&& 63) = xL (x <<< k) := by
  apply Int64.toBitVec_inj.mp
  rw [Int64.toBitVec_shiftLeft]
  rw [BitVec.shiftLeft_eq', sh_L k hk]
  rfl
theorem xL_ushr (x : BitVec 64) {k : Nat} (hk : k < 64) : ((xL x).toUInt64 >>> ((nI k).toInt64.toUInt64 &&& Int64.toUInt64 63)).toInt64 = xL (x >>> k) := by
  apply Int64.toBitVec_inj.mp
  show ((xL x).toUInt64 >>> ((nI k).toInt64.toUInt64 &&& Int64.toUInt64 63)).toBitVec = x >>> k
  rw [UInt64.toBitVec_shiftRight]
  rw [BitVec.ushiftRight_eq', sh_U k hk]
  rfl
theorem xL_shr (x : BitVec 64) {k : Nat} (hk : k < 64) : xL x >>> ((nI k).toInt64 &&& 63) = xL (x.sshiftRight k) := by
  apply Int64.toBitVec_inj.mp
  rw [Int64.toBitVec_shiftRight]
  rw [BitVec.sshiftRight_eq', sh_L k hk]
  rfl
theorem lN_shl (a : Nat) {k : Nat} (hk : k < 64) : lN a <<< ((nI k).toInt64 &&& 63) = lN (a * 2 ^ k) := by
  rw [xL_n, xL_shl _ hk, xL_n]
  congr 1
  apply BitVec.eq_of_toNat_eq
  simp [Nat.shiftLeft_eq, Nat.mod_mul_mod]
theorem lN_ushr {a : Nat} (ha : a < 2 ^ 64) {k : Nat} (hk : k < 64) : ((lN a).toUInt64 >>> ((nI k).toInt64.toUInt64 &&& Int64.toUInt64 63)).toInt64 = lN (a / 2 ^ k) := by
  rw [xL_n, xL_ushr _ hk, xL_n]
  congr 1
  apply BitVec.eq_of_toNat_eq
  have h2 : a / 2 ^ k ≤ a := Nat.div_le_self _ _
  simp only [BitVec.toNat_ushiftRight, BitVec.toNat_ofNat, Nat.shiftRight_eq_div_pow]
  rw [Nat.mod_eq_of_lt ha, Nat.mod_eq_of_lt (by omega)]
theorem lN_shr {a : Nat} (ha : a < 2 ^ 63) {k : Nat} (hk : k < 64) : lN a >>> ((nI k).toInt64 &&& 63) = lN (a / 2 ^ k) := by
  rw [xL_n, xL_shr _ hk, xL_n]
  congr 1
  have hm : (BitVec.ofNat 64 a).msb = false := by
    rw [BitVec.msb_eq_false_iff_two_mul_lt]
    simp only [BitVec.toNat_ofNat]
    omega
  rw [BitVec.sshiftRight_eq_of_msb_false hm]
  apply BitVec.eq_of_toNat_eq
  have h2 : a / 2 ^ k ≤ a := Nat.div_le_self _ _
  simp only [BitVec.toNat_ushiftRight, BitVec.toNat_ofNat, Nat.shiftRight_eq_div_pow]
  rw [Nat.mod_eq_of_lt (by omega), Nat.mod_eq_of_lt (by omega)]
theorem lN_lor (a b : Nat) : lN a ||| lN b = lN (a ||| b) := by
  apply Int64.toBitVec_inj.mp
  simp [lN, BitVec.ofNat_or]
theorem lN_land (a b : Nat) : lN a &&& lN b = lN (a &&& b) := by
  apply Int64.toBitVec_inj.mp
  simp [lN, BitVec.ofNat_and]
theorem lN_lxor (a b : Nat) : lN a ^^^ lN b = lN (a ^^^ b) := by
  apply Int64.toBitVec_inj.mp
  simp [lN, BitVec.ofNat_xor]
theorem lN_mask (a s : Nat) : lN a &&& lN (2 ^ s - 1) = lN (a % 2 ^ s) := by
  rw [lN_land, Nat.and_two_pow_sub_one_eq_mod]
theorem xL_l2i (x : BitVec 64) : (xL x).toInt32 = wI (x.setWidth 32) := by
  apply Int32.toBitVec_inj.mp
  simp [xL, wI, BitVec.signExtend_eq_setWidth_of_le]
theorem wI_i2l (x : Wd) : (wI x).toInt64 = xL (x.signExtend 64) := rfl
