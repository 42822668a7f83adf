/-! the reference's TALLY: numbers of bytes with a carry -/
def dsm (c : Nat → Nat) : Nat → Nat
  | 0 => 0
  | k + 1 => dsm c k + c k * 256 ^ k
theorem leN_s (t : Nat → By) (n : Nat) : leN t (n + 1) = leN t n + (t n).toNat * 256 ^ n := rfl
theorem leN_up {t : Nat → By} {k : Nat} (v : By) : leN (va_up t k v) k = leN t k := leN_congr k (fun j hj => by unfold va_up; rw [if_neg (by omega)])
theorem cy_s {t t' : Nat → By} {k cy x D : Nat} (h : leN t k + cy * 256 ^ k = D) (ht : t' = va_up t k (BitVec.ofNat 8 (cy + x))) : leN t' (k + 1) + (cy + x) / 2 ^ 8 * 256 ^ (k + 1) = D + x * 256 ^ k := by
  subst ht
  simp only [leN]
  rw [leN_up, va_up_at, BitVec.toNat_ofNat, show (256 : Nat) ^ (k + 1) = 256 ^ k * 256 from Nat.pow_succ _ _, ← h]
  have e : (cy + x) % 2 ^ 8 + (cy + x) / 2 ^ 8 * 256 = cy + x := by omega
  have e2 : (cy + x) % 2 ^ 8 * 256 ^ k + (cy + x) / 2 ^ 8 * (256 ^ k * 256) = cy * 256 ^ k + x * 256 ^ k := by
    rw [← Nat.add_mul, ← e, Nat.add_mul, e, Nat.mul_assoc _ 256, Nat.mul_comm 256]
  omega
theorem leN_split (t : Nat → By) (m : Nat) : ∀ d, leN t (m + d) = leN t m + 256 ^ m * leN (fun j => t (m + j)) d := by
  intro d
  induction d with
  | zero => simp [leN]
  | succ d ih =>
    rw [← Nat.add_assoc]
    simp only [leN]
    rw [ih, Nat.mul_add, Nat.pow_add, Nat.add_assoc]
    congr 2
    rw [Nat.mul_comm, Nat.mul_assoc, Nat.mul_comm (256 ^ d)]
theorem leN_top {t : Nat → By} {m n : Nat} (hmn : m ≤ n) (h : leN t n < 256 ^ m) : leN t m = leN t n ∧ ∀ j, m ≤ j → j < n → t j = 0#8 := by
  obtain ⟨d, rfl⟩ : ∃ d, n = m + d := ⟨n - m, by omega⟩
  have e := leN_split t m d
  have z : leN (fun j => t (m + j)) d = 0 := by
    rcases Nat.eq_zero_or_pos (leN (fun j => t (m + j)) d) with q | q
    · exact q
    · have q2 := Nat.le_mul_of_pos_right (256 ^ m) q
      omega
  refine ⟨by rw [e, z]; omega, fun j h1 h2 => ?_⟩
  have all : ∀ d (s : Nat → By), leN s d = 0 → ∀ j, j < d → s j = 0#8 := by
    intro d
    induction d with
    | zero => intro s _ j hj; omega
    | succ d ih =>
      intro s hs j hj
      simp only [leN] at hs
      have p := Nat.pow_pos (n := d) (show 0 < 256 by decide)
      by_cases ej : j = d
      · subst ej
        apply BitVec.eq_of_toNat_eq
        rcases Nat.eq_zero_or_pos (s j).toNat with q | q
        · exact q
        · have := Nat.mul_pos q p
          omega
      · exact ih s (by omega) j (by omega)
  have := all d (fun j => t (m + j)) z (j - m) (by omega)
  rw [show m + (j - m) = j by omega] at this
  exact this
/-- a product's digits -/
def cvt (r a : Nat → By) (k i : Nat) : Nat := if i ≤ k ∧ k - i < 18 then (r i).toNat * (a (k - i)).toNat else 0
def cv (r a : Nat → By) (k : Nat) : Nat → Nat
  | 0 => 0
  | i + 1 => cv r a k i + cvt r a k i
theorem cvt_le (r a : Nat → By) (k i : Nat) : cvt r a k i ≤ 65025 := by
  unfold cvt
  split
  · exact Nat.mul_le_mul (show (r i).toNat ≤ 255 by have := (r i).isLt; omega) (show (a (k - i)).toNat ≤ 255 by have := (a (k - i)).isLt; omega)
  · omega
theorem cv_le (r a : Nat → By) (k : Nat) : ∀ i, cv r a k i ≤ i * 65025 := by
  intro i
  induction i with
  | zero => simp [cv]
  | succ i ih => simp only [cv]; have := cvt_le r a k i; omega
theorem cv_far (r a : Nat → By) (k : Nat) : ∀ d, cv r a k (k + 1 + d) = cv r a k (k + 1) := by
  intro d
  induction d with
  | zero => rfl
  | succ d ih =>
    rw [← Nat.add_assoc]
    simp only [cv] at ih ⊢
    rw [ih]
    unfold cvt
    rw [if_neg (show ¬ (k + 1 + d ≤ k ∧ k - (k + 1 + d) < 18) by omega)]
    rfl
theorem cv_16 (r a : Nat → By) (k : Nat) : cv r a k (min 16 (k + 1)) = cv r a k 16 := by
  by_cases h : k + 1 ≤ 16
  · rw [Nat.min_eq_right h]
    have := cv_far r a k (16 - (k + 1))
    rw [show k + 1 + (16 - (k + 1)) = 16 by omega] at this
    exact this.symm
  · rw [Nat.min_eq_left (by omega)]
theorem dsm_add (c d : Nat → Nat) : ∀ k, dsm (fun i => c i + d i) k = dsm c k + dsm d k := by
  intro k
  induction k with
  | zero => rfl
  | succ k ih => simp only [dsm]; rw [ih, Nat.add_mul]; omega
theorem dsm_mul (c : Nat → Nat) (x : Nat) : ∀ k, dsm (fun i => x * c i) k = x * dsm c k := by
  intro k
  induction k with
  | zero => rfl
  | succ k ih => simp only [dsm]; rw [ih, Nat.mul_add, Nat.mul_assoc]
theorem dsm_congr {c d : Nat → Nat} : ∀ k, (∀ j, j < k → c j = d j) → dsm c k = dsm d k := by
  intro k
  induction k with
  | zero => intro _; rfl
  | succ k ih => intro h; simp only [dsm]; rw [ih (fun j hj => h j (by omega)), h k (by omega)]
theorem dsm_0 : ∀ k, dsm (fun _ => 0) k = 0 := by
  intro k
  induction k with
  | zero => rfl
  | succ k ih => simp only [dsm]; rw [ih]; omega
theorem dsm_sh (a : Nat → By) (m : Nat) : ∀ j, j ≤ 18 → dsm (fun k => if m ≤ k ∧ k - m < 18 then (a (k - m)).toNat else 0) (m + j) = 256 ^ m * leN a j := by
  have z : ∀ i, i ≤ m → dsm (fun k => if m ≤ k ∧ k - m < 18 then (a (k - m)).toNat else 0) i = 0 := by
    intro i
    induction i with
    | zero => intro _; rfl
    | succ i ih => intro h; simp only [dsm]; rw [ih (by omega), if_neg (by omega)]; omega
  intro j
  induction j with
  | zero => intro _; rw [z _ (by omega)]; simp [leN]
  | succ j ih =>
    intro h
    rw [← Nat.add_assoc]
    simp only [dsm, leN]
    rw [ih (by omega), if_pos (by omega), show m + j - m = j by omega, Nat.mul_add, Nat.pow_add]
    congr 1
    rw [Nat.mul_left_comm]
theorem dsm_st (c : Nat → Nat) (n : Nat) : ∀ d, (∀ j, n ≤ j → j < n + d → c j = 0) → dsm c (n + d) = dsm c n := by
  intro d
  induction d with
  | zero => intro _; rfl
  | succ d ih => intro h; rw [← Nat.add_assoc]; simp only [dsm]; rw [ih (fun j h1 h2 => h j h1 (by omega)), h (n + d) (by omega) (by omega)]; omega
theorem cv_mul (r a : Nat → By) : ∀ m, m ≤ 16 → dsm (fun k => cv r a k m) 36 = leN r m * leN a 18 := by
  intro m
  induction m with
  | zero => intro _; show dsm (fun _ => 0) 36 = 0 * leN a 18; rw [dsm_0, Nat.zero_mul]
  | succ m ih =>
    intro h
    show dsm (fun k => cv r a k m + cvt r a k m) 36 = (leN r m + (r m).toNat * 256 ^ m) * leN a 18
    rw [dsm_add, ih (by omega), Nat.add_mul]
    congr 1
    have e : ∀ k, cvt r a k m = (r m).toNat * (if m ≤ k ∧ k - m < 18 then (a (k - m)).toNat else 0) := fun k => by
      unfold cvt
      split
      · rfl
      · rw [Nat.mul_zero]
    rw [dsm_congr 36 (fun k _ => e k), dsm_mul, show (36 : Nat) = m + 18 + (18 - m) by omega, dsm_st _ (m + 18) (18 - m) (fun j h1 h2 => if_neg (by omega)), dsm_sh a m 18 (by omega), Nat.mul_assoc]
/-- what stands behind bit 130, and before it -/
def hiD (t : Nat → By) (k : Nat) : Nat := if k < 18 then (t (16 + k)).toNat / 2 ^ 2 + (t (17 + k)).toNat % 2 ^ 2 * 2 ^ 6 else 0
def loD (t : Nat → By) (k : Nat) : Nat := if k < 16 then (t k).toNat else if k = 16 then (t k).toNat % 2 ^ 2 else 0
theorem dsm_leN (t : Nat → By) {c : Nat → Nat} : ∀ k, (∀ j, j < k → c j = (t j).toNat) → dsm c k = leN t k := by
  intro k
  induction k with
  | zero => intro _; rfl
  | succ k ih => intro h; simp only [dsm, leN]; rw [ih (fun j hj => h j (by omega)), h k (by omega)]
theorem lo_v (t : Nat → By) : dsm (loD t) 36 = leN t 16 + (t 16).toNat % 4 * 256 ^ 16 := by
  rw [show (36 : Nat) = 17 + 19 by rfl, dsm_st _ 17 19 (fun j h1 h2 => by unfold loD; rw [if_neg (by omega), if_neg (by omega)])]
  show dsm (loD t) 16 + loD t 16 * 256 ^ 16 = _
  rw [dsm_leN t 16 (fun j hj => by unfold loD; rw [if_pos hj]), show loD t 16 = (t 16).toNat % 4 from rfl]
theorem hi_v0 (t : Nat → By) (Q : Nat) (S : Nat → Nat) (hS : ∀ k, S (k + 1) = S k + (t (16 + k)).toNat * (Q * 256 ^ k)) : ∀ k, k ≤ 18 → S 0 + (t 16).toNat % 4 * Q + 4 * Q * dsm (hiD t) k = S k + (t (16 + k)).toNat % 4 * (Q * 256 ^ k) := by
  intro k
  induction k with
  | zero => intro _; simp only [dsm, Nat.mul_zero, Nat.add_zero, Nat.pow_zero, Nat.mul_one]
  | succ k ih =>
    intro h
    have ih := ih (by omega)
    have e1 : hiD t k = (t (16 + k)).toNat / 4 + (t (16 + (k + 1))).toNat % 4 * 64 := by
      unfold hiD
      rw [if_pos (by omega), show 17 + k = 16 + (k + 1) by omega]
    simp only [dsm]
    rw [hS k, e1, Nat.mul_add, show (256 : Nat) ^ (k + 1) = 256 ^ k * 256 from Nat.pow_succ _ _]
    generalize (256 : Nat) ^ k = y at *
    generalize (t (16 + k)).toNat = u at *
    generalize (t (16 + (k + 1))).toNat = v at *
    generalize S 0 + (t 16).toNat % 4 * Q = Y at *
    generalize 4 * Q * dsm (hiD t) k = Z at *
    have e2 : 4 * Q * ((u / 4 + v % 4 * 64) * y) = (4 * (u / 4)) * (Q * y) + v % 4 * (Q * (y * 256)) := by
      rw [Nat.add_mul, Nat.mul_add]
      congr 1
      · rw [Nat.mul_mul_mul_comm]
      · rw [Nat.mul_assoc (v % 4), ← Nat.mul_assoc (4 * Q), Nat.mul_comm (4 * Q) (v % 4), Nat.mul_assoc (v % 4)]
        congr 1
        rw [Nat.mul_comm 4 Q, Nat.mul_assoc Q, ← Nat.mul_assoc 4, Nat.mul_comm (4 * 64) y]
    have e3 : 4 * (u / 4) * (Q * y) + u % 4 * (Q * y) = u * (Q * y) := by rw [← Nat.add_mul, Nat.div_add_mod]
    rw [e2]
    omega
theorem hi_v (t : Nat → By) : leN t 16 + (t 16).toNat % 4 * 256 ^ 16 + 2 ^ 130 * dsm (hiD t) 18 = leN t 34 + (t 34).toNat % 4 * (256 ^ 16 * 256 ^ 18) := by
  have z := hi_v0 t (256 ^ 16) (fun k => leN t (16 + k)) (fun k => by
    show leN t (16 + k) + (t (16 + k)).toNat * 256 ^ (16 + k) = _
    rw [Nat.pow_add]) 18 (Nat.le_refl _)
  rw [show (2 : Nat) ^ 130 = 4 * 256 ^ 16 from by decide +kernel]
  exact z
theorem fold_v {t : Nat → By} (h : leN t 36 < 2 ^ 256) : dsm (loD t) 36 < 2 ^ 130 ∧ dsm (loD t) 36 + 2 ^ 130 * dsm (hiD t) 36 = leN t 36 := by
  have h32 : leN t 36 < 256 ^ 32 := Nat.lt_of_lt_of_le h (by decide +kernel)
  obtain ⟨e1, e2⟩ := leN_top (m := 34) (by omega) (Nat.lt_of_lt_of_le h32 (by decide +kernel))
  obtain ⟨-, e3⟩ := leN_top (m := 32) (by omega) h32
  have e4 := e3 34 (by omega) (by omega)
  have b := leN_lt t 16
  have b2 : (256 : Nat) ^ 16 = 2 ^ 128 := by decide +kernel
  have e5 : dsm (hiD t) 36 = dsm (hiD t) 18 := by
    rw [show (36 : Nat) = 18 + 18 from rfl]
    exact dsm_st _ 18 18 (fun j h1 h2 => by unfold hiD; rw [if_neg (by omega)])
  have e6 := hi_v t
  rw [e4, e1] at e6
  rw [lo_v, e5]
  refine ⟨?_, ?_⟩
  · rw [b2] at b ⊢
    omega
  · rw [e6, show (0#8).toNat % 4 = 0 from rfl, Nat.zero_mul, Nat.add_zero]
theorem and3 : ∀ b : By, (b &&& 3#8).toNat = b.toNat % 2 ^ 2 := by decide +kernel
theorem fold_p {L H : Nat} : (L + 5 * H) % po_p = (L + 2 ^ 130 * H) % po_p := by
  rw [show (2 : Nat) ^ 130 = po_p + 5 by decide +kernel, Nat.add_mul, Nat.add_comm (po_p * H), ← Nat.add_assoc, Nat.add_mul_mod_self_left]
theorem fold_b1 {V L H : Nat} (hV : V < 2 ^ 256) (e : L + 2 ^ 130 * H = V) (hL : L < 2 ^ 130) : L + 5 * H < 2 ^ 131 := by omega
theorem fold_b2 {V L H : Nat} (hV : V < 2 ^ 131) (e : L + 2 ^ 130 * H = V) (hL : L < 2 ^ 130) : L + 5 * H < 2 ^ 130 + 5 := by omega
