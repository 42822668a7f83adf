/-! the reference's roots of primes -/
def pvN (t : Nat → Nat) : Nat → Nat
  | 0 => 0
  | n + 1 => pvN t n + t n * 65536 ^ n
def cnT (p r : Nat → Nat) (k i : Nat) : Nat := if i ≤ k then p (k - i) * r i else 0
def cn (p r : Nat → Nat) (k : Nat) : Nat → Nat
  | 0 => 0
  | i + 1 => cn p r k i + cnT p r k i
theorem cn_le {p r : Nat → Nat} {k : Nat} (hk : k < 9) (hp : ∀ j, j < 9 → p j < 2 ^ 16) (hr : ∀ j, j < 3 → r j < 2 ^ 16) : ∀ i, i ≤ 3 → cn p r k i ≤ i * 2 ^ 32 := by
  intro i
  induction i with
  | zero => intro _; simp [cn]
  | succ i ih =>
    intro h
    have := ih (by omega)
    simp only [cn]
    have q : cnT p r k i ≤ 2 ^ 32 := by
      unfold cnT
      split
      · have a := Nat.mul_le_mul (Nat.le_of_lt (hp (k - i) (by omega))) (Nat.le_of_lt (hr i (by omega)))
        exact Nat.le_trans a (by decide)
      · omega
    omega
theorem cn_far (p r : Nat → Nat) (k : Nat) : ∀ d, cn p r k (k + 1 + d) = cn p r k (k + 1) := by
  intro d
  induction d with
  | zero => rfl
  | succ d ih =>
    rw [← Nat.add_assoc]
    simp only [cn] at ih ⊢
    rw [ih]
    unfold cnT
    rw [if_neg (show ¬ k + 1 + d ≤ k by omega)]
    rfl
theorem cn_3 (p r : Nat → Nat) (k : Nat) : cn p r k (min 3 (k + 1)) = cn p r k 3 := by
  by_cases h : k + 1 ≤ 3
  · rw [Nat.min_eq_right h]
    have := cn_far p r k (3 - (k + 1))
    rw [show k + 1 + (3 - (k + 1)) = 3 by omega] at this
    exact this.symm
  · rw [Nat.min_eq_left (by omega)]
theorem pv_add (c d : Nat → Nat) : ∀ k, pvN (fun i => c i + d i) k = pvN c k + pvN d k := by
  intro k
  induction k with
  | zero => rfl
  | succ k ih => simp only [pvN]; rw [ih, Nat.add_mul]; omega
theorem pv_mul (c : Nat → Nat) (x : Nat) : ∀ k, pvN (fun i => x * c i) k = x * pvN c k := by
  intro k
  induction k with
  | zero => rfl
  | succ k ih => simp only [pvN]; rw [ih, Nat.mul_add, Nat.mul_assoc]
theorem pv_congr {c d : Nat → Nat} : ∀ k, (∀ j, j < k → c j = d j) → pvN c k = pvN d k := by
  intro k
  induction k with
  | zero => intro _; rfl
  | succ k ih => intro h; simp only [pvN]; rw [ih (fun j hj => h j (by omega)), h k (by omega)]
theorem pv_0 : ∀ k, pvN (fun _ => 0) k = 0 := by
  intro k
  induction k with
  | zero => rfl
  | succ k ih => simp only [pvN]; rw [ih]; omega
theorem pv_sh (p : Nat → Nat) (m : Nat) : ∀ j, pvN (fun k => if m ≤ k then p (k - m) else 0) (m + j) = 65536 ^ m * pvN p j := by
  have z : ∀ i, i ≤ m → pvN (fun k => if m ≤ k then p (k - m) else 0) i = 0 := by
    intro i
    induction i with
    | zero => intro _; rfl
    | succ i ih => intro h; simp only [pvN]; rw [ih (by omega), if_neg (by omega)]; omega
  intro j
  induction j with
  | zero => rw [z _ (by omega)]; simp [pvN]
  | succ j ih =>
    rw [← Nat.add_assoc]
    simp only [pvN]
    rw [ih, if_pos (by omega), show m + j - m = j by omega, Nat.mul_add, Nat.pow_add]
    congr 1
    rw [Nat.mul_left_comm]
theorem pv_split (t : Nat → Nat) (m : Nat) : ∀ d, pvN t (m + d) = pvN t m + 65536 ^ m * pvN (fun j => t (m + j)) d := by
  intro d
  induction d with
  | zero => simp [pvN]
  | succ d ih =>
    rw [← Nat.add_assoc]
    simp only [pvN]
    rw [ih, Nat.mul_add, Nat.pow_add, Nat.add_assoc]
    congr 2
    rw [Nat.mul_comm, Nat.mul_assoc, Nat.mul_comm (65536 ^ d)]
theorem cn_mul (p r : Nat → Nat) : ∀ m, m ≤ 3 → pvN (fun k => cn p r k m) 9 % 65536 ^ 9 = pvN p 9 * pvN r m % 65536 ^ 9 := by
  intro m
  induction m with
  | zero => intro _; simp only [cn, pvN, Nat.mul_zero]
  | succ m ih =>
    intro h
    simp only [cn]
    rw [pv_add]
    have e : ∀ k, cnT p r k m = r m * (if m ≤ k then p (k - m) else 0) := fun k => by
      unfold cnT
      split
      · rw [Nat.mul_comm]
      · rw [Nat.mul_zero]
    rw [pv_congr 9 (fun k _ => e k), pv_mul]
    have e2 := pv_sh p m (9 - m)
    rw [show m + (9 - m) = 9 by omega] at e2
    rw [e2]
    have e3 := pv_split p (9 - m) m
    rw [show 9 - m + m = 9 by omega] at e3
    show _ = pvN p 9 * (pvN r m + r m * 65536 ^ m) % 65536 ^ 9
    rw [Nat.mul_add, Nat.add_mod, ih (by omega), Nat.add_mod (pvN p 9 * pvN r m)]
    congr 2
    have e4 : pvN p 9 * (r m * 65536 ^ m) = r m * (65536 ^ m * pvN p (9 - m)) + 65536 ^ 9 * (r m * pvN (fun j => p (9 - m + j)) m) := by
      rw [e3, show (65536 : Nat) ^ 9 = 65536 ^ (9 - m) * 65536 ^ m by rw [← Nat.pow_add, show 9 - m + m = 9 by omega], Nat.add_mul]
      generalize (65536 : Nat) ^ m = y
      generalize (65536 : Nat) ^ (9 - m) = x
      generalize pvN p (9 - m) = u
      generalize pvN (fun j => p (9 - m + j)) m = v
      generalize r m = z
      rw [Nat.mul_comm u, Nat.mul_assoc z, Nat.mul_comm y u]
      congr 1
      rw [Nat.mul_assoc x v, Nat.mul_assoc x y]
      congr 1
      rw [Nat.mul_left_comm v, Nat.mul_left_comm y, Nat.mul_comm v y]
    rw [e4, Nat.add_mul_mod_self_left]
theorem pv_lt {t : Nat → Nat} : ∀ n, (∀ j, j < n → t j < 2 ^ 16) → pvN t n < 65536 ^ n := by
  intro n
  induction n with
  | zero => intro _; simp [pvN]
  | succ n ih =>
    intro h
    have a := ih (fun j hj => h j (by omega))
    have b := h n (by omega)
    simp only [pvN, Nat.pow_succ]
    have c : t n * 65536 ^ n ≤ 65535 * 65536 ^ n := Nat.mul_le_mul_right _ (by omega)
    omega
theorem pv_lex {a b : Nat → Nat} {k n : Nat} (hk : k < n) (hb : ∀ j, j < n → b j < 2 ^ 16) (he : ∀ j, k < j → j < n → a j = b j) (h : b k < a k) : pvN b n < pvN a n := by
  obtain ⟨d, rfl⟩ : ∃ d, n = k + 1 + d := ⟨n - k - 1, by omega⟩
  rw [pv_split a, pv_split b, pv_congr d (c := fun j => a (k + 1 + j)) (d := fun j => b (k + 1 + j)) (fun j hj => he _ (by omega) (by omega))]
  have q := pv_lt k (t := b) (fun j hj => hb j (by omega))
  simp only [pvN]
  have c : (b k + 1) * 65536 ^ k ≤ a k * 65536 ^ k := Nat.mul_le_mul_right _ h
  rw [Nat.add_mul, Nat.one_mul] at c
  omega
theorem pc_s {t t' : Nat → Nat} {k cy x D : Nat} (h : pvN t k + cy * 65536 ^ k = D) (ht : t' = va_up t k ((cy + x) % 2 ^ 16)) : pvN t' (k + 1) + (cy + x) / 2 ^ 16 * 65536 ^ (k + 1) = D + x * 65536 ^ k := by
  subst ht
  simp only [pvN]
  rw [pv_congr k (d := t) (fun j hj => by unfold va_up; rw [if_neg (by omega)]), va_up_at, show (65536 : Nat) ^ (k + 1) = 65536 ^ k * 65536 from Nat.pow_succ _ _, ← h]
  have e : (cy + x) % 2 ^ 16 + (cy + x) / 2 ^ 16 * 65536 = cy + x := by omega
  have e2 : (cy + x) % 2 ^ 16 * 65536 ^ k + (cy + x) / 2 ^ 16 * (65536 ^ k * 65536) = cy * 65536 ^ k + x * 65536 ^ k := by
    rw [← Nat.add_mul, ← e, Nat.add_mul, e, Nat.mul_assoc _ 65536, Nat.mul_comm 65536]
  omega
theorem ra_v {v : Nat} {r : Nat → Nat} (hv : v < 2 ^ 36) (h : ∀ j, j < 3 → r j = v / 2 ^ (16 * j) % 2 ^ 16) : pvN r 3 = v ∧ ∀ j, j < 3 → r j < 2 ^ 16 := by
  refine ⟨?_, fun j hj => by rw [h j hj]; exact Nat.mod_lt _ (by decide)⟩
  simp only [pvN]
  rw [h 0 (by decide), h 1 (by decide), h 2 (by decide)]
  omega
def duF (p e : Nat) : Nat → Nat := fun j => if j = e then p else 0
theorem du_v (p : Nat) {e : Nat} (he : e < 9) : pvN (duF p e) 9 = p * 65536 ^ e := by
  obtain ⟨d, hd⟩ : ∃ d, 9 = e + 1 + d := ⟨8 - e, by omega⟩
  rw [hd, pv_split]
  have z1 : ∀ k, k ≤ e → pvN (duF p e) k = 0 := by
    intro k
    induction k with
    | zero => intro _; rfl
    | succ k ih => intro h; simp only [pvN]; rw [ih (by omega)]; unfold duF; rw [if_neg (by omega)]; omega
  rw [pv_congr d (c := fun j => duF p e (e + 1 + j)) (d := fun _ => 0) (fun j hj => by unfold duF; rw [if_neg (by omega)]), pv_0]
  simp only [pvN]
  rw [z1 e (Nat.le_refl _)]
  unfold duF
  rw [if_pos rfl]
  omega
def rtF (p d : Nat) : Nat → Nat
  | 0 => 0
  | i + 1 => if p * 65536 ^ (2 * d) < (rtF p d i + 1 * 2 ^ (36 - i - 1)) ^ d then rtF p d i else rtF p d i + 1 * 2 ^ (36 - i - 1)
theorem rt_le (p d : Nat) : ∀ i, i ≤ 36 → rtF p d i + 2 ^ (36 - i) ≤ 2 ^ 36 := by
  intro i
  induction i with
  | zero => intro _; simp [rtF]
  | succ i ih =>
    intro h
    have a := ih (by omega)
    have e : 36 - i - 1 = 36 - (i + 1) := by omega
    have b : 2 ^ (36 - (i + 1)) * 2 = 2 ^ (36 - i) := by rw [← e]; exact Nat.two_pow_pred_mul_two (by omega)
    simp only [rtF]
    rw [e]
    split <;> omega
def pdF (x : Nat) : Nat → Nat
  | 0 => 1
  | j + 1 => if pdF x j = 0 then 0 else if x % (2 + j) = 0 then 0 else 1
def prL : List Nat := [1, 2, 3, 5, 7, 11, 13, 17, 19, 23, 29, 31, 37, 41, 43, 47, 53, 59, 61, 67, 71, 73, 79, 83, 89, 97, 101, 103, 107, 109, 113, 127, 131, 137, 139, 149, 151, 157, 163, 167, 173, 179, 181, 191, 193, 197, 199, 211, 223, 227, 229, 233, 239, 241, 251, 257, 263, 269, 271, 277, 281, 283, 293, 307, 311]
def prm (k : Nat) : Nat := prL.getD k 0
theorem pr_1 : ∀ k, k < 64 → 1 ≤ prm k ∧ prm k < prm (k + 1) ∧ prm (k + 1) < 1000 ∧ pdF (prm (k + 1)) (prm (k + 1) - 2) = 1 := by decide +kernel
theorem pr_2 : ∀ k, k < 64 → ∀ x, x < 311 → prm k < x → x < prm (k + 1) → pdF x (x - 2) = 0 := by decide +kernel
theorem pr_3 : ∀ k, k < 64 → prm (k + 1) ≤ 311 := by decide +kernel
theorem rt_2 : ∀ k, k < 8 → rtF (prm (k + 1)) 2 36 % 2 ^ 32 = (shI k).toNat := by decide +kernel
theorem rt_3 : ∀ k, k < 64 → rtF (prm (k + 1)) 3 36 % 2 ^ 32 = (shK k).toNat := by decide +kernel
theorem dX8_times_0 : decode cX8_times 0 = .ok (.bipush 8, 2) := by decide +kernel
theorem dX8_times_2 : decode cX8_times 2 = .ok (.istore_n 1, 1) := by decide +kernel
theorem dX8_times_3 : decode cX8_times 3 = .ok (.iload_n 1, 1) := by decide +kernel
theorem dX8_times_4 : decode cX8_times 4 = .ok (.ifCond .lt 61, 3) := by decide +kernel
theorem dX8_times_7 : decode cX8_times 7 = .ok (.lconst 0, 1) := by decide +kernel
theorem dX8_times_8 : decode cX8_times 8 = .ok (.lstore_n 2, 1) := by decide +kernel
theorem dX8_times_9 : decode cX8_times 9 = .ok (.iconst 0, 1) := by decide +kernel
theorem dX8_times_10 : decode cX8_times 10 = .ok (.istore 4, 2) := by decide +kernel
theorem dX8_times_12 : decode cX8_times 12 = .ok (.iload 4, 2) := by decide +kernel
theorem dX8_times_14 : decode cX8_times 14 = .ok (.iconst 3, 1) := by decide +kernel
theorem dX8_times_15 : decode cX8_times 15 = .ok (.if_icmp .ge 37, 3) := by decide +kernel
theorem dX8_times_18 : decode cX8_times 18 = .ok (.iload 4, 2) := by decide +kernel
theorem dX8_times_20 : decode cX8_times 20 = .ok (.iload_n 1, 1) := by decide +kernel
theorem dX8_times_21 : decode cX8_times 21 = .ok (.if_icmp .gt 31, 3) := by decide +kernel
theorem dX8_times_24 : decode cX8_times 24 = .ok (.lload_n 2, 1) := by decide +kernel
theorem dX8_times_25 : decode cX8_times 25 = .ok (.aload_n 0, 1) := by decide +kernel
theorem dX8_times_26 : decode cX8_times 26 = .ok (.getfield 47, 3) := by decide +kernel
theorem dX8_times_29 : decode cX8_times 29 = .ok (.iload_n 1, 1) := by decide +kernel
theorem dX8_times_30 : decode cX8_times 30 = .ok (.iload 4, 2) := by decide +kernel
theorem dX8_times_32 : decode cX8_times 32 = .ok (.isub, 1) := by decide +kernel
theorem dX8_times_33 : decode cX8_times 33 = .ok (.iaload, 1) := by decide +kernel
theorem dX8_times_34 : decode cX8_times 34 = .ok (.i2l, 1) := by decide +kernel
theorem dX8_times_35 : decode cX8_times 35 = .ok (.aload_n 0, 1) := by decide +kernel
theorem dX8_times_36 : decode cX8_times 36 = .ok (.getfield 44, 3) := by decide +kernel
theorem dX8_times_39 : decode cX8_times 39 = .ok (.iload 4, 2) := by decide +kernel
theorem dX8_times_41 : decode cX8_times 41 = .ok (.iaload, 1) := by decide +kernel
theorem dX8_times_42 : decode cX8_times 42 = .ok (.i2l, 1) := by decide +kernel
theorem dX8_times_43 : decode cX8_times 43 = .ok (.lmul, 1) := by decide +kernel
theorem dX8_times_44 : decode cX8_times 44 = .ok (.ladd, 1) := by decide +kernel
theorem dX8_times_45 : decode cX8_times 45 = .ok (.lstore_n 2, 1) := by decide +kernel
theorem dX8_times_46 : decode cX8_times 46 = .ok (.iinc 4 1, 3) := by decide +kernel
theorem dX8_times_49 : decode cX8_times 49 = .ok (.goto (-37), 3) := by decide +kernel
theorem dX8_times_52 : decode cX8_times 52 = .ok (.aload_n 0, 1) := by decide +kernel
theorem dX8_times_53 : decode cX8_times 53 = .ok (.getfield 53, 3) := by decide +kernel
theorem dX8_times_56 : decode cX8_times 56 = .ok (.iload_n 1, 1) := by decide +kernel
theorem dX8_times_57 : decode cX8_times 57 = .ok (.lload_n 2, 1) := by decide +kernel
theorem dX8_times_58 : decode cX8_times 58 = .ok (.lastore, 1) := by decide +kernel
theorem dX8_times_59 : decode cX8_times 59 = .ok (.iinc 1 (-1), 3) := by decide +kernel
theorem dX8_times_62 : decode cX8_times 62 = .ok (.goto (-59), 3) := by decide +kernel
theorem dX8_times_65 : decode cX8_times 65 = .ok (.lconst 0, 1) := by decide +kernel
theorem dX8_times_66 : decode cX8_times 66 = .ok (.lstore_n 1, 1) := by decide +kernel
theorem dX8_times_67 : decode cX8_times 67 = .ok (.iconst 0, 1) := by decide +kernel
theorem dX8_times_68 : decode cX8_times 68 = .ok (.istore_n 3, 1) := by decide +kernel
theorem dX8_times_69 : decode cX8_times 69 = .ok (.iload_n 3, 1) := by decide +kernel
theorem dX8_times_70 : decode cX8_times 70 = .ok (.bipush 9, 2) := by decide +kernel
theorem dX8_times_72 : decode cX8_times 72 = .ok (.if_icmp .ge 35, 3) := by decide +kernel
theorem dX8_times_75 : decode cX8_times 75 = .ok (.lload_n 1, 1) := by decide +kernel
theorem dX8_times_76 : decode cX8_times 76 = .ok (.aload_n 0, 1) := by decide +kernel
theorem dX8_times_77 : decode cX8_times 77 = .ok (.getfield 53, 3) := by decide +kernel
theorem dX8_times_80 : decode cX8_times 80 = .ok (.iload_n 3, 1) := by decide +kernel
theorem dX8_times_81 : decode cX8_times 81 = .ok (.laload, 1) := by decide +kernel
theorem dX8_times_82 : decode cX8_times 82 = .ok (.ladd, 1) := by decide +kernel
theorem dX8_times_83 : decode cX8_times 83 = .ok (.lstore_n 1, 1) := by decide +kernel
theorem dX8_times_84 : decode cX8_times 84 = .ok (.aload_n 0, 1) := by decide +kernel
theorem dX8_times_85 : decode cX8_times 85 = .ok (.getfield 47, 3) := by decide +kernel
theorem dX8_times_88 : decode cX8_times 88 = .ok (.iload_n 3, 1) := by decide +kernel
theorem dX8_times_89 : decode cX8_times 89 = .ok (.lload_n 1, 1) := by decide +kernel
theorem dX8_times_90 : decode cX8_times 90 = .ok (.ldc2_w 125, 3) := by decide +kernel
theorem dX8_times_93 : decode cX8_times 93 = .ok (.land, 1) := by decide +kernel
theorem dX8_times_94 : decode cX8_times 94 = .ok (.l2i, 1) := by decide +kernel
theorem dX8_times_95 : decode cX8_times 95 = .ok (.iastore, 1) := by decide +kernel
theorem dX8_times_96 : decode cX8_times 96 = .ok (.lload_n 1, 1) := by decide +kernel
theorem dX8_times_97 : decode cX8_times 97 = .ok (.bipush 16, 2) := by decide +kernel
theorem dX8_times_99 : decode cX8_times 99 = .ok (.lshr, 1) := by decide +kernel
theorem dX8_times_100 : decode cX8_times 100 = .ok (.lstore_n 1, 1) := by decide +kernel
theorem dX8_times_101 : decode cX8_times 101 = .ok (.iinc 3 1, 3) := by decide +kernel
theorem dX8_times_104 : decode cX8_times 104 = .ok (.goto (-35), 3) := by decide +kernel
theorem dX8_times_107 : decode cX8_times 107 = .ok (.return_, 1) := by decide +kernel
theorem dX8_isAbove_0 : decode cX8_isAbove 0 = .ok (.iconst 0, 1) := by decide +kernel
theorem dX8_isAbove_1 : decode cX8_isAbove 1 = .ok (.istore 5, 2) := by decide +kernel
theorem dX8_isAbove_3 : decode cX8_isAbove 3 = .ok (.iload 5, 2) := by decide +kernel
theorem dX8_isAbove_5 : decode cX8_isAbove 5 = .ok (.bipush 9, 2) := by decide +kernel
theorem dX8_isAbove_7 : decode cX8_isAbove 7 = .ok (.if_icmp .ge 17, 3) := by decide +kernel
theorem dX8_isAbove_10 : decode cX8_isAbove 10 = .ok (.aload_n 0, 1) := by decide +kernel
theorem dX8_isAbove_11 : decode cX8_isAbove 11 = .ok (.getfield 47, 3) := by decide +kernel
theorem dX8_isAbove_14 : decode cX8_isAbove 14 = .ok (.iload 5, 2) := by decide +kernel
theorem dX8_isAbove_16 : decode cX8_isAbove 16 = .ok (.iconst 0, 1) := by decide +kernel
theorem dX8_isAbove_17 : decode cX8_isAbove 17 = .ok (.iastore, 1) := by decide +kernel
theorem dX8_isAbove_18 : decode cX8_isAbove 18 = .ok (.iinc 5 1, 3) := by decide +kernel
theorem dX8_isAbove_21 : decode cX8_isAbove 21 = .ok (.goto (-18), 3) := by decide +kernel
theorem dX8_isAbove_24 : decode cX8_isAbove 24 = .ok (.aload_n 0, 1) := by decide +kernel
theorem dX8_isAbove_25 : decode cX8_isAbove 25 = .ok (.getfield 47, 3) := by decide +kernel
theorem dX8_isAbove_28 : decode cX8_isAbove 28 = .ok (.iconst 0, 1) := by decide +kernel
theorem dX8_isAbove_29 : decode cX8_isAbove 29 = .ok (.iconst 1, 1) := by decide +kernel
theorem dX8_isAbove_30 : decode cX8_isAbove 30 = .ok (.iastore, 1) := by decide +kernel
theorem dX8_isAbove_31 : decode cX8_isAbove 31 = .ok (.iconst 0, 1) := by decide +kernel
theorem dX8_isAbove_32 : decode cX8_isAbove 32 = .ok (.istore 5, 2) := by decide +kernel
theorem dX8_isAbove_34 : decode cX8_isAbove 34 = .ok (.iload 5, 2) := by decide +kernel
theorem dX8_isAbove_36 : decode cX8_isAbove 36 = .ok (.iconst 3, 1) := by decide +kernel
theorem dX8_isAbove_37 : decode cX8_isAbove 37 = .ok (.if_icmp .ge 28, 3) := by decide +kernel
theorem dX8_isAbove_40 : decode cX8_isAbove 40 = .ok (.aload_n 0, 1) := by decide +kernel
theorem dX8_isAbove_41 : decode cX8_isAbove 41 = .ok (.getfield 44, 3) := by decide +kernel
theorem dX8_isAbove_44 : decode cX8_isAbove 44 = .ok (.iload 5, 2) := by decide +kernel
theorem dX8_isAbove_46 : decode cX8_isAbove 46 = .ok (.lload_n 1, 1) := by decide +kernel
theorem dX8_isAbove_47 : decode cX8_isAbove 47 = .ok (.bipush 16, 2) := by decide +kernel
theorem dX8_isAbove_49 : decode cX8_isAbove 49 = .ok (.iload 5, 2) := by decide +kernel
theorem dX8_isAbove_51 : decode cX8_isAbove 51 = .ok (.imul, 1) := by decide +kernel
theorem dX8_isAbove_52 : decode cX8_isAbove 52 = .ok (.lshr, 1) := by decide +kernel
theorem dX8_isAbove_53 : decode cX8_isAbove 53 = .ok (.ldc2_w 125, 3) := by decide +kernel
theorem dX8_isAbove_56 : decode cX8_isAbove 56 = .ok (.land, 1) := by decide +kernel
theorem dX8_isAbove_57 : decode cX8_isAbove 57 = .ok (.l2i, 1) := by decide +kernel
theorem dX8_isAbove_58 : decode cX8_isAbove 58 = .ok (.iastore, 1) := by decide +kernel
theorem dX8_isAbove_59 : decode cX8_isAbove 59 = .ok (.iinc 5 1, 3) := by decide +kernel
theorem dX8_isAbove_62 : decode cX8_isAbove 62 = .ok (.goto (-28), 3) := by decide +kernel
theorem dX8_isAbove_65 : decode cX8_isAbove 65 = .ok (.iconst 0, 1) := by decide +kernel
theorem dX8_isAbove_66 : decode cX8_isAbove 66 = .ok (.istore 5, 2) := by decide +kernel
theorem dX8_isAbove_68 : decode cX8_isAbove 68 = .ok (.iload 5, 2) := by decide +kernel
theorem dX8_isAbove_70 : decode cX8_isAbove 70 = .ok (.iload 4, 2) := by decide +kernel
theorem dX8_isAbove_72 : decode cX8_isAbove 72 = .ok (.if_icmp .ge 13, 3) := by decide +kernel
theorem dX8_isAbove_75 : decode cX8_isAbove 75 = .ok (.aload_n 0, 1) := by decide +kernel
theorem dX8_isAbove_76 : decode cX8_isAbove 76 = .ok (.invokevirtual 127, 3) := by decide +kernel
theorem dX8_isAbove_79 : decode cX8_isAbove 79 = .ok (.iinc 5 1, 3) := by decide +kernel
theorem dX8_isAbove_82 : decode cX8_isAbove 82 = .ok (.goto (-14), 3) := by decide +kernel
theorem dX8_isAbove_85 : decode cX8_isAbove 85 = .ok (.bipush 8, 2) := by decide +kernel
theorem dX8_isAbove_87 : decode cX8_isAbove 87 = .ok (.istore 5, 2) := by decide +kernel
theorem dX8_isAbove_89 : decode cX8_isAbove 89 = .ok (.iload 5, 2) := by decide +kernel
theorem dX8_isAbove_91 : decode cX8_isAbove 91 = .ok (.ifCond .lt 55, 3) := by decide +kernel
theorem dX8_isAbove_94 : decode cX8_isAbove 94 = .ok (.iload 5, 2) := by decide +kernel
theorem dX8_isAbove_96 : decode cX8_isAbove 96 = .ok (.iconst 2, 1) := by decide +kernel
theorem dX8_isAbove_97 : decode cX8_isAbove 97 = .ok (.iload 4, 2) := by decide +kernel
theorem dX8_isAbove_99 : decode cX8_isAbove 99 = .ok (.imul, 1) := by decide +kernel
theorem dX8_isAbove_100 : decode cX8_isAbove 100 = .ok (.if_icmp .ne 7, 3) := by decide +kernel
theorem dX8_isAbove_103 : decode cX8_isAbove 103 = .ok (.iload_n 3, 1) := by decide +kernel
theorem dX8_isAbove_104 : decode cX8_isAbove 104 = .ok (.goto 4, 3) := by decide +kernel
theorem dX8_isAbove_107 : decode cX8_isAbove 107 = .ok (.iconst 0, 1) := by decide +kernel
theorem dX8_isAbove_108 : decode cX8_isAbove 108 = .ok (.istore 6, 2) := by decide +kernel
theorem dX8_isAbove_110 : decode cX8_isAbove 110 = .ok (.aload_n 0, 1) := by decide +kernel
theorem dX8_isAbove_111 : decode cX8_isAbove 111 = .ok (.getfield 47, 3) := by decide +kernel
theorem dX8_isAbove_114 : decode cX8_isAbove 114 = .ok (.iload 5, 2) := by decide +kernel
theorem dX8_isAbove_116 : decode cX8_isAbove 116 = .ok (.iaload, 1) := by decide +kernel
theorem dX8_isAbove_117 : decode cX8_isAbove 117 = .ok (.iload 6, 2) := by decide +kernel
theorem dX8_isAbove_119 : decode cX8_isAbove 119 = .ok (.if_icmp .eq 21, 3) := by decide +kernel
theorem dX8_isAbove_122 : decode cX8_isAbove 122 = .ok (.aload_n 0, 1) := by decide +kernel
theorem dX8_isAbove_123 : decode cX8_isAbove 123 = .ok (.getfield 47, 3) := by decide +kernel
theorem dX8_isAbove_126 : decode cX8_isAbove 126 = .ok (.iload 5, 2) := by decide +kernel
theorem dX8_isAbove_128 : decode cX8_isAbove 128 = .ok (.iaload, 1) := by decide +kernel
theorem dX8_isAbove_129 : decode cX8_isAbove 129 = .ok (.iload 6, 2) := by decide +kernel
theorem dX8_isAbove_131 : decode cX8_isAbove 131 = .ok (.if_icmp .le 7, 3) := by decide +kernel
theorem dX8_isAbove_134 : decode cX8_isAbove 134 = .ok (.iconst 1, 1) := by decide +kernel
theorem dX8_isAbove_135 : decode cX8_isAbove 135 = .ok (.goto 4, 3) := by decide +kernel
theorem dX8_isAbove_138 : decode cX8_isAbove 138 = .ok (.iconst 0, 1) := by decide +kernel
theorem dX8_isAbove_139 : decode cX8_isAbove 139 = .ok (.ireturn, 1) := by decide +kernel
theorem dX8_isAbove_140 : decode cX8_isAbove 140 = .ok (.iinc 5 (-1), 3) := by decide +kernel
theorem dX8_isAbove_143 : decode cX8_isAbove 143 = .ok (.goto (-54), 3) := by decide +kernel
theorem dX8_isAbove_146 : decode cX8_isAbove 146 = .ok (.iconst 0, 1) := by decide +kernel
theorem dX8_isAbove_147 : decode cX8_isAbove 147 = .ok (.ireturn, 1) := by decide +kernel
theorem dX8_rootOf_0 : decode cX8_rootOf 0 = .ok (.lconst 0, 1) := by decide +kernel
theorem dX8_rootOf_1 : decode cX8_rootOf 1 = .ok (.lstore_n 3, 1) := by decide +kernel
theorem dX8_rootOf_2 : decode cX8_rootOf 2 = .ok (.bipush 35, 2) := by decide +kernel
theorem dX8_rootOf_4 : decode cX8_rootOf 4 = .ok (.istore 5, 2) := by decide +kernel
theorem dX8_rootOf_6 : decode cX8_rootOf 6 = .ok (.iload 5, 2) := by decide +kernel
theorem dX8_rootOf_8 : decode cX8_rootOf 8 = .ok (.ifCond .lt 33, 3) := by decide +kernel
theorem dX8_rootOf_11 : decode cX8_rootOf 11 = .ok (.lload_n 3, 1) := by decide +kernel
theorem dX8_rootOf_12 : decode cX8_rootOf 12 = .ok (.lconst 1, 1) := by decide +kernel
theorem dX8_rootOf_13 : decode cX8_rootOf 13 = .ok (.iload 5, 2) := by decide +kernel
theorem dX8_rootOf_15 : decode cX8_rootOf 15 = .ok (.lshl, 1) := by decide +kernel
theorem dX8_rootOf_16 : decode cX8_rootOf 16 = .ok (.ladd, 1) := by decide +kernel
theorem dX8_rootOf_17 : decode cX8_rootOf 17 = .ok (.lstore_n 3, 1) := by decide +kernel
theorem dX8_rootOf_18 : decode cX8_rootOf 18 = .ok (.aload_n 0, 1) := by decide +kernel
theorem dX8_rootOf_19 : decode cX8_rootOf 19 = .ok (.lload_n 3, 1) := by decide +kernel
theorem dX8_rootOf_20 : decode cX8_rootOf 20 = .ok (.iload_n 1, 1) := by decide +kernel
theorem dX8_rootOf_21 : decode cX8_rootOf 21 = .ok (.iload_n 2, 1) := by decide +kernel
theorem dX8_rootOf_22 : decode cX8_rootOf 22 = .ok (.invokevirtual 119, 3) := by decide +kernel
theorem dX8_rootOf_25 : decode cX8_rootOf 25 = .ok (.ifCond .eq 10, 3) := by decide +kernel
theorem dX8_rootOf_28 : decode cX8_rootOf 28 = .ok (.lload_n 3, 1) := by decide +kernel
theorem dX8_rootOf_29 : decode cX8_rootOf 29 = .ok (.lconst 1, 1) := by decide +kernel
theorem dX8_rootOf_30 : decode cX8_rootOf 30 = .ok (.iload 5, 2) := by decide +kernel
theorem dX8_rootOf_32 : decode cX8_rootOf 32 = .ok (.lshl, 1) := by decide +kernel
theorem dX8_rootOf_33 : decode cX8_rootOf 33 = .ok (.lsub, 1) := by decide +kernel
theorem dX8_rootOf_34 : decode cX8_rootOf 34 = .ok (.lstore_n 3, 1) := by decide +kernel
theorem dX8_rootOf_35 : decode cX8_rootOf 35 = .ok (.iinc 5 (-1), 3) := by decide +kernel
theorem dX8_rootOf_38 : decode cX8_rootOf 38 = .ok (.goto (-32), 3) := by decide +kernel
theorem dX8_rootOf_41 : decode cX8_rootOf 41 = .ok (.lload_n 3, 1) := by decide +kernel
theorem dX8_rootOf_42 : decode cX8_rootOf 42 = .ok (.ldc2_w 123, 3) := by decide +kernel
theorem dX8_rootOf_45 : decode cX8_rootOf 45 = .ok (.land, 1) := by decide +kernel
theorem dX8_rootOf_46 : decode cX8_rootOf 46 = .ok (.lreturn, 1) := by decide +kernel
theorem dX8_nextPrime_0 : decode cX8_nextPrime 0 = .ok (.iload_n 0, 1) := by decide +kernel
theorem dX8_nextPrime_1 : decode cX8_nextPrime 1 = .ok (.istore_n 1, 1) := by decide +kernel
theorem dX8_nextPrime_2 : decode cX8_nextPrime 2 = .ok (.iconst 0, 1) := by decide +kernel
theorem dX8_nextPrime_3 : decode cX8_nextPrime 3 = .ok (.istore_n 2, 1) := by decide +kernel
theorem dX8_nextPrime_4 : decode cX8_nextPrime 4 = .ok (.iload_n 2, 1) := by decide +kernel
theorem dX8_nextPrime_5 : decode cX8_nextPrime 5 = .ok (.ifCond .ne 40, 3) := by decide +kernel
theorem dX8_nextPrime_8 : decode cX8_nextPrime 8 = .ok (.iinc 1 1, 3) := by decide +kernel
theorem dX8_nextPrime_11 : decode cX8_nextPrime 11 = .ok (.iconst 1, 1) := by decide +kernel
theorem dX8_nextPrime_12 : decode cX8_nextPrime 12 = .ok (.istore_n 2, 1) := by decide +kernel
theorem dX8_nextPrime_13 : decode cX8_nextPrime 13 = .ok (.iconst 2, 1) := by decide +kernel
theorem dX8_nextPrime_14 : decode cX8_nextPrime 14 = .ok (.istore_n 3, 1) := by decide +kernel
theorem dX8_nextPrime_15 : decode cX8_nextPrime 15 = .ok (.iload_n 3, 1) := by decide +kernel
theorem dX8_nextPrime_16 : decode cX8_nextPrime 16 = .ok (.iload_n 1, 1) := by decide +kernel
theorem dX8_nextPrime_17 : decode cX8_nextPrime 17 = .ok (.if_icmp .ge 25, 3) := by decide +kernel
theorem dX8_nextPrime_20 : decode cX8_nextPrime 20 = .ok (.iload_n 2, 1) := by decide +kernel
theorem dX8_nextPrime_21 : decode cX8_nextPrime 21 = .ok (.ifCond .eq 13, 3) := by decide +kernel
theorem dX8_nextPrime_24 : decode cX8_nextPrime 24 = .ok (.iload_n 1, 1) := by decide +kernel
theorem dX8_nextPrime_25 : decode cX8_nextPrime 25 = .ok (.iload_n 3, 1) := by decide +kernel
theorem dX8_nextPrime_26 : decode cX8_nextPrime 26 = .ok (.irem, 1) := by decide +kernel
theorem dX8_nextPrime_27 : decode cX8_nextPrime 27 = .ok (.ifCond .eq 7, 3) := by decide +kernel
theorem dX8_nextPrime_30 : decode cX8_nextPrime 30 = .ok (.iconst 1, 1) := by decide +kernel
theorem dX8_nextPrime_31 : decode cX8_nextPrime 31 = .ok (.goto 4, 3) := by decide +kernel
theorem dX8_nextPrime_34 : decode cX8_nextPrime 34 = .ok (.iconst 0, 1) := by decide +kernel
theorem dX8_nextPrime_35 : decode cX8_nextPrime 35 = .ok (.istore_n 2, 1) := by decide +kernel
theorem dX8_nextPrime_36 : decode cX8_nextPrime 36 = .ok (.iinc 3 1, 3) := by decide +kernel
theorem dX8_nextPrime_39 : decode cX8_nextPrime 39 = .ok (.goto (-24), 3) := by decide +kernel
theorem dX8_nextPrime_42 : decode cX8_nextPrime 42 = .ok (.goto (-38), 3) := by decide +kernel
theorem dX8_nextPrime_45 : decode cX8_nextPrime 45 = .ok (.iload_n 1, 1) := by decide +kernel
theorem dX8_nextPrime_46 : decode cX8_nextPrime 46 = .ok (.ireturn, 1) := by decide +kernel
theorem up_ltN {t t' : Nat → Nat} {m v B : Nat} (h : ∀ j, j < m → t j < B) (hv : v < B) (ht : t' = va_up t m v) : ∀ j, j < m + 1 → t' j < B := by
  intro j hj
  rw [ht]
  unfold va_up
  by_cases e : j = m
  · rw [if_pos e]; exact hv
  · rw [if_neg e]; exact h j (by omega)
set_option maxHeartbeats 4000000 in
set_option maxRecDepth 100000 in
theorem c_R_times (l : Launch) (D : va_G) (a0 : Nat) (v_a0_thrown : Nat) (a0_tape : Nat) (v_a0_taped : Nat) (a0_out : Nat) (v_a0_outs : Nat) (a0_slots : Nat) (a0_kept : Nat) (a0_phase : Nat) (a0_secret : Nat) (a0_key : Nat) (a0_hide : Nat) (a0_iv : Nat) (a0_begin : Nat) (a0_each : Nat) (a0_root : Nat) (a0_power : Nat) (a0_work : Nat) (a0_w : Nat) (a0_h : Nat) (a0_state : Nat) (a0_sum : Nat) (a0_pad : Nat) (a0_text : Nat) (v_a0_texts : Nat) (a0_info : Nat) (v_a0_infos : Nat) (a0_made : Nat) (a0_blockKey : Nat) (a0_nonce : Nat) (a0_x : Nat) (a0_first : Nat) (a0_block : Nat) (a0_a : Nat) (a0_r : Nat) (a0_product : Nat) (a0_tag : Nat) (a0_sealed : Nat) (t_a0_root : Nat → Nat) (t_a0_power : Nat → Nat) (t_a0_w : Nat → Nat)  (hp : ∀ j, j < 9 → t_a0_power j < 2 ^ 16) (hr : ∀ j, j < 3 → t_a0_root j < 2 ^ 16) : vM l D yX8_times cX8_times 5 none { frames := 0, cells := 0, slots := 0, locals := 0 } [.ref a0] [(a0, .inr (8, [.int (nI v_a0_thrown), .ref a0_tape, .int (nI v_a0_taped), .ref a0_out, .int (nI v_a0_outs), .ref a0_slots, .ref a0_kept, .ref a0_phase, .ref a0_secret, .ref a0_key, .ref a0_hide, .ref a0_iv, .ref a0_begin, .ref a0_each, .ref a0_root, .ref a0_power, .ref a0_work, .ref a0_w, .ref a0_h, .ref a0_state, .ref a0_sum, .ref a0_pad, .ref a0_text, .int (nI v_a0_texts), .ref a0_info, .int (nI v_a0_infos), .ref a0_made, .ref a0_blockKey, .ref a0_nonce, .ref a0_x, .ref a0_first, .ref a0_block, .ref a0_a, .ref a0_r, .ref a0_product, .ref a0_tag, .ref a0_sealed])), (a0_root, aN D 3 t_a0_root), (a0_power, aN D 9 t_a0_power), (a0_w, aL D 64 t_a0_w)] (fun r wo => ∃ (tp : Nat → Nat) (tw : Nat → Nat), r = none ∧ wo = [(a0, .inr (8, [.int (nI v_a0_thrown), .ref a0_tape, .int (nI v_a0_taped), .ref a0_out, .int (nI v_a0_outs), .ref a0_slots, .ref a0_kept, .ref a0_phase, .ref a0_secret, .ref a0_key, .ref a0_hide, .ref a0_iv, .ref a0_begin, .ref a0_each, .ref a0_root, .ref a0_power, .ref a0_work, .ref a0_w, .ref a0_h, .ref a0_state, .ref a0_sum, .ref a0_pad, .ref a0_text, .int (nI v_a0_texts), .ref a0_info, .int (nI v_a0_infos), .ref a0_made, .ref a0_blockKey, .ref a0_nonce, .ref a0_x, .ref a0_first, .ref a0_block, .ref a0_a, .ref a0_r, .ref a0_product, .ref a0_tag, .ref a0_sealed])), (a0_root, aN D 3 t_a0_root), (a0_power, aN D 9 tp), (a0_w, aL D 64 tw)] ∧ (∀ j, j < 9 → tp j < 2 ^ 16) ∧ (pvN tp 9 = pvN t_a0_power 9 * pvN t_a0_root 3 % 65536 ^ 9)) := by
  refine vM.of (by decide) (Nat.le_of_ble_eq_true rfl) (fun C hCl hCD g R => ?_)
  subst hCl; subst hCD
  show VJ C 0 0 0 [(0, .ref a0)] [] [(a0, .inr (8, [.int (nI v_a0_thrown), .ref a0_tape, .int (nI v_a0_taped), .ref a0_out, .int (nI v_a0_outs), .ref a0_slots, .ref a0_kept, .ref a0_phase, .ref a0_secret, .ref a0_key, .ref a0_hide, .ref a0_iv, .ref a0_begin, .ref a0_each, .ref a0_root, .ref a0_power, .ref a0_work, .ref a0_w, .ref a0_h, .ref a0_state, .ref a0_sum, .ref a0_pad, .ref a0_text, .int (nI v_a0_texts), .ref a0_info, .int (nI v_a0_infos), .ref a0_made, .ref a0_blockKey, .ref a0_nonce, .ref a0_x, .ref a0_first, .ref a0_block, .ref a0_a, .ref a0_r, .ref a0_product, .ref a0_tag, .ref a0_sealed])), (a0_root, aN C.D 3 t_a0_root), (a0_power, aN C.D 9 t_a0_power), (a0_w, aL C.D 64 t_a0_w)]
  refine v_bipush g dX8_times_0 (v := nI 8) (by decide +kernel) ?_
  refine v_toi (nI (9 - 0) - 1) (by decide +kernel) ?_
  refine v_istore_n g [(1, .int (nI (9 - 0) - 1)), (0, .ref a0)] dX8_times_2 1 rfl (by decide) rfl ?_
  have L3_0 : ∀ i : Nat, i ≤ 9 → ∀ (wa : Nat → Nat), (∀ j, 9 - i ≤ j → j < 9 → wa j = cn t_a0_power t_a0_root j 3) → VJ C 0 0 3 [(1, .int (nI (9 - i) - 1)), (0, .ref a0)] [] [(a0, .inr (8, [.int (nI v_a0_thrown), .ref a0_tape, .int (nI v_a0_taped), .ref a0_out, .int (nI v_a0_outs), .ref a0_slots, .ref a0_kept, .ref a0_phase, .ref a0_secret, .ref a0_key, .ref a0_hide, .ref a0_iv, .ref a0_begin, .ref a0_each, .ref a0_root, .ref a0_power, .ref a0_work, .ref a0_w, .ref a0_h, .ref a0_state, .ref a0_sum, .ref a0_pad, .ref a0_text, .int (nI v_a0_texts), .ref a0_info, .int (nI v_a0_infos), .ref a0_made, .ref a0_blockKey, .ref a0_nonce, .ref a0_x, .ref a0_first, .ref a0_block, .ref a0_a, .ref a0_r, .ref a0_product, .ref a0_tag, .ref a0_sealed])), (a0_root, aN C.D 3 t_a0_root), (a0_power, aN C.D 9 t_a0_power), (a0_w, aL C.D 64 wa)] := by
    refine v_for (9) ?_ ?_
    · skip
      intro i hii ih wa hv0
      refine v_iload_n g dX8_times_3 1 rfl 0 rfl ?_
      refine v_if_ltD g 65 dX8_times_4 (by decide) (by omega) (fun h1 => ?_) (fun h1 => ?_)
      · skip
        exact absurd h1 (by omega)
      · skip
        rw [dn_eq (e := 9 - i) (by omega)]
        refine v_lconst g dX8_times_7 (v := lN 0) (by decide +kernel) ?_
        refine v_lstore_n g [(2, .long (lN 0)), (1, .int (nI (9 - i - 1))), (0, .ref a0)] dX8_times_8 2 rfl (by decide) rfl ?_
        refine v_iconst g dX8_times_9 (v := nI 0) (by decide +kernel) ?_
        refine v_istore g [(4, .int (nI 0)), (2, .long (lN 0)), (1, .int (nI (9 - i - 1))), (0, .ref a0)] dX8_times_10 (by decide) rfl ?_
        have J52 : ∀ (cz : Nat), (cz = cn t_a0_power t_a0_root (9 - i - 1) 3) → VJ C 0 0 52 [(2, .long (lN cz)), (1, .int (nI (9 - i - 1))), (0, .ref a0)] [] [(a0, .inr (8, [.int (nI v_a0_thrown), .ref a0_tape, .int (nI v_a0_taped), .ref a0_out, .int (nI v_a0_outs), .ref a0_slots, .ref a0_kept, .ref a0_phase, .ref a0_secret, .ref a0_key, .ref a0_hide, .ref a0_iv, .ref a0_begin, .ref a0_each, .ref a0_root, .ref a0_power, .ref a0_work, .ref a0_w, .ref a0_h, .ref a0_state, .ref a0_sum, .ref a0_pad, .ref a0_text, .int (nI v_a0_texts), .ref a0_info, .int (nI v_a0_infos), .ref a0_made, .ref a0_blockKey, .ref a0_nonce, .ref a0_x, .ref a0_first, .ref a0_block, .ref a0_a, .ref a0_r, .ref a0_product, .ref a0_tag, .ref a0_sealed])), (a0_root, aN C.D 3 t_a0_root), (a0_power, aN C.D 9 t_a0_power), (a0_w, aL C.D 64 wa)] := by
          intro cz hj0
          subst hj0
          show VJ C 0 0 52 [(2, .long (lN (cn t_a0_power t_a0_root (9 - i - 1) 3))), (1, .int (nI (9 - i - 1))), (0, .ref a0)] [] [(a0, .inr (8, [.int (nI v_a0_thrown), .ref a0_tape, .int (nI v_a0_taped), .ref a0_out, .int (nI v_a0_outs), .ref a0_slots, .ref a0_kept, .ref a0_phase, .ref a0_secret, .ref a0_key, .ref a0_hide, .ref a0_iv, .ref a0_begin, .ref a0_each, .ref a0_root, .ref a0_power, .ref a0_work, .ref a0_w, .ref a0_h, .ref a0_state, .ref a0_sum, .ref a0_pad, .ref a0_text, .int (nI v_a0_texts), .ref a0_info, .int (nI v_a0_infos), .ref a0_made, .ref a0_blockKey, .ref a0_nonce, .ref a0_x, .ref a0_first, .ref a0_block, .ref a0_a, .ref a0_r, .ref a0_product, .ref a0_tag, .ref a0_sealed])), (a0_root, aN C.D 3 t_a0_root), (a0_power, aN C.D 9 t_a0_power), (a0_w, aL C.D 64 wa)]
          refine v_aload_n g dX8_times_52 0 rfl 2 rfl ?_
          refine gf_X8_53 g dX8_times_53 0 rfl rfl ?_
          refine v_iload_n g dX8_times_56 1 rfl 1 rfl ?_
          refine v_lload_n g dX8_times_57 2 rfl 0 rfl ?_
          obtain ⟨t2, ht2⟩ : ∃ z : Nat → Nat, z = va_up wa (9 - i - 1) (cn t_a0_power t_a0_root (9 - i - 1) 3) := ⟨_, rfl⟩
          refine v_lastL g (cn t_a0_power t_a0_root (9 - i - 1) 3) rfl t2 ht2 3 [(a0, .inr (8, [.int (nI v_a0_thrown), .ref a0_tape, .int (nI v_a0_taped), .ref a0_out, .int (nI v_a0_outs), .ref a0_slots, .ref a0_kept, .ref a0_phase, .ref a0_secret, .ref a0_key, .ref a0_hide, .ref a0_iv, .ref a0_begin, .ref a0_each, .ref a0_root, .ref a0_power, .ref a0_work, .ref a0_w, .ref a0_h, .ref a0_state, .ref a0_sum, .ref a0_pad, .ref a0_text, .int (nI v_a0_texts), .ref a0_info, .int (nI v_a0_infos), .ref a0_made, .ref a0_blockKey, .ref a0_nonce, .ref a0_x, .ref a0_first, .ref a0_block, .ref a0_a, .ref a0_r, .ref a0_product, .ref a0_tag, .ref a0_sealed])), (a0_root, aN C.D 3 t_a0_root), (a0_power, aN C.D 9 t_a0_power), (a0_w, aL C.D 64 t2)] rfl (by omega) (by decide) dX8_times_58 rfl ?_
          refine v_iinc g (v := nI (9 - i - 1) - 1) [(1, .int (nI (9 - i - 1) - 1)), (2, .long (lN (cn t_a0_power t_a0_root (9 - i - 1) 3))), (0, .ref a0)] dX8_times_59 1 rfl (dn_i _) (by decide) rfl ?_
          refine v_goto g 3 dX8_times_62 (by decide) ?_
          refine v_lpick [0, 2] [(1, .int (nI (9 - i - 1) - 1)), (0, .ref a0)] rfl ?_
          rw [show 9 - i - 1 = 9 - (i + 1) by omega]
          exact ih t2 (fun j g1 g2 => by
                rw [ht2]
                unfold va_up
                by_cases e : j = 9 - i - 1
                · rw [if_pos e, e]
                · rw [if_neg e]; exact hv0 j (by omega) g2)
        have L12_2 : ∀ m : Nat, m ≤ (min 3 ((9 - i - 1) + 1)) → ∀ (ci : Nat), (ci = cn t_a0_power t_a0_root (9 - i - 1) m) → VJ C 0 0 12 [(4, .int (nI m)), (2, .long (lN ci)), (1, .int (nI (9 - i - 1))), (0, .ref a0)] [] [(a0, .inr (8, [.int (nI v_a0_thrown), .ref a0_tape, .int (nI v_a0_taped), .ref a0_out, .int (nI v_a0_outs), .ref a0_slots, .ref a0_kept, .ref a0_phase, .ref a0_secret, .ref a0_key, .ref a0_hide, .ref a0_iv, .ref a0_begin, .ref a0_each, .ref a0_root, .ref a0_power, .ref a0_work, .ref a0_w, .ref a0_h, .ref a0_state, .ref a0_sum, .ref a0_pad, .ref a0_text, .int (nI v_a0_texts), .ref a0_info, .int (nI v_a0_infos), .ref a0_made, .ref a0_blockKey, .ref a0_nonce, .ref a0_x, .ref a0_first, .ref a0_block, .ref a0_a, .ref a0_r, .ref a0_product, .ref a0_tag, .ref a0_sealed])), (a0_root, aN C.D 3 t_a0_root), (a0_power, aN C.D 9 t_a0_power), (a0_w, aL C.D 64 wa)] := by
          refine v_for ((min 3 ((9 - i - 1) + 1))) ?_ ?_
          · skip
            intro m him ik ci hw0
            refine v_iload g dX8_times_12 0 rfl ?_
            refine v_iconst g dX8_times_14 (v := nI 3) (by decide +kernel) ?_
            refine v_icmp_geN g 52 dX8_times_15 (by decide) (by omega) (by omega) (fun h => absurd h (by omega)) (fun _ => ?_)
            refine v_iload g dX8_times_18 0 rfl ?_
            refine v_iload_n g dX8_times_20 1 rfl 2 rfl ?_
            refine v_icmp_gtN g 52 dX8_times_21 (by decide) (by omega) (by omega) (fun h3 => ?_) (fun h3 => ?_)
            · skip
              exact absurd h3 (by omega)
            · skip
              subst hw0
              show VJ C 0 0 24 [(4, .int (nI m)), (2, .long (lN (cn t_a0_power t_a0_root (9 - i - 1) m))), (1, .int (nI (9 - i - 1))), (0, .ref a0)] [] [(a0, .inr (8, [.int (nI v_a0_thrown), .ref a0_tape, .int (nI v_a0_taped), .ref a0_out, .int (nI v_a0_outs), .ref a0_slots, .ref a0_kept, .ref a0_phase, .ref a0_secret, .ref a0_key, .ref a0_hide, .ref a0_iv, .ref a0_begin, .ref a0_each, .ref a0_root, .ref a0_power, .ref a0_work, .ref a0_w, .ref a0_h, .ref a0_state, .ref a0_sum, .ref a0_pad, .ref a0_text, .int (nI v_a0_texts), .ref a0_info, .int (nI v_a0_infos), .ref a0_made, .ref a0_blockKey, .ref a0_nonce, .ref a0_x, .ref a0_first, .ref a0_block, .ref a0_a, .ref a0_r, .ref a0_product, .ref a0_tag, .ref a0_sealed])), (a0_root, aN C.D 3 t_a0_root), (a0_power, aN C.D 9 t_a0_power), (a0_w, aL C.D 64 wa)]
              have hb1 := hp ((9 - i - 1) - m) (by omega)
              have hb2 := hr m (by omega)
              refine v_lload_n g dX8_times_24 2 rfl 1 rfl ?_
              refine v_aload_n g dX8_times_25 0 rfl 3 rfl ?_
              refine gf_X8_47 g dX8_times_26 0 rfl rfl ?_
              refine v_iload_n g dX8_times_29 1 rfl 2 rfl ?_
              refine v_iload g dX8_times_30 0 rfl ?_
              refine v_isubN g dX8_times_32 (by omega) ?_
              refine v_ialdN g 2 rfl (by omega) (by decide) dX8_times_33 ?_
              refine v_i2lN g (by omega) dX8_times_34 ?_
              refine v_aload_n g dX8_times_35 0 rfl 3 rfl ?_
              refine gf_X8_44 g dX8_times_36 0 rfl rfl ?_
              refine v_iload g dX8_times_39 0 rfl ?_
              refine v_ialdN g 1 rfl (by omega) (by decide) dX8_times_41 ?_
              refine v_i2lN g (by omega) dX8_times_42 ?_
              refine v_lmulN g dX8_times_43 ?_
              refine v_laddN g dX8_times_44 ?_
              refine v_lstore_n g [(2, .long (lN ((cn t_a0_power t_a0_root (9 - i - 1) m) + ((t_a0_power ((9 - i - 1) - m)) * (t_a0_root m))))), (4, .int (nI m)), (1, .int (nI (9 - i - 1))), (0, .ref a0)] dX8_times_45 2 rfl (by decide) rfl ?_
              refine v_iincN g 1 [(4, .int (nI (m + 1))), (2, .long (lN ((cn t_a0_power t_a0_root (9 - i - 1) m) + ((t_a0_power ((9 - i - 1) - m)) * (t_a0_root m))))), (1, .int (nI (9 - i - 1))), (0, .ref a0)] dX8_times_46 1 rfl (by decide +kernel) (by decide) rfl ?_
              refine v_goto g 12 dX8_times_49 (by decide) ?_
              exact ik ((cn t_a0_power t_a0_root (9 - i - 1) m) + ((t_a0_power ((9 - i - 1) - m)) * (t_a0_root m))) (by show _ = cn t_a0_power t_a0_root (9 - i - 1) m + cnT t_a0_power t_a0_root (9 - i - 1) m; unfold cnT; rw [if_pos (by omega)])
          · skip
            intro ci hw0
            have h16 := cn_3 t_a0_power t_a0_root (9 - i - 1)
            refine v_iload g dX8_times_12 0 rfl ?_
            refine v_iconst g dX8_times_14 (v := nI 3) (by decide +kernel) ?_
            refine v_icmp_geN g 52 dX8_times_15 (by decide) (by omega) (by omega) (fun h4 => ?_) (fun h4 => ?_)
            · skip
              refine v_lpick [1, 2, 3] [(2, .long (lN ci)), (1, .int (nI (9 - i - 1))), (0, .ref a0)] rfl ?_
              exact J52 ci (by rw [hw0, h16])
            · skip
              refine v_iload g dX8_times_18 0 rfl ?_
              refine v_iload_n g dX8_times_20 1 rfl 2 rfl ?_
              refine v_icmp_gtN g 52 dX8_times_21 (by decide) (by omega) (by omega) (fun _ => ?_) (fun h => absurd h (by omega))
              refine v_lpick [1, 2, 3] [(2, .long (lN ci)), (1, .int (nI (9 - i - 1))), (0, .ref a0)] rfl ?_
              exact J52 ci (by rw [hw0, h16])
        exact L12_2 0 (by omega) 0 rfl
    · skip
      intro wa hv0
      refine v_iload_n g dX8_times_3 1 rfl 0 rfl ?_
      refine v_if_ltD g 65 dX8_times_4 (by decide) (by omega) (fun h5 => ?_) (fun h5 => ?_)
      · skip
        have hw : ∀ j, j < 9 → wa j = cn t_a0_power t_a0_root j 3 := fun j hj => hv0 j (by omega) hj
        refine v_lconst g dX8_times_65 (v := lN 0) (by decide +kernel) ?_
        refine v_lstore_n g [(1, .long (lN 0)), (0, .ref a0)] dX8_times_66 1 rfl (by decide) rfl ?_
        refine v_iconst g dX8_times_67 (v := nI 0) (by decide +kernel) ?_
        refine v_istore_n g [(3, .int (nI 0)), (1, .long (lN 0)), (0, .ref a0)] dX8_times_68 3 rfl (by decide) rfl ?_
        have L69_5 : ∀ k : Nat, k ≤ 9 → ∀ (ov : Nat) (pa : Nat → Nat), (pvN pa k + ov * 65536 ^ k = pvN (fun k => cn t_a0_power t_a0_root k 3) k) → (ov ≤ 2 ^ 40) → (∀ j, j < k → pa j < 2 ^ 16) → VJ C 0 0 69 [(3, .int (nI k)), (1, .long (lN ov)), (0, .ref a0)] [] [(a0, .inr (8, [.int (nI v_a0_thrown), .ref a0_tape, .int (nI v_a0_taped), .ref a0_out, .int (nI v_a0_outs), .ref a0_slots, .ref a0_kept, .ref a0_phase, .ref a0_secret, .ref a0_key, .ref a0_hide, .ref a0_iv, .ref a0_begin, .ref a0_each, .ref a0_root, .ref a0_power, .ref a0_work, .ref a0_w, .ref a0_h, .ref a0_state, .ref a0_sum, .ref a0_pad, .ref a0_text, .int (nI v_a0_texts), .ref a0_info, .int (nI v_a0_infos), .ref a0_made, .ref a0_blockKey, .ref a0_nonce, .ref a0_x, .ref a0_first, .ref a0_block, .ref a0_a, .ref a0_r, .ref a0_product, .ref a0_tag, .ref a0_sealed])), (a0_root, aN C.D 3 t_a0_root), (a0_power, aN C.D 9 pa), (a0_w, aL C.D 64 wa)] := by
          refine v_for (9) ?_ ?_
          · skip
            intro k hik ih ov pa hv0 hv1 hv2
            refine v_iload_n g dX8_times_69 3 rfl 0 rfl ?_
            refine v_bipush g dX8_times_70 (v := nI 9) (by decide +kernel) ?_
            refine v_icmp_geN g 107 dX8_times_72 (by decide) (by omega) (by omega) (fun h6 => ?_) (fun h6 => ?_)
            · skip
              exact absurd h6 (by omega)
            · skip
              have hb := cn_le (p := t_a0_power) (r := t_a0_root) hik hp hr 3 (by decide)
              have hwk := hw k hik
              refine v_lload_n g dX8_times_75 1 rfl 1 rfl ?_
              refine v_aload_n g dX8_times_76 0 rfl 2 rfl ?_
              refine gf_X8_53 g dX8_times_77 0 rfl rfl ?_
              refine v_iload_n g dX8_times_80 3 rfl 0 rfl ?_
              refine v_laldL g 3 rfl (by omega) (by decide) dX8_times_81 ?_
              refine v_laddN g dX8_times_82 ?_
              refine v_lstore_n g [(1, .long (lN (ov + (wa k)))), (3, .int (nI k)), (0, .ref a0)] dX8_times_83 1 rfl (by decide) rfl ?_
              refine v_aload_n g dX8_times_84 0 rfl 2 rfl ?_
              refine gf_X8_47 g dX8_times_85 0 rfl rfl ?_
              refine v_iload_n g dX8_times_88 3 rfl 1 rfl ?_
              refine v_lload_n g dX8_times_89 1 rfl 0 rfl ?_
              refine v_ldc2 g dX8_times_90 kl_X8_125 ?_
              refine v_landM g 16 (by decide) dX8_times_93 ?_
              refine v_l2iN g dX8_times_94 ?_
              obtain ⟨t7, ht7⟩ : ∃ z : Nat → Nat, z = va_up pa k ((ov + (wa k)) % 2 ^ 16) := ⟨_, rfl⟩
              refine v_iastN g ((ov + (wa k)) % 2 ^ 16) rfl t7 ht7 2 [(a0, .inr (8, [.int (nI v_a0_thrown), .ref a0_tape, .int (nI v_a0_taped), .ref a0_out, .int (nI v_a0_outs), .ref a0_slots, .ref a0_kept, .ref a0_phase, .ref a0_secret, .ref a0_key, .ref a0_hide, .ref a0_iv, .ref a0_begin, .ref a0_each, .ref a0_root, .ref a0_power, .ref a0_work, .ref a0_w, .ref a0_h, .ref a0_state, .ref a0_sum, .ref a0_pad, .ref a0_text, .int (nI v_a0_texts), .ref a0_info, .int (nI v_a0_infos), .ref a0_made, .ref a0_blockKey, .ref a0_nonce, .ref a0_x, .ref a0_first, .ref a0_block, .ref a0_a, .ref a0_r, .ref a0_product, .ref a0_tag, .ref a0_sealed])), (a0_root, aN C.D 3 t_a0_root), (a0_power, aN C.D 9 t7), (a0_w, aL C.D 64 wa)] rfl (by omega) (by decide) dX8_times_95 rfl ?_
              refine v_lload_n g dX8_times_96 1 rfl 0 rfl ?_
              refine v_bipush g dX8_times_97 (v := nI 16) (by decide +kernel) ?_
              refine v_lshrN g (by omega) (by decide) dX8_times_99 ?_
              refine v_lstore_n g [(1, .long (lN ((ov + (wa k)) / 2 ^ 16))), (3, .int (nI k)), (0, .ref a0)] dX8_times_100 1 rfl (by decide) rfl ?_
              refine v_iincN g 1 [(3, .int (nI (k + 1))), (1, .long (lN ((ov + (wa k)) / 2 ^ 16))), (0, .ref a0)] dX8_times_101 1 rfl (by decide +kernel) (by decide) rfl ?_
              refine v_goto g 69 dX8_times_104 (by decide) ?_
              exact ih ((ov + (wa k)) / 2 ^ 16) t7 (by have z := pc_s (x := wa k) hv0 ht7; rw [z, hwk]; rfl) (by omega) (up_ltN (m := k) hv2 (Nat.mod_lt _ (by decide)) ht7)
          · skip
            intro ov pa hv0 hv1 hv2
            refine v_iload_n g dX8_times_69 3 rfl 0 rfl ?_
            refine v_bipush g dX8_times_70 (v := nI 9) (by decide +kernel) ?_
            refine v_icmp_geN g 107 dX8_times_72 (by decide) (by omega) (by omega) (fun h8 => ?_) (fun h8 => ?_)
            · skip
              have z := cn_mul t_a0_power t_a0_root 3 (by decide)
              have z2 := pv_lt 9 hv2
              exact v_ret g R dX8_times_107 (by decide) (by decide) ⟨pa, _, rfl, rfl, hv2, (by rw [← z, ← hv0, Nat.add_mul_mod_self_right, Nat.mod_eq_of_lt z2])⟩
            · skip
              exact absurd h8 (by omega)
        exact L69_5 0 (by omega) 0 t_a0_power rfl (by decide) (fun j hj => absurd hj (by omega))
      · skip
        exact absurd h5 (by omega)
  exact L3_0 0 (by omega) t_a0_w (fun j g1 g2 => absurd g1 (by omega))
set_option maxHeartbeats 4000000 in
set_option maxRecDepth 100000 in
theorem c_R_above2 (l : Launch) (D : va_G) (a0 : Nat) (p1 : Nat) (p2 : Nat) (v_a0_thrown : Nat) (a0_tape : Nat) (v_a0_taped : Nat) (a0_out : Nat) (v_a0_outs : Nat) (a0_slots : Nat) (a0_kept : Nat) (a0_phase : Nat) (a0_secret : Nat) (a0_key : Nat) (a0_hide : Nat) (a0_iv : Nat) (a0_begin : Nat) (a0_each : Nat) (a0_root : Nat) (a0_power : Nat) (a0_work : Nat) (a0_w : Nat) (a0_h : Nat) (a0_state : Nat) (a0_sum : Nat) (a0_pad : Nat) (a0_text : Nat) (v_a0_texts : Nat) (a0_info : Nat) (v_a0_infos : Nat) (a0_made : Nat) (a0_blockKey : Nat) (a0_nonce : Nat) (a0_x : Nat) (a0_first : Nat) (a0_block : Nat) (a0_a : Nat) (a0_r : Nat) (a0_product : Nat) (a0_tag : Nat) (a0_sealed : Nat) (t_a0_root : Nat → Nat) (t_a0_power : Nat → Nat) (t_a0_w : Nat → Nat)  (h1 : p1 < 2 ^ 36) (h2 : p2 < 2 ^ 16) : vM l D yX8_isAbove cX8_isAbove 7 (some .boolean) { frames := 1, cells := 0, slots := 0, locals := 24 } [.ref a0, .long (lN p1), .int (nI p2), .int (nI 2)] [(a0, .inr (8, [.int (nI v_a0_thrown), .ref a0_tape, .int (nI v_a0_taped), .ref a0_out, .int (nI v_a0_outs), .ref a0_slots, .ref a0_kept, .ref a0_phase, .ref a0_secret, .ref a0_key, .ref a0_hide, .ref a0_iv, .ref a0_begin, .ref a0_each, .ref a0_root, .ref a0_power, .ref a0_work, .ref a0_w, .ref a0_h, .ref a0_state, .ref a0_sum, .ref a0_pad, .ref a0_text, .int (nI v_a0_texts), .ref a0_info, .int (nI v_a0_infos), .ref a0_made, .ref a0_blockKey, .ref a0_nonce, .ref a0_x, .ref a0_first, .ref a0_block, .ref a0_a, .ref a0_r, .ref a0_product, .ref a0_tag, .ref a0_sealed])), (a0_root, aN D 3 t_a0_root), (a0_power, aN D 9 t_a0_power), (a0_w, aL D 64 t_a0_w)] (fun r wo => ∃ (tr : Nat → Nat) (tp : Nat → Nat) (tw : Nat → Nat), r = some (.int (nI (if p2 * 65536 ^ 4 < p1 ^ 2 then 1 else 0))) ∧ wo = [(a0, .inr (8, [.int (nI v_a0_thrown), .ref a0_tape, .int (nI v_a0_taped), .ref a0_out, .int (nI v_a0_outs), .ref a0_slots, .ref a0_kept, .ref a0_phase, .ref a0_secret, .ref a0_key, .ref a0_hide, .ref a0_iv, .ref a0_begin, .ref a0_each, .ref a0_root, .ref a0_power, .ref a0_work, .ref a0_w, .ref a0_h, .ref a0_state, .ref a0_sum, .ref a0_pad, .ref a0_text, .int (nI v_a0_texts), .ref a0_info, .int (nI v_a0_infos), .ref a0_made, .ref a0_blockKey, .ref a0_nonce, .ref a0_x, .ref a0_first, .ref a0_block, .ref a0_a, .ref a0_r, .ref a0_product, .ref a0_tag, .ref a0_sealed])), (a0_root, aN D 3 tr), (a0_power, aN D 9 tp), (a0_w, aL D 64 tw)]) := by
  refine vM.of (by decide) (Nat.le_of_ble_eq_true rfl) (fun C hCl hCD g R => ?_)
  subst hCl; subst hCD
  show VJ C 0 0 0 [(0, .ref a0), (1, .long (lN p1)), (3, .int (nI p2)), (4, .int (nI 2))] [] [(a0, .inr (8, [.int (nI v_a0_thrown), .ref a0_tape, .int (nI v_a0_taped), .ref a0_out, .int (nI v_a0_outs), .ref a0_slots, .ref a0_kept, .ref a0_phase, .ref a0_secret, .ref a0_key, .ref a0_hide, .ref a0_iv, .ref a0_begin, .ref a0_each, .ref a0_root, .ref a0_power, .ref a0_work, .ref a0_w, .ref a0_h, .ref a0_state, .ref a0_sum, .ref a0_pad, .ref a0_text, .int (nI v_a0_texts), .ref a0_info, .int (nI v_a0_infos), .ref a0_made, .ref a0_blockKey, .ref a0_nonce, .ref a0_x, .ref a0_first, .ref a0_block, .ref a0_a, .ref a0_r, .ref a0_product, .ref a0_tag, .ref a0_sealed])), (a0_root, aN C.D 3 t_a0_root), (a0_power, aN C.D 9 t_a0_power), (a0_w, aL C.D 64 t_a0_w)]
  refine v_iconst g dX8_isAbove_0 (v := nI 0) (by decide +kernel) ?_
  refine v_istore g [(5, .int (nI 0)), (0, .ref a0), (1, .long (lN p1)), (3, .int (nI p2)), (4, .int (nI 2))] dX8_isAbove_1 (by decide) rfl ?_
  have L3_0 : ∀ k : Nat, k ≤ 9 → ∀ (pz : Nat → Nat), (∀ j, j < k → pz j = 0) → VJ C 0 0 3 [(5, .int (nI k)), (0, .ref a0), (1, .long (lN p1)), (3, .int (nI p2)), (4, .int (nI 2))] [] [(a0, .inr (8, [.int (nI v_a0_thrown), .ref a0_tape, .int (nI v_a0_taped), .ref a0_out, .int (nI v_a0_outs), .ref a0_slots, .ref a0_kept, .ref a0_phase, .ref a0_secret, .ref a0_key, .ref a0_hide, .ref a0_iv, .ref a0_begin, .ref a0_each, .ref a0_root, .ref a0_power, .ref a0_work, .ref a0_w, .ref a0_h, .ref a0_state, .ref a0_sum, .ref a0_pad, .ref a0_text, .int (nI v_a0_texts), .ref a0_info, .int (nI v_a0_infos), .ref a0_made, .ref a0_blockKey, .ref a0_nonce, .ref a0_x, .ref a0_first, .ref a0_block, .ref a0_a, .ref a0_r, .ref a0_product, .ref a0_tag, .ref a0_sealed])), (a0_root, aN C.D 3 t_a0_root), (a0_power, aN C.D 9 pz), (a0_w, aL C.D 64 t_a0_w)] := by
    refine v_for (9) ?_ ?_
    · skip
      intro k hik ih pz hv0
      refine v_iload g dX8_isAbove_3 0 rfl ?_
      refine v_bipush g dX8_isAbove_5 (v := nI 9) (by decide +kernel) ?_
      refine v_icmp_geN g 24 dX8_isAbove_7 (by decide) (by omega) (by omega) (fun h3 => ?_) (fun h3 => ?_)
      · skip
        exact absurd h3 (by omega)
      · skip
        refine v_aload_n g dX8_isAbove_10 0 rfl 1 rfl ?_
        refine gf_X8_47 g dX8_isAbove_11 0 rfl rfl ?_
        refine v_iload g dX8_isAbove_14 0 rfl ?_
        refine v_iconst g dX8_isAbove_16 (v := nI 0) (by decide +kernel) ?_
        obtain ⟨t4, ht4⟩ : ∃ z : Nat → Nat, z = va_up pz k 0 := ⟨_, rfl⟩
        refine v_iastN g (0) rfl t4 ht4 2 [(a0, .inr (8, [.int (nI v_a0_thrown), .ref a0_tape, .int (nI v_a0_taped), .ref a0_out, .int (nI v_a0_outs), .ref a0_slots, .ref a0_kept, .ref a0_phase, .ref a0_secret, .ref a0_key, .ref a0_hide, .ref a0_iv, .ref a0_begin, .ref a0_each, .ref a0_root, .ref a0_power, .ref a0_work, .ref a0_w, .ref a0_h, .ref a0_state, .ref a0_sum, .ref a0_pad, .ref a0_text, .int (nI v_a0_texts), .ref a0_info, .int (nI v_a0_infos), .ref a0_made, .ref a0_blockKey, .ref a0_nonce, .ref a0_x, .ref a0_first, .ref a0_block, .ref a0_a, .ref a0_r, .ref a0_product, .ref a0_tag, .ref a0_sealed])), (a0_root, aN C.D 3 t_a0_root), (a0_power, aN C.D 9 t4), (a0_w, aL C.D 64 t_a0_w)] rfl (by omega) (by decide) dX8_isAbove_17 rfl ?_
        refine v_iincN g 1 [(5, .int (nI (k + 1))), (0, .ref a0), (1, .long (lN p1)), (3, .int (nI p2)), (4, .int (nI 2))] dX8_isAbove_18 0 rfl (by decide +kernel) (by decide) rfl ?_
        refine v_goto g 3 dX8_isAbove_21 (by decide) ?_
        exact ih t4 (up_lt (m := k) (F := fun _ => 0) hv0 rfl ht4)
    · skip
      intro pz hv0
      refine v_iload g dX8_isAbove_3 0 rfl ?_
      refine v_bipush g dX8_isAbove_5 (v := nI 9) (by decide +kernel) ?_
      refine v_icmp_geN g 24 dX8_isAbove_7 (by decide) (by omega) (by omega) (fun h5 => ?_) (fun h5 => ?_)
      · skip
        have hz := hv0
        refine v_aload_n g dX8_isAbove_24 0 rfl 1 rfl ?_
        refine gf_X8_47 g dX8_isAbove_25 0 rfl rfl ?_
        refine v_iconst g dX8_isAbove_28 (v := nI 0) (by decide +kernel) ?_
        refine v_iconst g dX8_isAbove_29 (v := nI 1) (by decide +kernel) ?_
        obtain ⟨t6, ht6⟩ : ∃ z : Nat → Nat, z = va_up pz 0 1 := ⟨_, rfl⟩
        refine v_iastN g (1) rfl t6 ht6 2 [(a0, .inr (8, [.int (nI v_a0_thrown), .ref a0_tape, .int (nI v_a0_taped), .ref a0_out, .int (nI v_a0_outs), .ref a0_slots, .ref a0_kept, .ref a0_phase, .ref a0_secret, .ref a0_key, .ref a0_hide, .ref a0_iv, .ref a0_begin, .ref a0_each, .ref a0_root, .ref a0_power, .ref a0_work, .ref a0_w, .ref a0_h, .ref a0_state, .ref a0_sum, .ref a0_pad, .ref a0_text, .int (nI v_a0_texts), .ref a0_info, .int (nI v_a0_infos), .ref a0_made, .ref a0_blockKey, .ref a0_nonce, .ref a0_x, .ref a0_first, .ref a0_block, .ref a0_a, .ref a0_r, .ref a0_product, .ref a0_tag, .ref a0_sealed])), (a0_root, aN C.D 3 t_a0_root), (a0_power, aN C.D 9 t6), (a0_w, aL C.D 64 t_a0_w)] rfl (by decide) (by decide) dX8_isAbove_30 rfl ?_
        refine v_iconst g dX8_isAbove_31 (v := nI 0) (by decide +kernel) ?_
        refine v_istore g [(5, .int (nI 0)), (0, .ref a0), (1, .long (lN p1)), (3, .int (nI p2)), (4, .int (nI 2))] dX8_isAbove_32 (by decide) rfl ?_
        have hp1 : pvN t6 9 = 1 := by
          rw [ht6, pv_congr 9 (d := duF 1 0) (fun j hj => by unfold va_up duF; split <;> first | rfl | exact hz j hj), du_v 1 (by decide)]
        have hp2 : ∀ j, j < 9 → t6 j < 2 ^ 16 := fun j hj => by rw [ht6]; unfold va_up; split <;> first | decide | (rw [hz j hj]; decide)
        have L34_6 : ∀ k : Nat, k ≤ 3 → ∀ (ra : Nat → Nat), (∀ j, j < k → ra j = p1 / 2 ^ (16 * j) % 2 ^ 16) → VJ C 0 0 34 [(5, .int (nI k)), (0, .ref a0), (1, .long (lN p1)), (3, .int (nI p2)), (4, .int (nI 2))] [] [(a0, .inr (8, [.int (nI v_a0_thrown), .ref a0_tape, .int (nI v_a0_taped), .ref a0_out, .int (nI v_a0_outs), .ref a0_slots, .ref a0_kept, .ref a0_phase, .ref a0_secret, .ref a0_key, .ref a0_hide, .ref a0_iv, .ref a0_begin, .ref a0_each, .ref a0_root, .ref a0_power, .ref a0_work, .ref a0_w, .ref a0_h, .ref a0_state, .ref a0_sum, .ref a0_pad, .ref a0_text, .int (nI v_a0_texts), .ref a0_info, .int (nI v_a0_infos), .ref a0_made, .ref a0_blockKey, .ref a0_nonce, .ref a0_x, .ref a0_first, .ref a0_block, .ref a0_a, .ref a0_r, .ref a0_product, .ref a0_tag, .ref a0_sealed])), (a0_root, aN C.D 3 ra), (a0_power, aN C.D 9 t6), (a0_w, aL C.D 64 t_a0_w)] := by
          refine v_for (3) ?_ ?_
          · skip
            intro k hik ih ra hv0
            refine v_iload g dX8_isAbove_34 0 rfl ?_
            refine v_iconst g dX8_isAbove_36 (v := nI 3) (by decide +kernel) ?_
            refine v_icmp_geN g 65 dX8_isAbove_37 (by decide) (by omega) (by omega) (fun h7 => ?_) (fun h7 => ?_)
            · skip
              exact absurd h7 (by omega)
            · skip
              refine v_aload_n g dX8_isAbove_40 0 rfl 1 rfl ?_
              refine gf_X8_44 g dX8_isAbove_41 0 rfl rfl ?_
              refine v_iload g dX8_isAbove_44 0 rfl ?_
              refine v_lload_n g dX8_isAbove_46 1 rfl 2 rfl ?_
              refine v_bipush g dX8_isAbove_47 (v := nI 16) (by decide +kernel) ?_
              refine v_iload g dX8_isAbove_49 0 rfl ?_
              refine v_imulN g dX8_isAbove_51 ?_
              refine v_lshrN g (by omega) (by omega) dX8_isAbove_52 ?_
              refine v_ldc2 g dX8_isAbove_53 kl_X8_125 ?_
              refine v_landM g 16 (by decide) dX8_isAbove_56 ?_
              refine v_l2iN g dX8_isAbove_57 ?_
              obtain ⟨t8, ht8⟩ : ∃ z : Nat → Nat, z = va_up ra k ((p1 / 2 ^ (16 * k)) % 2 ^ 16) := ⟨_, rfl⟩
              refine v_iastN g ((p1 / 2 ^ (16 * k)) % 2 ^ 16) rfl t8 ht8 1 [(a0, .inr (8, [.int (nI v_a0_thrown), .ref a0_tape, .int (nI v_a0_taped), .ref a0_out, .int (nI v_a0_outs), .ref a0_slots, .ref a0_kept, .ref a0_phase, .ref a0_secret, .ref a0_key, .ref a0_hide, .ref a0_iv, .ref a0_begin, .ref a0_each, .ref a0_root, .ref a0_power, .ref a0_work, .ref a0_w, .ref a0_h, .ref a0_state, .ref a0_sum, .ref a0_pad, .ref a0_text, .int (nI v_a0_texts), .ref a0_info, .int (nI v_a0_infos), .ref a0_made, .ref a0_blockKey, .ref a0_nonce, .ref a0_x, .ref a0_first, .ref a0_block, .ref a0_a, .ref a0_r, .ref a0_product, .ref a0_tag, .ref a0_sealed])), (a0_root, aN C.D 3 t8), (a0_power, aN C.D 9 t6), (a0_w, aL C.D 64 t_a0_w)] rfl (by omega) (by decide) dX8_isAbove_58 rfl ?_
              refine v_iincN g 1 [(5, .int (nI (k + 1))), (0, .ref a0), (1, .long (lN p1)), (3, .int (nI p2)), (4, .int (nI 2))] dX8_isAbove_59 0 rfl (by decide +kernel) (by decide) rfl ?_
              refine v_goto g 34 dX8_isAbove_62 (by decide) ?_
              exact ih t8 (up_lt (m := k) (F := fun j => p1 / 2 ^ (16 * j) % 2 ^ 16) hv0 rfl ht8)
          · skip
            intro ra hv0
            refine v_iload g dX8_isAbove_34 0 rfl ?_
            refine v_iconst g dX8_isAbove_36 (v := nI 3) (by decide +kernel) ?_
            refine v_icmp_geN g 65 dX8_isAbove_37 (by decide) (by omega) (by omega) (fun h9 => ?_) (fun h9 => ?_)
            · skip
              have hra := ra_v h1 hv0
              refine v_iconst g dX8_isAbove_65 (v := nI 0) (by decide +kernel) ?_
              refine v_istore g [(5, .int (nI 0)), (0, .ref a0), (1, .long (lN p1)), (3, .int (nI p2)), (4, .int (nI 2))] dX8_isAbove_66 (by decide) rfl ?_
              have L68_9 : ∀ k : Nat, k ≤ 2 → ∀ (pb : Nat → Nat) (wb : Nat → Nat), (pvN pb 9 = p1 ^ k) → (∀ j, j < 9 → pb j < 2 ^ 16) → VJ C 0 0 68 [(5, .int (nI k)), (0, .ref a0), (1, .long (lN p1)), (3, .int (nI p2)), (4, .int (nI 2))] [] [(a0, .inr (8, [.int (nI v_a0_thrown), .ref a0_tape, .int (nI v_a0_taped), .ref a0_out, .int (nI v_a0_outs), .ref a0_slots, .ref a0_kept, .ref a0_phase, .ref a0_secret, .ref a0_key, .ref a0_hide, .ref a0_iv, .ref a0_begin, .ref a0_each, .ref a0_root, .ref a0_power, .ref a0_work, .ref a0_w, .ref a0_h, .ref a0_state, .ref a0_sum, .ref a0_pad, .ref a0_text, .int (nI v_a0_texts), .ref a0_info, .int (nI v_a0_infos), .ref a0_made, .ref a0_blockKey, .ref a0_nonce, .ref a0_x, .ref a0_first, .ref a0_block, .ref a0_a, .ref a0_r, .ref a0_product, .ref a0_tag, .ref a0_sealed])), (a0_root, aN C.D 3 ra), (a0_power, aN C.D 9 pb), (a0_w, aL C.D 64 wb)] := by
                refine v_for (2) ?_ ?_
                · skip
                  intro k hik ik pb wb hw0 hw1
                  refine v_iload g dX8_isAbove_68 0 rfl ?_
                  refine v_iload g dX8_isAbove_70 4 rfl ?_
                  refine v_icmp_geN g 85 dX8_isAbove_72 (by decide) (by omega) (by omega) (fun h10 => ?_) (fun h10 => ?_)
                  · skip
                    exact absurd h10 (by omega)
                  · skip
                    refine v_aload_n g dX8_isAbove_75 0 rfl 1 rfl ?_
                    refine v_callV (As := []) (rest := []) (wr := []) cw_X8_127 (hy_X8_times) g (c_R_times C.l C.D a0 v_a0_thrown a0_tape v_a0_taped a0_out v_a0_outs a0_slots a0_kept a0_phase a0_secret a0_key a0_hide a0_iv a0_begin a0_each a0_root a0_power a0_work a0_w a0_h a0_state a0_sum a0_pad a0_text v_a0_texts a0_info v_a0_infos a0_made a0_blockKey a0_nonce a0_x a0_first a0_block a0_a a0_r a0_product a0_tag a0_sealed ra pb wb hw1 hra.2) dX8_isAbove_76 0 rfl rfl rfl (by decide) (by decide) (Nat.le_of_ble_eq_true rfl) [0, 1, 2, 3] [] rfl rfl (by decide) rfl (by decide) (by decide) _ rfl (fun r wo hp11 => ?_)
                    obtain ⟨tp, tw, rfl, rfl, ht1, ht2⟩ := hp11
                    show VJ C 0 0 79 [(5, .int (nI k)), (0, .ref a0), (1, .long (lN p1)), (3, .int (nI p2)), (4, .int (nI 2))] [] [(a0, .inr (8, [.int (nI v_a0_thrown), .ref a0_tape, .int (nI v_a0_taped), .ref a0_out, .int (nI v_a0_outs), .ref a0_slots, .ref a0_kept, .ref a0_phase, .ref a0_secret, .ref a0_key, .ref a0_hide, .ref a0_iv, .ref a0_begin, .ref a0_each, .ref a0_root, .ref a0_power, .ref a0_work, .ref a0_w, .ref a0_h, .ref a0_state, .ref a0_sum, .ref a0_pad, .ref a0_text, .int (nI v_a0_texts), .ref a0_info, .int (nI v_a0_infos), .ref a0_made, .ref a0_blockKey, .ref a0_nonce, .ref a0_x, .ref a0_first, .ref a0_block, .ref a0_a, .ref a0_r, .ref a0_product, .ref a0_tag, .ref a0_sealed])), (a0_root, aN C.D 3 ra), (a0_power, aN C.D 9 tp), (a0_w, aL C.D 64 tw)]
                    refine v_iincN g 1 [(5, .int (nI (k + 1))), (0, .ref a0), (1, .long (lN p1)), (3, .int (nI p2)), (4, .int (nI 2))] dX8_isAbove_79 0 rfl (by decide +kernel) (by decide) rfl ?_
                    refine v_goto g 68 dX8_isAbove_82 (by decide) ?_
                    exact ik tp tw (by
                          rw [ht2, hw0, hra.1, ← Nat.pow_succ]
                          exact Nat.mod_eq_of_lt (Nat.lt_of_le_of_lt (Nat.pow_le_pow_left (Nat.le_of_lt h1) (k + 1)) (Nat.lt_of_le_of_lt (Nat.pow_le_pow_right (by decide) (show k + 1 ≤ 3 by omega)) (by decide +kernel)))) ht1
                · skip
                  intro pb wb hw0 hw1
                  refine v_iload g dX8_isAbove_68 0 rfl ?_
                  refine v_iload g dX8_isAbove_70 4 rfl ?_
                  refine v_icmp_geN g 85 dX8_isAbove_72 (by decide) (by omega) (by omega) (fun h12 => ?_) (fun h12 => ?_)
                  · skip
                    have hdu := du_v p2 (e := 4) (by decide)
                    have hd16 : ∀ j, j < 9 → duF p2 4 j < 2 ^ 16 := fun j _ => by unfold duF; split <;> omega
                    refine v_bipush g dX8_isAbove_85 (v := nI 8) (by decide +kernel) ?_
                    refine v_toi (nI (9 - 0) - 1) (by decide +kernel) ?_
                    refine v_istore g [(5, .int (nI (9 - 0) - 1)), (0, .ref a0), (1, .long (lN p1)), (3, .int (nI p2)), (4, .int (nI 2))] dX8_isAbove_87 (by decide) rfl ?_
                    have L89_12 : ∀ i : Nat, i ≤ 9 → (∀ j, 9 - i ≤ j → j < 9 → pb j = duF p2 4 j) → VJ C 0 0 89 [(5, .int (nI (9 - i) - 1)), (0, .ref a0), (1, .long (lN p1)), (3, .int (nI p2)), (4, .int (nI 2))] [] [(a0, .inr (8, [.int (nI v_a0_thrown), .ref a0_tape, .int (nI v_a0_taped), .ref a0_out, .int (nI v_a0_outs), .ref a0_slots, .ref a0_kept, .ref a0_phase, .ref a0_secret, .ref a0_key, .ref a0_hide, .ref a0_iv, .ref a0_begin, .ref a0_each, .ref a0_root, .ref a0_power, .ref a0_work, .ref a0_w, .ref a0_h, .ref a0_state, .ref a0_sum, .ref a0_pad, .ref a0_text, .int (nI v_a0_texts), .ref a0_info, .int (nI v_a0_infos), .ref a0_made, .ref a0_blockKey, .ref a0_nonce, .ref a0_x, .ref a0_first, .ref a0_block, .ref a0_a, .ref a0_r, .ref a0_product, .ref a0_tag, .ref a0_sealed])), (a0_root, aN C.D 3 ra), (a0_power, aN C.D 9 pb), (a0_w, aL C.D 64 wb)] := by
                      refine v_for (9) ?_ ?_
                      · skip
                        intro i hii ix  hx0
                        refine v_iload g dX8_isAbove_89 0 rfl ?_
                        refine v_if_ltD g 146 dX8_isAbove_91 (by decide) (by omega) (fun h13 => ?_) (fun h13 => ?_)
                        · skip
                          exact absurd h13 (by omega)
                        · skip
                          rw [dn_eq (e := 9 - i) (by omega)]
                          refine v_iload g dX8_isAbove_94 0 rfl ?_
                          refine v_iconst g dX8_isAbove_96 (v := nI 2) (by decide +kernel) ?_
                          refine v_iload g dX8_isAbove_97 4 rfl ?_
                          refine v_imulN g dX8_isAbove_99 ?_
                          refine v_toi (nI 4) rfl ?_
                          refine v_icmp_neN g 107 dX8_isAbove_100 (by decide) (by omega) (by omega) (fun h14 => ?_) (fun h14 => ?_)
                          · skip
                            refine v_iconst g dX8_isAbove_107 (v := nI 0) (by decide +kernel) ?_
                            refine v_istore g [(6, .int (nI 0)), (5, .int (nI (9 - i - 1))), (0, .ref a0), (1, .long (lN p1)), (3, .int (nI p2)), (4, .int (nI 2))] dX8_isAbove_108 (by decide) rfl ?_
                            have hd : duF p2 4 (9 - i - 1) = 0 := by unfold duF; rw [if_neg h14]
                            have hbk := hw1 (9 - i - 1) (by omega)
                            refine v_aload_n g dX8_isAbove_110 0 rfl 2 rfl ?_
                            refine gf_X8_47 g dX8_isAbove_111 0 rfl rfl ?_
                            refine v_iload g dX8_isAbove_114 1 rfl ?_
                            refine v_ialdN g 2 rfl (by omega) (by decide) dX8_isAbove_116 ?_
                            refine v_iload g dX8_isAbove_117 0 rfl ?_
                            refine v_icmp_eqN g 140 dX8_isAbove_119 (by decide) (by omega) (by omega) (fun h15 => ?_) (fun h15 => ?_)
                            · skip
                              refine v_iinc g (v := nI (9 - i - 1) - 1) [(5, .int (nI (9 - i - 1) - 1)), (6, .int (nI 0)), (0, .ref a0), (1, .long (lN p1)), (3, .int (nI p2)), (4, .int (nI 2))] dX8_isAbove_140 1 rfl (dn_i _) (by decide) rfl ?_
                              refine v_goto g 89 dX8_isAbove_143 (by decide) ?_
                              refine v_lpick [0, 2, 3, 4, 5] [(5, .int (nI (9 - i - 1) - 1)), (0, .ref a0), (1, .long (lN p1)), (3, .int (nI p2)), (4, .int (nI 2))] rfl ?_
                              rw [show 9 - i - 1 = 9 - (i + 1) by omega]
                              exact ix  (fun j g1 g2 => by
                                    by_cases e : j = (9 - i - 1)
                                    · rw [e, hd]; exact h15
                                    · exact hx0 j (by omega) g2)
                            · skip
                              refine v_aload_n g dX8_isAbove_122 0 rfl 2 rfl ?_
                              refine gf_X8_47 g dX8_isAbove_123 0 rfl rfl ?_
                              refine v_iload g dX8_isAbove_126 1 rfl ?_
                              refine v_ialdN g 2 rfl (by omega) (by decide) dX8_isAbove_128 ?_
                              refine v_iload g dX8_isAbove_129 0 rfl ?_
                              refine v_icmp_leN g 138 dX8_isAbove_131 (by decide) (by omega) (by omega) (fun h16 => ?_) (fun h16 => ?_)
                              · skip
                                refine v_iconst g dX8_isAbove_138 (v := nI 0) (by decide +kernel) ?_
                                exact v_zret g R dX8_isAbove_139 (by decide +kernel) (by decide) (by decide) ⟨ra, pb, wb, (by rw [if_neg]; rw [← hdu, ← hw0]; exact Nat.not_lt.mpr (Nat.le_of_lt (pv_lex (k := (9 - i - 1)) (by omega) hw1 (fun j g1 g2 => (hx0 j (by omega) g2).symm) (by rw [hd]; omega)))), rfl⟩
                              · skip
                                refine v_iconst g dX8_isAbove_134 (v := nI 1) (by decide +kernel) ?_
                                refine v_goto g 139 dX8_isAbove_135 (by decide) ?_
                                exact v_zret g R dX8_isAbove_139 (by decide +kernel) (by decide) (by decide) ⟨ra, pb, wb, (by rw [if_pos]; rw [← hdu, ← hw0]; exact pv_lex (k := (9 - i - 1)) (by omega) hd16 (fun j g1 g2 => hx0 j (by omega) g2) (by rw [hd]; omega)), rfl⟩
                          · skip
                            refine v_iload_n g dX8_isAbove_103 3 rfl 3 rfl ?_
                            refine v_goto g 108 dX8_isAbove_104 (by decide) ?_
                            refine v_istore g [(6, .int (nI p2)), (5, .int (nI (9 - i - 1))), (0, .ref a0), (1, .long (lN p1)), (3, .int (nI p2)), (4, .int (nI 2))] dX8_isAbove_108 (by decide) rfl ?_
                            have hd : duF p2 4 (9 - i - 1) = p2 := by unfold duF; rw [if_pos h14]
                            have hbk := hw1 (9 - i - 1) (by omega)
                            refine v_aload_n g dX8_isAbove_110 0 rfl 2 rfl ?_
                            refine gf_X8_47 g dX8_isAbove_111 0 rfl rfl ?_
                            refine v_iload g dX8_isAbove_114 1 rfl ?_
                            refine v_ialdN g 2 rfl (by omega) (by decide) dX8_isAbove_116 ?_
                            refine v_iload g dX8_isAbove_117 0 rfl ?_
                            refine v_icmp_eqN g 140 dX8_isAbove_119 (by decide) (by omega) (by omega) (fun h17 => ?_) (fun h17 => ?_)
                            · skip
                              refine v_iinc g (v := nI (9 - i - 1) - 1) [(5, .int (nI (9 - i - 1) - 1)), (6, .int (nI p2)), (0, .ref a0), (1, .long (lN p1)), (3, .int (nI p2)), (4, .int (nI 2))] dX8_isAbove_140 1 rfl (dn_i _) (by decide) rfl ?_
                              refine v_goto g 89 dX8_isAbove_143 (by decide) ?_
                              refine v_lpick [0, 2, 3, 4, 5] [(5, .int (nI (9 - i - 1) - 1)), (0, .ref a0), (1, .long (lN p1)), (3, .int (nI p2)), (4, .int (nI 2))] rfl ?_
                              rw [show 9 - i - 1 = 9 - (i + 1) by omega]
                              exact ix  (fun j g1 g2 => by
                                    by_cases e : j = (9 - i - 1)
                                    · rw [e, hd]; exact h17
                                    · exact hx0 j (by omega) g2)
                            · skip
                              refine v_aload_n g dX8_isAbove_122 0 rfl 2 rfl ?_
                              refine gf_X8_47 g dX8_isAbove_123 0 rfl rfl ?_
                              refine v_iload g dX8_isAbove_126 1 rfl ?_
                              refine v_ialdN g 2 rfl (by omega) (by decide) dX8_isAbove_128 ?_
                              refine v_iload g dX8_isAbove_129 0 rfl ?_
                              refine v_icmp_leN g 138 dX8_isAbove_131 (by decide) (by omega) (by omega) (fun h18 => ?_) (fun h18 => ?_)
                              · skip
                                refine v_iconst g dX8_isAbove_138 (v := nI 0) (by decide +kernel) ?_
                                exact v_zret g R dX8_isAbove_139 (by decide +kernel) (by decide) (by decide) ⟨ra, pb, wb, (by rw [if_neg]; rw [← hdu, ← hw0]; exact Nat.not_lt.mpr (Nat.le_of_lt (pv_lex (k := (9 - i - 1)) (by omega) hw1 (fun j g1 g2 => (hx0 j (by omega) g2).symm) (by rw [hd]; omega)))), rfl⟩
                              · skip
                                refine v_iconst g dX8_isAbove_134 (v := nI 1) (by decide +kernel) ?_
                                refine v_goto g 139 dX8_isAbove_135 (by decide) ?_
                                exact v_zret g R dX8_isAbove_139 (by decide +kernel) (by decide) (by decide) ⟨ra, pb, wb, (by rw [if_pos]; rw [← hdu, ← hw0]; exact pv_lex (k := (9 - i - 1)) (by omega) hd16 (fun j g1 g2 => hx0 j (by omega) g2) (by rw [hd]; omega)), rfl⟩
                      · skip
                        intro  hx0
                        refine v_iload g dX8_isAbove_89 0 rfl ?_
                        refine v_if_ltD g 146 dX8_isAbove_91 (by decide) (by omega) (fun h19 => ?_) (fun h19 => ?_)
                        · skip
                          refine v_iconst g dX8_isAbove_146 (v := nI 0) (by decide +kernel) ?_
                          exact v_zret g R dX8_isAbove_147 (by decide +kernel) (by decide) (by decide) ⟨ra, pb, wb, (by rw [if_neg]; rw [← hdu, ← hw0, pv_congr 9 (fun j hj => hx0 j (by omega) hj)]; exact Nat.lt_irrefl _), rfl⟩
                        · skip
                          exact absurd h19 (by omega)
                    exact L89_12 0 (by omega)  (fun j g1 g2 => absurd g1 (by omega))
                  · skip
                    exact absurd h12 (by omega)
              exact L68_9 0 (by omega) t6 t_a0_w (hp1.trans (Nat.pow_zero _).symm) hp2
            · skip
              exact absurd h9 (by omega)
        exact L34_6 0 (by omega) t_a0_root (fun j hj => absurd hj (by omega))
      · skip
        exact absurd h5 (by omega)
  exact L3_0 0 (by omega) t_a0_power (fun j hj => absurd hj (by omega))
set_option maxHeartbeats 4000000 in
set_option maxRecDepth 100000 in
theorem c_R_above3 (l : Launch) (D : va_G) (a0 : Nat) (p1 : Nat) (p2 : Nat) (v_a0_thrown : Nat) (a0_tape : Nat) (v_a0_taped : Nat) (a0_out : Nat) (v_a0_outs : Nat) (a0_slots : Nat) (a0_kept : Nat) (a0_phase : Nat) (a0_secret : Nat) (a0_key : Nat) (a0_hide : Nat) (a0_iv : Nat) (a0_begin : Nat) (a0_each : Nat) (a0_root : Nat) (a0_power : Nat) (a0_work : Nat) (a0_w : Nat) (a0_h : Nat) (a0_state : Nat) (a0_sum : Nat) (a0_pad : Nat) (a0_text : Nat) (v_a0_texts : Nat) (a0_info : Nat) (v_a0_infos : Nat) (a0_made : Nat) (a0_blockKey : Nat) (a0_nonce : Nat) (a0_x : Nat) (a0_first : Nat) (a0_block : Nat) (a0_a : Nat) (a0_r : Nat) (a0_product : Nat) (a0_tag : Nat) (a0_sealed : Nat) (t_a0_root : Nat → Nat) (t_a0_power : Nat → Nat) (t_a0_w : Nat → Nat)  (h1 : p1 < 2 ^ 36) (h2 : p2 < 2 ^ 16) : vM l D yX8_isAbove cX8_isAbove 7 (some .boolean) { frames := 1, cells := 0, slots := 0, locals := 24 } [.ref a0, .long (lN p1), .int (nI p2), .int (nI 3)] [(a0, .inr (8, [.int (nI v_a0_thrown), .ref a0_tape, .int (nI v_a0_taped), .ref a0_out, .int (nI v_a0_outs), .ref a0_slots, .ref a0_kept, .ref a0_phase, .ref a0_secret, .ref a0_key, .ref a0_hide, .ref a0_iv, .ref a0_begin, .ref a0_each, .ref a0_root, .ref a0_power, .ref a0_work, .ref a0_w, .ref a0_h, .ref a0_state, .ref a0_sum, .ref a0_pad, .ref a0_text, .int (nI v_a0_texts), .ref a0_info, .int (nI v_a0_infos), .ref a0_made, .ref a0_blockKey, .ref a0_nonce, .ref a0_x, .ref a0_first, .ref a0_block, .ref a0_a, .ref a0_r, .ref a0_product, .ref a0_tag, .ref a0_sealed])), (a0_root, aN D 3 t_a0_root), (a0_power, aN D 9 t_a0_power), (a0_w, aL D 64 t_a0_w)] (fun r wo => ∃ (tr : Nat → Nat) (tp : Nat → Nat) (tw : Nat → Nat), r = some (.int (nI (if p2 * 65536 ^ 6 < p1 ^ 3 then 1 else 0))) ∧ wo = [(a0, .inr (8, [.int (nI v_a0_thrown), .ref a0_tape, .int (nI v_a0_taped), .ref a0_out, .int (nI v_a0_outs), .ref a0_slots, .ref a0_kept, .ref a0_phase, .ref a0_secret, .ref a0_key, .ref a0_hide, .ref a0_iv, .ref a0_begin, .ref a0_each, .ref a0_root, .ref a0_power, .ref a0_work, .ref a0_w, .ref a0_h, .ref a0_state, .ref a0_sum, .ref a0_pad, .ref a0_text, .int (nI v_a0_texts), .ref a0_info, .int (nI v_a0_infos), .ref a0_made, .ref a0_blockKey, .ref a0_nonce, .ref a0_x, .ref a0_first, .ref a0_block, .ref a0_a, .ref a0_r, .ref a0_product, .ref a0_tag, .ref a0_sealed])), (a0_root, aN D 3 tr), (a0_power, aN D 9 tp), (a0_w, aL D 64 tw)]) := by
  refine vM.of (by decide) (Nat.le_of_ble_eq_true rfl) (fun C hCl hCD g R => ?_)
  subst hCl; subst hCD
  show VJ C 0 0 0 [(0, .ref a0), (1, .long (lN p1)), (3, .int (nI p2)), (4, .int (nI 3))] [] [(a0, .inr (8, [.int (nI v_a0_thrown), .ref a0_tape, .int (nI v_a0_taped), .ref a0_out, .int (nI v_a0_outs), .ref a0_slots, .ref a0_kept, .ref a0_phase, .ref a0_secret, .ref a0_key, .ref a0_hide, .ref a0_iv, .ref a0_begin, .ref a0_each, .ref a0_root, .ref a0_power, .ref a0_work, .ref a0_w, .ref a0_h, .ref a0_state, .ref a0_sum, .ref a0_pad, .ref a0_text, .int (nI v_a0_texts), .ref a0_info, .int (nI v_a0_infos), .ref a0_made, .ref a0_blockKey, .ref a0_nonce, .ref a0_x, .ref a0_first, .ref a0_block, .ref a0_a, .ref a0_r, .ref a0_product, .ref a0_tag, .ref a0_sealed])), (a0_root, aN C.D 3 t_a0_root), (a0_power, aN C.D 9 t_a0_power), (a0_w, aL C.D 64 t_a0_w)]
  refine v_iconst g dX8_isAbove_0 (v := nI 0) (by decide +kernel) ?_
  refine v_istore g [(5, .int (nI 0)), (0, .ref a0), (1, .long (lN p1)), (3, .int (nI p2)), (4, .int (nI 3))] dX8_isAbove_1 (by decide) rfl ?_
  have L3_0 : ∀ k : Nat, k ≤ 9 → ∀ (pz : Nat → Nat), (∀ j, j < k → pz j = 0) → VJ C 0 0 3 [(5, .int (nI k)), (0, .ref a0), (1, .long (lN p1)), (3, .int (nI p2)), (4, .int (nI 3))] [] [(a0, .inr (8, [.int (nI v_a0_thrown), .ref a0_tape, .int (nI v_a0_taped), .ref a0_out, .int (nI v_a0_outs), .ref a0_slots, .ref a0_kept, .ref a0_phase, .ref a0_secret, .ref a0_key, .ref a0_hide, .ref a0_iv, .ref a0_begin, .ref a0_each, .ref a0_root, .ref a0_power, .ref a0_work, .ref a0_w, .ref a0_h, .ref a0_state, .ref a0_sum, .ref a0_pad, .ref a0_text, .int (nI v_a0_texts), .ref a0_info, .int (nI v_a0_infos), .ref a0_made, .ref a0_blockKey, .ref a0_nonce, .ref a0_x, .ref a0_first, .ref a0_block, .ref a0_a, .ref a0_r, .ref a0_product, .ref a0_tag, .ref a0_sealed])), (a0_root, aN C.D 3 t_a0_root), (a0_power, aN C.D 9 pz), (a0_w, aL C.D 64 t_a0_w)] := by
    refine v_for (9) ?_ ?_
    · skip
      intro k hik ih pz hv0
      refine v_iload g dX8_isAbove_3 0 rfl ?_
      refine v_bipush g dX8_isAbove_5 (v := nI 9) (by decide +kernel) ?_
      refine v_icmp_geN g 24 dX8_isAbove_7 (by decide) (by omega) (by omega) (fun h3 => ?_) (fun h3 => ?_)
      · skip
        exact absurd h3 (by omega)
      · skip
        refine v_aload_n g dX8_isAbove_10 0 rfl 1 rfl ?_
        refine gf_X8_47 g dX8_isAbove_11 0 rfl rfl ?_
        refine v_iload g dX8_isAbove_14 0 rfl ?_
        refine v_iconst g dX8_isAbove_16 (v := nI 0) (by decide +kernel) ?_
        obtain ⟨t4, ht4⟩ : ∃ z : Nat → Nat, z = va_up pz k 0 := ⟨_, rfl⟩
        refine v_iastN g (0) rfl t4 ht4 2 [(a0, .inr (8, [.int (nI v_a0_thrown), .ref a0_tape, .int (nI v_a0_taped), .ref a0_out, .int (nI v_a0_outs), .ref a0_slots, .ref a0_kept, .ref a0_phase, .ref a0_secret, .ref a0_key, .ref a0_hide, .ref a0_iv, .ref a0_begin, .ref a0_each, .ref a0_root, .ref a0_power, .ref a0_work, .ref a0_w, .ref a0_h, .ref a0_state, .ref a0_sum, .ref a0_pad, .ref a0_text, .int (nI v_a0_texts), .ref a0_info, .int (nI v_a0_infos), .ref a0_made, .ref a0_blockKey, .ref a0_nonce, .ref a0_x, .ref a0_first, .ref a0_block, .ref a0_a, .ref a0_r, .ref a0_product, .ref a0_tag, .ref a0_sealed])), (a0_root, aN C.D 3 t_a0_root), (a0_power, aN C.D 9 t4), (a0_w, aL C.D 64 t_a0_w)] rfl (by omega) (by decide) dX8_isAbove_17 rfl ?_
        refine v_iincN g 1 [(5, .int (nI (k + 1))), (0, .ref a0), (1, .long (lN p1)), (3, .int (nI p2)), (4, .int (nI 3))] dX8_isAbove_18 0 rfl (by decide +kernel) (by decide) rfl ?_
        refine v_goto g 3 dX8_isAbove_21 (by decide) ?_
        exact ih t4 (up_lt (m := k) (F := fun _ => 0) hv0 rfl ht4)
    · skip
      intro pz hv0
      refine v_iload g dX8_isAbove_3 0 rfl ?_
      refine v_bipush g dX8_isAbove_5 (v := nI 9) (by decide +kernel) ?_
      refine v_icmp_geN g 24 dX8_isAbove_7 (by decide) (by omega) (by omega) (fun h5 => ?_) (fun h5 => ?_)
      · skip
        have hz := hv0
        refine v_aload_n g dX8_isAbove_24 0 rfl 1 rfl ?_
        refine gf_X8_47 g dX8_isAbove_25 0 rfl rfl ?_
        refine v_iconst g dX8_isAbove_28 (v := nI 0) (by decide +kernel) ?_
        refine v_iconst g dX8_isAbove_29 (v := nI 1) (by decide +kernel) ?_
        obtain ⟨t6, ht6⟩ : ∃ z : Nat → Nat, z = va_up pz 0 1 := ⟨_, rfl⟩
        refine v_iastN g (1) rfl t6 ht6 2 [(a0, .inr (8, [.int (nI v_a0_thrown), .ref a0_tape, .int (nI v_a0_taped), .ref a0_out, .int (nI v_a0_outs), .ref a0_slots, .ref a0_kept, .ref a0_phase, .ref a0_secret, .ref a0_key, .ref a0_hide, .ref a0_iv, .ref a0_begin, .ref a0_each, .ref a0_root, .ref a0_power, .ref a0_work, .ref a0_w, .ref a0_h, .ref a0_state, .ref a0_sum, .ref a0_pad, .ref a0_text, .int (nI v_a0_texts), .ref a0_info, .int (nI v_a0_infos), .ref a0_made, .ref a0_blockKey, .ref a0_nonce, .ref a0_x, .ref a0_first, .ref a0_block, .ref a0_a, .ref a0_r, .ref a0_product, .ref a0_tag, .ref a0_sealed])), (a0_root, aN C.D 3 t_a0_root), (a0_power, aN C.D 9 t6), (a0_w, aL C.D 64 t_a0_w)] rfl (by decide) (by decide) dX8_isAbove_30 rfl ?_
        refine v_iconst g dX8_isAbove_31 (v := nI 0) (by decide +kernel) ?_
        refine v_istore g [(5, .int (nI 0)), (0, .ref a0), (1, .long (lN p1)), (3, .int (nI p2)), (4, .int (nI 3))] dX8_isAbove_32 (by decide) rfl ?_
        have hp1 : pvN t6 9 = 1 := by
          rw [ht6, pv_congr 9 (d := duF 1 0) (fun j hj => by unfold va_up duF; split <;> first | rfl | exact hz j hj), du_v 1 (by decide)]
        have hp2 : ∀ j, j < 9 → t6 j < 2 ^ 16 := fun j hj => by rw [ht6]; unfold va_up; split <;> first | decide | (rw [hz j hj]; decide)
        have L34_6 : ∀ k : Nat, k ≤ 3 → ∀ (ra : Nat → Nat), (∀ j, j < k → ra j = p1 / 2 ^ (16 * j) % 2 ^ 16) → VJ C 0 0 34 [(5, .int (nI k)), (0, .ref a0), (1, .long (lN p1)), (3, .int (nI p2)), (4, .int (nI 3))] [] [(a0, .inr (8, [.int (nI v_a0_thrown), .ref a0_tape, .int (nI v_a0_taped), .ref a0_out, .int (nI v_a0_outs), .ref a0_slots, .ref a0_kept, .ref a0_phase, .ref a0_secret, .ref a0_key, .ref a0_hide, .ref a0_iv, .ref a0_begin, .ref a0_each, .ref a0_root, .ref a0_power, .ref a0_work, .ref a0_w, .ref a0_h, .ref a0_state, .ref a0_sum, .ref a0_pad, .ref a0_text, .int (nI v_a0_texts), .ref a0_info, .int (nI v_a0_infos), .ref a0_made, .ref a0_blockKey, .ref a0_nonce, .ref a0_x, .ref a0_first, .ref a0_block, .ref a0_a, .ref a0_r, .ref a0_product, .ref a0_tag, .ref a0_sealed])), (a0_root, aN C.D 3 ra), (a0_power, aN C.D 9 t6), (a0_w, aL C.D 64 t_a0_w)] := by
          refine v_for (3) ?_ ?_
          · skip
            intro k hik ih ra hv0
            refine v_iload g dX8_isAbove_34 0 rfl ?_
            refine v_iconst g dX8_isAbove_36 (v := nI 3) (by decide +kernel) ?_
            refine v_icmp_geN g 65 dX8_isAbove_37 (by decide) (by omega) (by omega) (fun h7 => ?_) (fun h7 => ?_)
            · skip
              exact absurd h7 (by omega)
            · skip
              refine v_aload_n g dX8_isAbove_40 0 rfl 1 rfl ?_
              refine gf_X8_44 g dX8_isAbove_41 0 rfl rfl ?_
              refine v_iload g dX8_isAbove_44 0 rfl ?_
              refine v_lload_n g dX8_isAbove_46 1 rfl 2 rfl ?_
              refine v_bipush g dX8_isAbove_47 (v := nI 16) (by decide +kernel) ?_
              refine v_iload g dX8_isAbove_49 0 rfl ?_
              refine v_imulN g dX8_isAbove_51 ?_
              refine v_lshrN g (by omega) (by omega) dX8_isAbove_52 ?_
              refine v_ldc2 g dX8_isAbove_53 kl_X8_125 ?_
              refine v_landM g 16 (by decide) dX8_isAbove_56 ?_
              refine v_l2iN g dX8_isAbove_57 ?_
              obtain ⟨t8, ht8⟩ : ∃ z : Nat → Nat, z = va_up ra k ((p1 / 2 ^ (16 * k)) % 2 ^ 16) := ⟨_, rfl⟩
              refine v_iastN g ((p1 / 2 ^ (16 * k)) % 2 ^ 16) rfl t8 ht8 1 [(a0, .inr (8, [.int (nI v_a0_thrown), .ref a0_tape, .int (nI v_a0_taped), .ref a0_out, .int (nI v_a0_outs), .ref a0_slots, .ref a0_kept, .ref a0_phase, .ref a0_secret, .ref a0_key, .ref a0_hide, .ref a0_iv, .ref a0_begin, .ref a0_each, .ref a0_root, .ref a0_power, .ref a0_work, .ref a0_w, .ref a0_h, .ref a0_state, .ref a0_sum, .ref a0_pad, .ref a0_text, .int (nI v_a0_texts), .ref a0_info, .int (nI v_a0_infos), .ref a0_made, .ref a0_blockKey, .ref a0_nonce, .ref a0_x, .ref a0_first, .ref a0_block, .ref a0_a, .ref a0_r, .ref a0_product, .ref a0_tag, .ref a0_sealed])), (a0_root, aN C.D 3 t8), (a0_power, aN C.D 9 t6), (a0_w, aL C.D 64 t_a0_w)] rfl (by omega) (by decide) dX8_isAbove_58 rfl ?_
              refine v_iincN g 1 [(5, .int (nI (k + 1))), (0, .ref a0), (1, .long (lN p1)), (3, .int (nI p2)), (4, .int (nI 3))] dX8_isAbove_59 0 rfl (by decide +kernel) (by decide) rfl ?_
              refine v_goto g 34 dX8_isAbove_62 (by decide) ?_
              exact ih t8 (up_lt (m := k) (F := fun j => p1 / 2 ^ (16 * j) % 2 ^ 16) hv0 rfl ht8)
          · skip
            intro ra hv0
            refine v_iload g dX8_isAbove_34 0 rfl ?_
            refine v_iconst g dX8_isAbove_36 (v := nI 3) (by decide +kernel) ?_
            refine v_icmp_geN g 65 dX8_isAbove_37 (by decide) (by omega) (by omega) (fun h9 => ?_) (fun h9 => ?_)
            · skip
              have hra := ra_v h1 hv0
              refine v_iconst g dX8_isAbove_65 (v := nI 0) (by decide +kernel) ?_
              refine v_istore g [(5, .int (nI 0)), (0, .ref a0), (1, .long (lN p1)), (3, .int (nI p2)), (4, .int (nI 3))] dX8_isAbove_66 (by decide) rfl ?_
              have L68_9 : ∀ k : Nat, k ≤ 3 → ∀ (pb : Nat → Nat) (wb : Nat → Nat), (pvN pb 9 = p1 ^ k) → (∀ j, j < 9 → pb j < 2 ^ 16) → VJ C 0 0 68 [(5, .int (nI k)), (0, .ref a0), (1, .long (lN p1)), (3, .int (nI p2)), (4, .int (nI 3))] [] [(a0, .inr (8, [.int (nI v_a0_thrown), .ref a0_tape, .int (nI v_a0_taped), .ref a0_out, .int (nI v_a0_outs), .ref a0_slots, .ref a0_kept, .ref a0_phase, .ref a0_secret, .ref a0_key, .ref a0_hide, .ref a0_iv, .ref a0_begin, .ref a0_each, .ref a0_root, .ref a0_power, .ref a0_work, .ref a0_w, .ref a0_h, .ref a0_state, .ref a0_sum, .ref a0_pad, .ref a0_text, .int (nI v_a0_texts), .ref a0_info, .int (nI v_a0_infos), .ref a0_made, .ref a0_blockKey, .ref a0_nonce, .ref a0_x, .ref a0_first, .ref a0_block, .ref a0_a, .ref a0_r, .ref a0_product, .ref a0_tag, .ref a0_sealed])), (a0_root, aN C.D 3 ra), (a0_power, aN C.D 9 pb), (a0_w, aL C.D 64 wb)] := by
                refine v_for (3) ?_ ?_
                · skip
                  intro k hik ik pb wb hw0 hw1
                  refine v_iload g dX8_isAbove_68 0 rfl ?_
                  refine v_iload g dX8_isAbove_70 4 rfl ?_
                  refine v_icmp_geN g 85 dX8_isAbove_72 (by decide) (by omega) (by omega) (fun h10 => ?_) (fun h10 => ?_)
                  · skip
                    exact absurd h10 (by omega)
                  · skip
                    refine v_aload_n g dX8_isAbove_75 0 rfl 1 rfl ?_
                    refine v_callV (As := []) (rest := []) (wr := []) cw_X8_127 (hy_X8_times) g (c_R_times C.l C.D a0 v_a0_thrown a0_tape v_a0_taped a0_out v_a0_outs a0_slots a0_kept a0_phase a0_secret a0_key a0_hide a0_iv a0_begin a0_each a0_root a0_power a0_work a0_w a0_h a0_state a0_sum a0_pad a0_text v_a0_texts a0_info v_a0_infos a0_made a0_blockKey a0_nonce a0_x a0_first a0_block a0_a a0_r a0_product a0_tag a0_sealed ra pb wb hw1 hra.2) dX8_isAbove_76 0 rfl rfl rfl (by decide) (by decide) (Nat.le_of_ble_eq_true rfl) [0, 1, 2, 3] [] rfl rfl (by decide) rfl (by decide) (by decide) _ rfl (fun r wo hp11 => ?_)
                    obtain ⟨tp, tw, rfl, rfl, ht1, ht2⟩ := hp11
                    show VJ C 0 0 79 [(5, .int (nI k)), (0, .ref a0), (1, .long (lN p1)), (3, .int (nI p2)), (4, .int (nI 3))] [] [(a0, .inr (8, [.int (nI v_a0_thrown), .ref a0_tape, .int (nI v_a0_taped), .ref a0_out, .int (nI v_a0_outs), .ref a0_slots, .ref a0_kept, .ref a0_phase, .ref a0_secret, .ref a0_key, .ref a0_hide, .ref a0_iv, .ref a0_begin, .ref a0_each, .ref a0_root, .ref a0_power, .ref a0_work, .ref a0_w, .ref a0_h, .ref a0_state, .ref a0_sum, .ref a0_pad, .ref a0_text, .int (nI v_a0_texts), .ref a0_info, .int (nI v_a0_infos), .ref a0_made, .ref a0_blockKey, .ref a0_nonce, .ref a0_x, .ref a0_first, .ref a0_block, .ref a0_a, .ref a0_r, .ref a0_product, .ref a0_tag, .ref a0_sealed])), (a0_root, aN C.D 3 ra), (a0_power, aN C.D 9 tp), (a0_w, aL C.D 64 tw)]
                    refine v_iincN g 1 [(5, .int (nI (k + 1))), (0, .ref a0), (1, .long (lN p1)), (3, .int (nI p2)), (4, .int (nI 3))] dX8_isAbove_79 0 rfl (by decide +kernel) (by decide) rfl ?_
                    refine v_goto g 68 dX8_isAbove_82 (by decide) ?_
                    exact ik tp tw (by
                          rw [ht2, hw0, hra.1, ← Nat.pow_succ]
                          exact Nat.mod_eq_of_lt (Nat.lt_of_le_of_lt (Nat.pow_le_pow_left (Nat.le_of_lt h1) (k + 1)) (Nat.lt_of_le_of_lt (Nat.pow_le_pow_right (by decide) (show k + 1 ≤ 3 by omega)) (by decide +kernel)))) ht1
                · skip
                  intro pb wb hw0 hw1
                  refine v_iload g dX8_isAbove_68 0 rfl ?_
                  refine v_iload g dX8_isAbove_70 4 rfl ?_
                  refine v_icmp_geN g 85 dX8_isAbove_72 (by decide) (by omega) (by omega) (fun h12 => ?_) (fun h12 => ?_)
                  · skip
                    have hdu := du_v p2 (e := 6) (by decide)
                    have hd16 : ∀ j, j < 9 → duF p2 6 j < 2 ^ 16 := fun j _ => by unfold duF; split <;> omega
                    refine v_bipush g dX8_isAbove_85 (v := nI 8) (by decide +kernel) ?_
                    refine v_toi (nI (9 - 0) - 1) (by decide +kernel) ?_
                    refine v_istore g [(5, .int (nI (9 - 0) - 1)), (0, .ref a0), (1, .long (lN p1)), (3, .int (nI p2)), (4, .int (nI 3))] dX8_isAbove_87 (by decide) rfl ?_
                    have L89_12 : ∀ i : Nat, i ≤ 9 → (∀ j, 9 - i ≤ j → j < 9 → pb j = duF p2 6 j) → VJ C 0 0 89 [(5, .int (nI (9 - i) - 1)), (0, .ref a0), (1, .long (lN p1)), (3, .int (nI p2)), (4, .int (nI 3))] [] [(a0, .inr (8, [.int (nI v_a0_thrown), .ref a0_tape, .int (nI v_a0_taped), .ref a0_out, .int (nI v_a0_outs), .ref a0_slots, .ref a0_kept, .ref a0_phase, .ref a0_secret, .ref a0_key, .ref a0_hide, .ref a0_iv, .ref a0_begin, .ref a0_each, .ref a0_root, .ref a0_power, .ref a0_work, .ref a0_w, .ref a0_h, .ref a0_state, .ref a0_sum, .ref a0_pad, .ref a0_text, .int (nI v_a0_texts), .ref a0_info, .int (nI v_a0_infos), .ref a0_made, .ref a0_blockKey, .ref a0_nonce, .ref a0_x, .ref a0_first, .ref a0_block, .ref a0_a, .ref a0_r, .ref a0_product, .ref a0_tag, .ref a0_sealed])), (a0_root, aN C.D 3 ra), (a0_power, aN C.D 9 pb), (a0_w, aL C.D 64 wb)] := by
                      refine v_for (9) ?_ ?_
                      · skip
                        intro i hii ix  hx0
                        refine v_iload g dX8_isAbove_89 0 rfl ?_
                        refine v_if_ltD g 146 dX8_isAbove_91 (by decide) (by omega) (fun h13 => ?_) (fun h13 => ?_)
                        · skip
                          exact absurd h13 (by omega)
                        · skip
                          rw [dn_eq (e := 9 - i) (by omega)]
                          refine v_iload g dX8_isAbove_94 0 rfl ?_
                          refine v_iconst g dX8_isAbove_96 (v := nI 2) (by decide +kernel) ?_
                          refine v_iload g dX8_isAbove_97 4 rfl ?_
                          refine v_imulN g dX8_isAbove_99 ?_
                          refine v_toi (nI 6) rfl ?_
                          refine v_icmp_neN g 107 dX8_isAbove_100 (by decide) (by omega) (by omega) (fun h14 => ?_) (fun h14 => ?_)
                          · skip
                            refine v_iconst g dX8_isAbove_107 (v := nI 0) (by decide +kernel) ?_
                            refine v_istore g [(6, .int (nI 0)), (5, .int (nI (9 - i - 1))), (0, .ref a0), (1, .long (lN p1)), (3, .int (nI p2)), (4, .int (nI 3))] dX8_isAbove_108 (by decide) rfl ?_
                            have hd : duF p2 6 (9 - i - 1) = 0 := by unfold duF; rw [if_neg h14]
                            have hbk := hw1 (9 - i - 1) (by omega)
                            refine v_aload_n g dX8_isAbove_110 0 rfl 2 rfl ?_
                            refine gf_X8_47 g dX8_isAbove_111 0 rfl rfl ?_
                            refine v_iload g dX8_isAbove_114 1 rfl ?_
                            refine v_ialdN g 2 rfl (by omega) (by decide) dX8_isAbove_116 ?_
                            refine v_iload g dX8_isAbove_117 0 rfl ?_
                            refine v_icmp_eqN g 140 dX8_isAbove_119 (by decide) (by omega) (by omega) (fun h15 => ?_) (fun h15 => ?_)
                            · skip
                              refine v_iinc g (v := nI (9 - i - 1) - 1) [(5, .int (nI (9 - i - 1) - 1)), (6, .int (nI 0)), (0, .ref a0), (1, .long (lN p1)), (3, .int (nI p2)), (4, .int (nI 3))] dX8_isAbove_140 1 rfl (dn_i _) (by decide) rfl ?_
                              refine v_goto g 89 dX8_isAbove_143 (by decide) ?_
                              refine v_lpick [0, 2, 3, 4, 5] [(5, .int (nI (9 - i - 1) - 1)), (0, .ref a0), (1, .long (lN p1)), (3, .int (nI p2)), (4, .int (nI 3))] rfl ?_
                              rw [show 9 - i - 1 = 9 - (i + 1) by omega]
                              exact ix  (fun j g1 g2 => by
                                    by_cases e : j = (9 - i - 1)
                                    · rw [e, hd]; exact h15
                                    · exact hx0 j (by omega) g2)
                            · skip
                              refine v_aload_n g dX8_isAbove_122 0 rfl 2 rfl ?_
                              refine gf_X8_47 g dX8_isAbove_123 0 rfl rfl ?_
                              refine v_iload g dX8_isAbove_126 1 rfl ?_
                              refine v_ialdN g 2 rfl (by omega) (by decide) dX8_isAbove_128 ?_
                              refine v_iload g dX8_isAbove_129 0 rfl ?_
                              refine v_icmp_leN g 138 dX8_isAbove_131 (by decide) (by omega) (by omega) (fun h16 => ?_) (fun h16 => ?_)
                              · skip
                                refine v_iconst g dX8_isAbove_138 (v := nI 0) (by decide +kernel) ?_
                                exact v_zret g R dX8_isAbove_139 (by decide +kernel) (by decide) (by decide) ⟨ra, pb, wb, (by rw [if_neg]; rw [← hdu, ← hw0]; exact Nat.not_lt.mpr (Nat.le_of_lt (pv_lex (k := (9 - i - 1)) (by omega) hw1 (fun j g1 g2 => (hx0 j (by omega) g2).symm) (by rw [hd]; omega)))), rfl⟩
                              · skip
                                refine v_iconst g dX8_isAbove_134 (v := nI 1) (by decide +kernel) ?_
                                refine v_goto g 139 dX8_isAbove_135 (by decide) ?_
                                exact v_zret g R dX8_isAbove_139 (by decide +kernel) (by decide) (by decide) ⟨ra, pb, wb, (by rw [if_pos]; rw [← hdu, ← hw0]; exact pv_lex (k := (9 - i - 1)) (by omega) hd16 (fun j g1 g2 => hx0 j (by omega) g2) (by rw [hd]; omega)), rfl⟩
                          · skip
                            refine v_iload_n g dX8_isAbove_103 3 rfl 3 rfl ?_
                            refine v_goto g 108 dX8_isAbove_104 (by decide) ?_
                            refine v_istore g [(6, .int (nI p2)), (5, .int (nI (9 - i - 1))), (0, .ref a0), (1, .long (lN p1)), (3, .int (nI p2)), (4, .int (nI 3))] dX8_isAbove_108 (by decide) rfl ?_
                            have hd : duF p2 6 (9 - i - 1) = p2 := by unfold duF; rw [if_pos h14]
                            have hbk := hw1 (9 - i - 1) (by omega)
                            refine v_aload_n g dX8_isAbove_110 0 rfl 2 rfl ?_
                            refine gf_X8_47 g dX8_isAbove_111 0 rfl rfl ?_
                            refine v_iload g dX8_isAbove_114 1 rfl ?_
                            refine v_ialdN g 2 rfl (by omega) (by decide) dX8_isAbove_116 ?_
                            refine v_iload g dX8_isAbove_117 0 rfl ?_
                            refine v_icmp_eqN g 140 dX8_isAbove_119 (by decide) (by omega) (by omega) (fun h17 => ?_) (fun h17 => ?_)
                            · skip
                              refine v_iinc g (v := nI (9 - i - 1) - 1) [(5, .int (nI (9 - i - 1) - 1)), (6, .int (nI p2)), (0, .ref a0), (1, .long (lN p1)), (3, .int (nI p2)), (4, .int (nI 3))] dX8_isAbove_140 1 rfl (dn_i _) (by decide) rfl ?_
                              refine v_goto g 89 dX8_isAbove_143 (by decide) ?_
                              refine v_lpick [0, 2, 3, 4, 5] [(5, .int (nI (9 - i - 1) - 1)), (0, .ref a0), (1, .long (lN p1)), (3, .int (nI p2)), (4, .int (nI 3))] rfl ?_
                              rw [show 9 - i - 1 = 9 - (i + 1) by omega]
                              exact ix  (fun j g1 g2 => by
                                    by_cases e : j = (9 - i - 1)
                                    · rw [e, hd]; exact h17
                                    · exact hx0 j (by omega) g2)
                            · skip
                              refine v_aload_n g dX8_isAbove_122 0 rfl 2 rfl ?_
                              refine gf_X8_47 g dX8_isAbove_123 0 rfl rfl ?_
                              refine v_iload g dX8_isAbove_126 1 rfl ?_
                              refine v_ialdN g 2 rfl (by omega) (by decide) dX8_isAbove_128 ?_
                              refine v_iload g dX8_isAbove_129 0 rfl ?_
                              refine v_icmp_leN g 138 dX8_isAbove_131 (by decide) (by omega) (by omega) (fun h18 => ?_) (fun h18 => ?_)
                              · skip
                                refine v_iconst g dX8_isAbove_138 (v := nI 0) (by decide +kernel) ?_
                                exact v_zret g R dX8_isAbove_139 (by decide +kernel) (by decide) (by decide) ⟨ra, pb, wb, (by rw [if_neg]; rw [← hdu, ← hw0]; exact Nat.not_lt.mpr (Nat.le_of_lt (pv_lex (k := (9 - i - 1)) (by omega) hw1 (fun j g1 g2 => (hx0 j (by omega) g2).symm) (by rw [hd]; omega)))), rfl⟩
                              · skip
                                refine v_iconst g dX8_isAbove_134 (v := nI 1) (by decide +kernel) ?_
                                refine v_goto g 139 dX8_isAbove_135 (by decide) ?_
                                exact v_zret g R dX8_isAbove_139 (by decide +kernel) (by decide) (by decide) ⟨ra, pb, wb, (by rw [if_pos]; rw [← hdu, ← hw0]; exact pv_lex (k := (9 - i - 1)) (by omega) hd16 (fun j g1 g2 => hx0 j (by omega) g2) (by rw [hd]; omega)), rfl⟩
                      · skip
                        intro  hx0
                        refine v_iload g dX8_isAbove_89 0 rfl ?_
                        refine v_if_ltD g 146 dX8_isAbove_91 (by decide) (by omega) (fun h19 => ?_) (fun h19 => ?_)
                        · skip
                          refine v_iconst g dX8_isAbove_146 (v := nI 0) (by decide +kernel) ?_
                          exact v_zret g R dX8_isAbove_147 (by decide +kernel) (by decide) (by decide) ⟨ra, pb, wb, (by rw [if_neg]; rw [← hdu, ← hw0, pv_congr 9 (fun j hj => hx0 j (by omega) hj)]; exact Nat.lt_irrefl _), rfl⟩
                        · skip
                          exact absurd h19 (by omega)
                    exact L89_12 0 (by omega)  (fun j g1 g2 => absurd g1 (by omega))
                  · skip
                    exact absurd h12 (by omega)
              exact L68_9 0 (by omega) t6 t_a0_w (hp1.trans (Nat.pow_zero _).symm) hp2
            · skip
              exact absurd h9 (by omega)
        exact L34_6 0 (by omega) t_a0_root (fun j hj => absurd hj (by omega))
      · skip
        exact absurd h5 (by omega)
  exact L3_0 0 (by omega) t_a0_power (fun j hj => absurd hj (by omega))
set_option maxHeartbeats 4000000 in
set_option maxRecDepth 100000 in
theorem c_R_root2 (l : Launch) (D : va_G) (a0 : Nat) (p1 : Nat) (v_a0_thrown : Nat) (a0_tape : Nat) (v_a0_taped : Nat) (a0_out : Nat) (v_a0_outs : Nat) (a0_slots : Nat) (a0_kept : Nat) (a0_phase : Nat) (a0_secret : Nat) (a0_key : Nat) (a0_hide : Nat) (a0_iv : Nat) (a0_begin : Nat) (a0_each : Nat) (a0_root : Nat) (a0_power : Nat) (a0_work : Nat) (a0_w : Nat) (a0_h : Nat) (a0_state : Nat) (a0_sum : Nat) (a0_pad : Nat) (a0_text : Nat) (v_a0_texts : Nat) (a0_info : Nat) (v_a0_infos : Nat) (a0_made : Nat) (a0_blockKey : Nat) (a0_nonce : Nat) (a0_x : Nat) (a0_first : Nat) (a0_block : Nat) (a0_a : Nat) (a0_r : Nat) (a0_product : Nat) (a0_tag : Nat) (a0_sealed : Nat) (t_a0_root : Nat → Nat) (t_a0_power : Nat → Nat) (t_a0_w : Nat → Nat)  (h2 : p1 < 2 ^ 16) : vM l D yX8_rootOf cX8_rootOf 6 (some .long) { frames := 2, cells := 0, slots := 0, locals := 50 } [.ref a0, .int (nI p1), .int (nI 2)] [(a0, .inr (8, [.int (nI v_a0_thrown), .ref a0_tape, .int (nI v_a0_taped), .ref a0_out, .int (nI v_a0_outs), .ref a0_slots, .ref a0_kept, .ref a0_phase, .ref a0_secret, .ref a0_key, .ref a0_hide, .ref a0_iv, .ref a0_begin, .ref a0_each, .ref a0_root, .ref a0_power, .ref a0_work, .ref a0_w, .ref a0_h, .ref a0_state, .ref a0_sum, .ref a0_pad, .ref a0_text, .int (nI v_a0_texts), .ref a0_info, .int (nI v_a0_infos), .ref a0_made, .ref a0_blockKey, .ref a0_nonce, .ref a0_x, .ref a0_first, .ref a0_block, .ref a0_a, .ref a0_r, .ref a0_product, .ref a0_tag, .ref a0_sealed])), (a0_root, aN D 3 t_a0_root), (a0_power, aN D 9 t_a0_power), (a0_w, aL D 64 t_a0_w)] (fun r wo => ∃ (tr : Nat → Nat) (tp : Nat → Nat) (tw : Nat → Nat), r = some (.long (lN (rtF p1 2 36 % 2 ^ 32))) ∧ wo = [(a0, .inr (8, [.int (nI v_a0_thrown), .ref a0_tape, .int (nI v_a0_taped), .ref a0_out, .int (nI v_a0_outs), .ref a0_slots, .ref a0_kept, .ref a0_phase, .ref a0_secret, .ref a0_key, .ref a0_hide, .ref a0_iv, .ref a0_begin, .ref a0_each, .ref a0_root, .ref a0_power, .ref a0_work, .ref a0_w, .ref a0_h, .ref a0_state, .ref a0_sum, .ref a0_pad, .ref a0_text, .int (nI v_a0_texts), .ref a0_info, .int (nI v_a0_infos), .ref a0_made, .ref a0_blockKey, .ref a0_nonce, .ref a0_x, .ref a0_first, .ref a0_block, .ref a0_a, .ref a0_r, .ref a0_product, .ref a0_tag, .ref a0_sealed])), (a0_root, aN D 3 tr), (a0_power, aN D 9 tp), (a0_w, aL D 64 tw)]) := by
  refine vM.of (by decide) (Nat.le_of_ble_eq_true rfl) (fun C hCl hCD g R => ?_)
  subst hCl; subst hCD
  show VJ C 0 0 0 [(0, .ref a0), (1, .int (nI p1)), (2, .int (nI 2))] [] [(a0, .inr (8, [.int (nI v_a0_thrown), .ref a0_tape, .int (nI v_a0_taped), .ref a0_out, .int (nI v_a0_outs), .ref a0_slots, .ref a0_kept, .ref a0_phase, .ref a0_secret, .ref a0_key, .ref a0_hide, .ref a0_iv, .ref a0_begin, .ref a0_each, .ref a0_root, .ref a0_power, .ref a0_work, .ref a0_w, .ref a0_h, .ref a0_state, .ref a0_sum, .ref a0_pad, .ref a0_text, .int (nI v_a0_texts), .ref a0_info, .int (nI v_a0_infos), .ref a0_made, .ref a0_blockKey, .ref a0_nonce, .ref a0_x, .ref a0_first, .ref a0_block, .ref a0_a, .ref a0_r, .ref a0_product, .ref a0_tag, .ref a0_sealed])), (a0_root, aN C.D 3 t_a0_root), (a0_power, aN C.D 9 t_a0_power), (a0_w, aL C.D 64 t_a0_w)]
  refine v_lconst g dX8_rootOf_0 (v := lN 0) (by decide +kernel) ?_
  refine v_lstore_n g [(3, .long (lN 0)), (0, .ref a0), (1, .int (nI p1)), (2, .int (nI 2))] dX8_rootOf_1 3 rfl (by decide) rfl ?_
  refine v_bipush g dX8_rootOf_2 (v := nI 35) (by decide +kernel) ?_
  refine v_toi (nI (36 - 0) - 1) (by decide +kernel) ?_
  refine v_istore g [(5, .int (nI (36 - 0) - 1)), (3, .long (lN 0)), (0, .ref a0), (1, .int (nI p1)), (2, .int (nI 2))] dX8_rootOf_4 (by decide) rfl ?_
  have L6_0 : ∀ i : Nat, i ≤ 36 → ∀ (vv : Nat) (tr : Nat → Nat) (tp : Nat → Nat) (tw : Nat → Nat), (vv = rtF p1 2 i) → VJ C 0 0 6 [(5, .int (nI (36 - i) - 1)), (3, .long (lN vv)), (0, .ref a0), (1, .int (nI p1)), (2, .int (nI 2))] [] [(a0, .inr (8, [.int (nI v_a0_thrown), .ref a0_tape, .int (nI v_a0_taped), .ref a0_out, .int (nI v_a0_outs), .ref a0_slots, .ref a0_kept, .ref a0_phase, .ref a0_secret, .ref a0_key, .ref a0_hide, .ref a0_iv, .ref a0_begin, .ref a0_each, .ref a0_root, .ref a0_power, .ref a0_work, .ref a0_w, .ref a0_h, .ref a0_state, .ref a0_sum, .ref a0_pad, .ref a0_text, .int (nI v_a0_texts), .ref a0_info, .int (nI v_a0_infos), .ref a0_made, .ref a0_blockKey, .ref a0_nonce, .ref a0_x, .ref a0_first, .ref a0_block, .ref a0_a, .ref a0_r, .ref a0_product, .ref a0_tag, .ref a0_sealed])), (a0_root, aN C.D 3 tr), (a0_power, aN C.D 9 tp), (a0_w, aL C.D 64 tw)] := by
    refine v_for (36) ?_ ?_
    · skip
      intro i hii ih vv tr tp tw hv0
      refine v_iload g dX8_rootOf_6 0 rfl ?_
      refine v_if_ltD g 41 dX8_rootOf_8 (by decide) (by omega) (fun h1 => ?_) (fun h1 => ?_)
      · skip
        exact absurd h1 (by omega)
      · skip
        rw [dn_eq (e := 36 - i) (by omega)]
        subst hv0
        show VJ C 0 0 11 [(5, .int (nI (36 - i - 1))), (3, .long (lN (rtF p1 2 i))), (0, .ref a0), (1, .int (nI p1)), (2, .int (nI 2))] [] [(a0, .inr (8, [.int (nI v_a0_thrown), .ref a0_tape, .int (nI v_a0_taped), .ref a0_out, .int (nI v_a0_outs), .ref a0_slots, .ref a0_kept, .ref a0_phase, .ref a0_secret, .ref a0_key, .ref a0_hide, .ref a0_iv, .ref a0_begin, .ref a0_each, .ref a0_root, .ref a0_power, .ref a0_work, .ref a0_w, .ref a0_h, .ref a0_state, .ref a0_sum, .ref a0_pad, .ref a0_text, .int (nI v_a0_texts), .ref a0_info, .int (nI v_a0_infos), .ref a0_made, .ref a0_blockKey, .ref a0_nonce, .ref a0_x, .ref a0_first, .ref a0_block, .ref a0_a, .ref a0_r, .ref a0_product, .ref a0_tag, .ref a0_sealed])), (a0_root, aN C.D 3 tr), (a0_power, aN C.D 9 tp), (a0_w, aL C.D 64 tw)]
        have hle := rt_le p1 2 i (by omega)
        have h2e : 2 ^ (36 - i - 1) * 2 = 2 ^ (36 - i) := Nat.two_pow_pred_mul_two (by omega)
        have hpp : 0 < 2 ^ (36 - i - 1) := Nat.pow_pos (by decide)
        refine v_lload_n g dX8_rootOf_11 3 rfl 1 rfl ?_
        refine v_lconst g dX8_rootOf_12 (v := lN 1) (by decide +kernel) ?_
        refine v_iload g dX8_rootOf_13 0 rfl ?_
        refine v_lshlN g (by omega) dX8_rootOf_15 ?_
        refine v_laddN g dX8_rootOf_16 ?_
        refine v_lstore_n g [(3, .long (lN ((rtF p1 2 i) + (1 * 2 ^ (36 - i - 1))))), (5, .int (nI (36 - i - 1))), (0, .ref a0), (1, .int (nI p1)), (2, .int (nI 2))] dX8_rootOf_17 3 rfl (by decide) rfl ?_
        refine v_aload_n g dX8_rootOf_18 0 rfl 2 rfl ?_
        refine v_lload_n g dX8_rootOf_19 3 rfl 0 rfl ?_
        refine v_iload_n g dX8_rootOf_20 1 rfl 3 rfl ?_
        refine v_iload_n g dX8_rootOf_21 2 rfl 4 rfl ?_
        refine v_callV (As := [.long (lN ((rtF p1 2 i) + (1 * 2 ^ (36 - i - 1)))), .int (nI p1), .int (nI 2)]) (rest := []) (wr := []) cw_X8_119 (hy_X8_isAbove) g (c_R_above2 C.l C.D a0 ((rtF p1 2 i) + (1 * 2 ^ (36 - i - 1))) p1 v_a0_thrown a0_tape v_a0_taped a0_out v_a0_outs a0_slots a0_kept a0_phase a0_secret a0_key a0_hide a0_iv a0_begin a0_each a0_root a0_power a0_work a0_w a0_h a0_state a0_sum a0_pad a0_text v_a0_texts a0_info v_a0_infos a0_made a0_blockKey a0_nonce a0_x a0_first a0_block a0_a a0_r a0_product a0_tag a0_sealed tr tp tw (by omega) (by omega)) dX8_rootOf_22 0 rfl rfl rfl (by decide) (by decide) (Nat.le_of_ble_eq_true rfl) [0, 1, 2, 3] [] rfl rfl (by decide) rfl (by decide) (by decide) _ rfl (fun r wo hp2 => ?_)
        obtain ⟨tr, tp, tw, rfl, rfl⟩ := hp2
        show VJ C 0 0 25 [(3, .long (lN ((rtF p1 2 i) + (1 * 2 ^ (36 - i - 1))))), (5, .int (nI (36 - i - 1))), (0, .ref a0), (1, .int (nI p1)), (2, .int (nI 2))] [.int (nI (if p1 * 65536 ^ 4 < ((rtF p1 2 i) + (1 * 2 ^ (36 - i - 1))) ^ 2 then 1 else 0))] [(a0, .inr (8, [.int (nI v_a0_thrown), .ref a0_tape, .int (nI v_a0_taped), .ref a0_out, .int (nI v_a0_outs), .ref a0_slots, .ref a0_kept, .ref a0_phase, .ref a0_secret, .ref a0_key, .ref a0_hide, .ref a0_iv, .ref a0_begin, .ref a0_each, .ref a0_root, .ref a0_power, .ref a0_work, .ref a0_w, .ref a0_h, .ref a0_state, .ref a0_sum, .ref a0_pad, .ref a0_text, .int (nI v_a0_texts), .ref a0_info, .int (nI v_a0_infos), .ref a0_made, .ref a0_blockKey, .ref a0_nonce, .ref a0_x, .ref a0_first, .ref a0_block, .ref a0_a, .ref a0_r, .ref a0_product, .ref a0_tag, .ref a0_sealed])), (a0_root, aN C.D 3 tr), (a0_power, aN C.D 9 tp), (a0_w, aL C.D 64 tw)]
        have hif : (if p1 * 65536 ^ 4 < (rtF p1 2 i + 1 * 2 ^ (36 - i - 1)) ^ 2 then 1 else 0) < 2 ^ 31 := by split <;> decide
        refine v_if_eqN g 35 dX8_rootOf_25 (by decide) (by omega) (fun h3 => ?_) (fun h3 => ?_)
        · skip
          refine v_iinc g (v := nI (36 - i - 1) - 1) [(5, .int (nI (36 - i - 1) - 1)), (3, .long (lN ((rtF p1 2 i) + (1 * 2 ^ (36 - i - 1))))), (0, .ref a0), (1, .int (nI p1)), (2, .int (nI 2))] dX8_rootOf_35 1 rfl (dn_i _) (by decide) rfl ?_
          refine v_goto g 6 dX8_rootOf_38 (by decide) ?_
          rw [show 36 - i - 1 = 36 - (i + 1) by omega]
          exact ih ((rtF p1 2 i) + (1 * 2 ^ (36 - i - 1))) tr tp tw (by show _ = if p1 * 65536 ^ 4 < (rtF p1 2 i + 1 * 2 ^ (36 - i - 1)) ^ 2 then _ else _; rw [if_neg (fun q => by rw [if_pos q] at h3; exact absurd h3 (by decide))])
        · skip
          refine v_lload_n g dX8_rootOf_28 3 rfl 0 rfl ?_
          refine v_lconst g dX8_rootOf_29 (v := lN 1) (by decide +kernel) ?_
          refine v_iload g dX8_rootOf_30 1 rfl ?_
          refine v_lshlN g (by omega) dX8_rootOf_32 ?_
          refine v_lsubN g (by omega) dX8_rootOf_33 ?_
          refine v_lstore_n g [(3, .long (lN (((rtF p1 2 i) + (1 * 2 ^ (36 - i - 1))) - (1 * 2 ^ (36 - i - 1))))), (5, .int (nI (36 - i - 1))), (0, .ref a0), (1, .int (nI p1)), (2, .int (nI 2))] dX8_rootOf_34 3 rfl (by decide) rfl ?_
          refine v_iinc g (v := nI (36 - i - 1) - 1) [(5, .int (nI (36 - i - 1) - 1)), (3, .long (lN (((rtF p1 2 i) + (1 * 2 ^ (36 - i - 1))) - (1 * 2 ^ (36 - i - 1))))), (0, .ref a0), (1, .int (nI p1)), (2, .int (nI 2))] dX8_rootOf_35 1 rfl (dn_i _) (by decide) rfl ?_
          refine v_goto g 6 dX8_rootOf_38 (by decide) ?_
          rw [show 36 - i - 1 = 36 - (i + 1) by omega]
          exact ih (((rtF p1 2 i) + (1 * 2 ^ (36 - i - 1))) - (1 * 2 ^ (36 - i - 1))) tr tp tw (by show _ = if p1 * 65536 ^ 4 < (rtF p1 2 i + 1 * 2 ^ (36 - i - 1)) ^ 2 then _ else _; rw [if_pos (Decidable.byContradiction (fun q => by rw [if_neg q] at h3; exact absurd rfl h3))]; omega)
    · skip
      intro vv tr tp tw hv0
      refine v_iload g dX8_rootOf_6 0 rfl ?_
      refine v_if_ltD g 41 dX8_rootOf_8 (by decide) (by omega) (fun h4 => ?_) (fun h4 => ?_)
      · skip
        subst hv0
        show VJ C 0 0 41 [(5, .int (nI (36 - 36) - 1)), (3, .long (lN (rtF p1 2 36))), (0, .ref a0), (1, .int (nI p1)), (2, .int (nI 2))] [] [(a0, .inr (8, [.int (nI v_a0_thrown), .ref a0_tape, .int (nI v_a0_taped), .ref a0_out, .int (nI v_a0_outs), .ref a0_slots, .ref a0_kept, .ref a0_phase, .ref a0_secret, .ref a0_key, .ref a0_hide, .ref a0_iv, .ref a0_begin, .ref a0_each, .ref a0_root, .ref a0_power, .ref a0_work, .ref a0_w, .ref a0_h, .ref a0_state, .ref a0_sum, .ref a0_pad, .ref a0_text, .int (nI v_a0_texts), .ref a0_info, .int (nI v_a0_infos), .ref a0_made, .ref a0_blockKey, .ref a0_nonce, .ref a0_x, .ref a0_first, .ref a0_block, .ref a0_a, .ref a0_r, .ref a0_product, .ref a0_tag, .ref a0_sealed])), (a0_root, aN C.D 3 tr), (a0_power, aN C.D 9 tp), (a0_w, aL C.D 64 tw)]
        refine v_lload_n g dX8_rootOf_41 3 rfl 1 rfl ?_
        refine v_ldc2 g dX8_rootOf_42 kl_X8_123 ?_
        refine v_landM g 32 (by decide) dX8_rootOf_45 ?_
        exact v_lret g R dX8_rootOf_46 (by decide) (by decide) ⟨tr, tp, tw, rfl, rfl⟩
      · skip
        exact absurd h4 (by omega)
  exact L6_0 0 (by omega) 0 t_a0_root t_a0_power t_a0_w rfl
set_option maxHeartbeats 4000000 in
set_option maxRecDepth 100000 in
theorem c_R_root3 (l : Launch) (D : va_G) (a0 : Nat) (p1 : Nat) (v_a0_thrown : Nat) (a0_tape : Nat) (v_a0_taped : Nat) (a0_out : Nat) (v_a0_outs : Nat) (a0_slots : Nat) (a0_kept : Nat) (a0_phase : Nat) (a0_secret : Nat) (a0_key : Nat) (a0_hide : Nat) (a0_iv : Nat) (a0_begin : Nat) (a0_each : Nat) (a0_root : Nat) (a0_power : Nat) (a0_work : Nat) (a0_w : Nat) (a0_h : Nat) (a0_state : Nat) (a0_sum : Nat) (a0_pad : Nat) (a0_text : Nat) (v_a0_texts : Nat) (a0_info : Nat) (v_a0_infos : Nat) (a0_made : Nat) (a0_blockKey : Nat) (a0_nonce : Nat) (a0_x : Nat) (a0_first : Nat) (a0_block : Nat) (a0_a : Nat) (a0_r : Nat) (a0_product : Nat) (a0_tag : Nat) (a0_sealed : Nat) (t_a0_root : Nat → Nat) (t_a0_power : Nat → Nat) (t_a0_w : Nat → Nat)  (h2 : p1 < 2 ^ 16) : vM l D yX8_rootOf cX8_rootOf 6 (some .long) { frames := 2, cells := 0, slots := 0, locals := 50 } [.ref a0, .int (nI p1), .int (nI 3)] [(a0, .inr (8, [.int (nI v_a0_thrown), .ref a0_tape, .int (nI v_a0_taped), .ref a0_out, .int (nI v_a0_outs), .ref a0_slots, .ref a0_kept, .ref a0_phase, .ref a0_secret, .ref a0_key, .ref a0_hide, .ref a0_iv, .ref a0_begin, .ref a0_each, .ref a0_root, .ref a0_power, .ref a0_work, .ref a0_w, .ref a0_h, .ref a0_state, .ref a0_sum, .ref a0_pad, .ref a0_text, .int (nI v_a0_texts), .ref a0_info, .int (nI v_a0_infos), .ref a0_made, .ref a0_blockKey, .ref a0_nonce, .ref a0_x, .ref a0_first, .ref a0_block, .ref a0_a, .ref a0_r, .ref a0_product, .ref a0_tag, .ref a0_sealed])), (a0_root, aN D 3 t_a0_root), (a0_power, aN D 9 t_a0_power), (a0_w, aL D 64 t_a0_w)] (fun r wo => ∃ (tr : Nat → Nat) (tp : Nat → Nat) (tw : Nat → Nat), r = some (.long (lN (rtF p1 3 36 % 2 ^ 32))) ∧ wo = [(a0, .inr (8, [.int (nI v_a0_thrown), .ref a0_tape, .int (nI v_a0_taped), .ref a0_out, .int (nI v_a0_outs), .ref a0_slots, .ref a0_kept, .ref a0_phase, .ref a0_secret, .ref a0_key, .ref a0_hide, .ref a0_iv, .ref a0_begin, .ref a0_each, .ref a0_root, .ref a0_power, .ref a0_work, .ref a0_w, .ref a0_h, .ref a0_state, .ref a0_sum, .ref a0_pad, .ref a0_text, .int (nI v_a0_texts), .ref a0_info, .int (nI v_a0_infos), .ref a0_made, .ref a0_blockKey, .ref a0_nonce, .ref a0_x, .ref a0_first, .ref a0_block, .ref a0_a, .ref a0_r, .ref a0_product, .ref a0_tag, .ref a0_sealed])), (a0_root, aN D 3 tr), (a0_power, aN D 9 tp), (a0_w, aL D 64 tw)]) := by
  refine vM.of (by decide) (Nat.le_of_ble_eq_true rfl) (fun C hCl hCD g R => ?_)
  subst hCl; subst hCD
  show VJ C 0 0 0 [(0, .ref a0), (1, .int (nI p1)), (2, .int (nI 3))] [] [(a0, .inr (8, [.int (nI v_a0_thrown), .ref a0_tape, .int (nI v_a0_taped), .ref a0_out, .int (nI v_a0_outs), .ref a0_slots, .ref a0_kept, .ref a0_phase, .ref a0_secret, .ref a0_key, .ref a0_hide, .ref a0_iv, .ref a0_begin, .ref a0_each, .ref a0_root, .ref a0_power, .ref a0_work, .ref a0_w, .ref a0_h, .ref a0_state, .ref a0_sum, .ref a0_pad, .ref a0_text, .int (nI v_a0_texts), .ref a0_info, .int (nI v_a0_infos), .ref a0_made, .ref a0_blockKey, .ref a0_nonce, .ref a0_x, .ref a0_first, .ref a0_block, .ref a0_a, .ref a0_r, .ref a0_product, .ref a0_tag, .ref a0_sealed])), (a0_root, aN C.D 3 t_a0_root), (a0_power, aN C.D 9 t_a0_power), (a0_w, aL C.D 64 t_a0_w)]
  refine v_lconst g dX8_rootOf_0 (v := lN 0) (by decide +kernel) ?_
  refine v_lstore_n g [(3, .long (lN 0)), (0, .ref a0), (1, .int (nI p1)), (2, .int (nI 3))] dX8_rootOf_1 3 rfl (by decide) rfl ?_
  refine v_bipush g dX8_rootOf_2 (v := nI 35) (by decide +kernel) ?_
  refine v_toi (nI (36 - 0) - 1) (by decide +kernel) ?_
  refine v_istore g [(5, .int (nI (36 - 0) - 1)), (3, .long (lN 0)), (0, .ref a0), (1, .int (nI p1)), (2, .int (nI 3))] dX8_rootOf_4 (by decide) rfl ?_
  have L6_0 : ∀ i : Nat, i ≤ 36 → ∀ (vv : Nat) (tr : Nat → Nat) (tp : Nat → Nat) (tw : Nat → Nat), (vv = rtF p1 3 i) → VJ C 0 0 6 [(5, .int (nI (36 - i) - 1)), (3, .long (lN vv)), (0, .ref a0), (1, .int (nI p1)), (2, .int (nI 3))] [] [(a0, .inr (8, [.int (nI v_a0_thrown), .ref a0_tape, .int (nI v_a0_taped), .ref a0_out, .int (nI v_a0_outs), .ref a0_slots, .ref a0_kept, .ref a0_phase, .ref a0_secret, .ref a0_key, .ref a0_hide, .ref a0_iv, .ref a0_begin, .ref a0_each, .ref a0_root, .ref a0_power, .ref a0_work, .ref a0_w, .ref a0_h, .ref a0_state, .ref a0_sum, .ref a0_pad, .ref a0_text, .int (nI v_a0_texts), .ref a0_info, .int (nI v_a0_infos), .ref a0_made, .ref a0_blockKey, .ref a0_nonce, .ref a0_x, .ref a0_first, .ref a0_block, .ref a0_a, .ref a0_r, .ref a0_product, .ref a0_tag, .ref a0_sealed])), (a0_root, aN C.D 3 tr), (a0_power, aN C.D 9 tp), (a0_w, aL C.D 64 tw)] := by
    refine v_for (36) ?_ ?_
    · skip
      intro i hii ih vv tr tp tw hv0
      refine v_iload g dX8_rootOf_6 0 rfl ?_
      refine v_if_ltD g 41 dX8_rootOf_8 (by decide) (by omega) (fun h1 => ?_) (fun h1 => ?_)
      · skip
        exact absurd h1 (by omega)
      · skip
        rw [dn_eq (e := 36 - i) (by omega)]
        subst hv0
        show VJ C 0 0 11 [(5, .int (nI (36 - i - 1))), (3, .long (lN (rtF p1 3 i))), (0, .ref a0), (1, .int (nI p1)), (2, .int (nI 3))] [] [(a0, .inr (8, [.int (nI v_a0_thrown), .ref a0_tape, .int (nI v_a0_taped), .ref a0_out, .int (nI v_a0_outs), .ref a0_slots, .ref a0_kept, .ref a0_phase, .ref a0_secret, .ref a0_key, .ref a0_hide, .ref a0_iv, .ref a0_begin, .ref a0_each, .ref a0_root, .ref a0_power, .ref a0_work, .ref a0_w, .ref a0_h, .ref a0_state, .ref a0_sum, .ref a0_pad, .ref a0_text, .int (nI v_a0_texts), .ref a0_info, .int (nI v_a0_infos), .ref a0_made, .ref a0_blockKey, .ref a0_nonce, .ref a0_x, .ref a0_first, .ref a0_block, .ref a0_a, .ref a0_r, .ref a0_product, .ref a0_tag, .ref a0_sealed])), (a0_root, aN C.D 3 tr), (a0_power, aN C.D 9 tp), (a0_w, aL C.D 64 tw)]
        have hle := rt_le p1 3 i (by omega)
        have h2e : 2 ^ (36 - i - 1) * 2 = 2 ^ (36 - i) := Nat.two_pow_pred_mul_two (by omega)
        have hpp : 0 < 2 ^ (36 - i - 1) := Nat.pow_pos (by decide)
        refine v_lload_n g dX8_rootOf_11 3 rfl 1 rfl ?_
        refine v_lconst g dX8_rootOf_12 (v := lN 1) (by decide +kernel) ?_
        refine v_iload g dX8_rootOf_13 0 rfl ?_
        refine v_lshlN g (by omega) dX8_rootOf_15 ?_
        refine v_laddN g dX8_rootOf_16 ?_
        refine v_lstore_n g [(3, .long (lN ((rtF p1 3 i) + (1 * 2 ^ (36 - i - 1))))), (5, .int (nI (36 - i - 1))), (0, .ref a0), (1, .int (nI p1)), (2, .int (nI 3))] dX8_rootOf_17 3 rfl (by decide) rfl ?_
        refine v_aload_n g dX8_rootOf_18 0 rfl 2 rfl ?_
        refine v_lload_n g dX8_rootOf_19 3 rfl 0 rfl ?_
        refine v_iload_n g dX8_rootOf_20 1 rfl 3 rfl ?_
        refine v_iload_n g dX8_rootOf_21 2 rfl 4 rfl ?_
        refine v_callV (As := [.long (lN ((rtF p1 3 i) + (1 * 2 ^ (36 - i - 1)))), .int (nI p1), .int (nI 3)]) (rest := []) (wr := []) cw_X8_119 (hy_X8_isAbove) g (c_R_above3 C.l C.D a0 ((rtF p1 3 i) + (1 * 2 ^ (36 - i - 1))) p1 v_a0_thrown a0_tape v_a0_taped a0_out v_a0_outs a0_slots a0_kept a0_phase a0_secret a0_key a0_hide a0_iv a0_begin a0_each a0_root a0_power a0_work a0_w a0_h a0_state a0_sum a0_pad a0_text v_a0_texts a0_info v_a0_infos a0_made a0_blockKey a0_nonce a0_x a0_first a0_block a0_a a0_r a0_product a0_tag a0_sealed tr tp tw (by omega) (by omega)) dX8_rootOf_22 0 rfl rfl rfl (by decide) (by decide) (Nat.le_of_ble_eq_true rfl) [0, 1, 2, 3] [] rfl rfl (by decide) rfl (by decide) (by decide) _ rfl (fun r wo hp2 => ?_)
        obtain ⟨tr, tp, tw, rfl, rfl⟩ := hp2
        show VJ C 0 0 25 [(3, .long (lN ((rtF p1 3 i) + (1 * 2 ^ (36 - i - 1))))), (5, .int (nI (36 - i - 1))), (0, .ref a0), (1, .int (nI p1)), (2, .int (nI 3))] [.int (nI (if p1 * 65536 ^ 6 < ((rtF p1 3 i) + (1 * 2 ^ (36 - i - 1))) ^ 3 then 1 else 0))] [(a0, .inr (8, [.int (nI v_a0_thrown), .ref a0_tape, .int (nI v_a0_taped), .ref a0_out, .int (nI v_a0_outs), .ref a0_slots, .ref a0_kept, .ref a0_phase, .ref a0_secret, .ref a0_key, .ref a0_hide, .ref a0_iv, .ref a0_begin, .ref a0_each, .ref a0_root, .ref a0_power, .ref a0_work, .ref a0_w, .ref a0_h, .ref a0_state, .ref a0_sum, .ref a0_pad, .ref a0_text, .int (nI v_a0_texts), .ref a0_info, .int (nI v_a0_infos), .ref a0_made, .ref a0_blockKey, .ref a0_nonce, .ref a0_x, .ref a0_first, .ref a0_block, .ref a0_a, .ref a0_r, .ref a0_product, .ref a0_tag, .ref a0_sealed])), (a0_root, aN C.D 3 tr), (a0_power, aN C.D 9 tp), (a0_w, aL C.D 64 tw)]
        have hif : (if p1 * 65536 ^ 6 < (rtF p1 3 i + 1 * 2 ^ (36 - i - 1)) ^ 3 then 1 else 0) < 2 ^ 31 := by split <;> decide
        refine v_if_eqN g 35 dX8_rootOf_25 (by decide) (by omega) (fun h3 => ?_) (fun h3 => ?_)
        · skip
          refine v_iinc g (v := nI (36 - i - 1) - 1) [(5, .int (nI (36 - i - 1) - 1)), (3, .long (lN ((rtF p1 3 i) + (1 * 2 ^ (36 - i - 1))))), (0, .ref a0), (1, .int (nI p1)), (2, .int (nI 3))] dX8_rootOf_35 1 rfl (dn_i _) (by decide) rfl ?_
          refine v_goto g 6 dX8_rootOf_38 (by decide) ?_
          rw [show 36 - i - 1 = 36 - (i + 1) by omega]
          exact ih ((rtF p1 3 i) + (1 * 2 ^ (36 - i - 1))) tr tp tw (by show _ = if p1 * 65536 ^ 6 < (rtF p1 3 i + 1 * 2 ^ (36 - i - 1)) ^ 3 then _ else _; rw [if_neg (fun q => by rw [if_pos q] at h3; exact absurd h3 (by decide))])
        · skip
          refine v_lload_n g dX8_rootOf_28 3 rfl 0 rfl ?_
          refine v_lconst g dX8_rootOf_29 (v := lN 1) (by decide +kernel) ?_
          refine v_iload g dX8_rootOf_30 1 rfl ?_
          refine v_lshlN g (by omega) dX8_rootOf_32 ?_
          refine v_lsubN g (by omega) dX8_rootOf_33 ?_
          refine v_lstore_n g [(3, .long (lN (((rtF p1 3 i) + (1 * 2 ^ (36 - i - 1))) - (1 * 2 ^ (36 - i - 1))))), (5, .int (nI (36 - i - 1))), (0, .ref a0), (1, .int (nI p1)), (2, .int (nI 3))] dX8_rootOf_34 3 rfl (by decide) rfl ?_
          refine v_iinc g (v := nI (36 - i - 1) - 1) [(5, .int (nI (36 - i - 1) - 1)), (3, .long (lN (((rtF p1 3 i) + (1 * 2 ^ (36 - i - 1))) - (1 * 2 ^ (36 - i - 1))))), (0, .ref a0), (1, .int (nI p1)), (2, .int (nI 3))] dX8_rootOf_35 1 rfl (dn_i _) (by decide) rfl ?_
          refine v_goto g 6 dX8_rootOf_38 (by decide) ?_
          rw [show 36 - i - 1 = 36 - (i + 1) by omega]
          exact ih (((rtF p1 3 i) + (1 * 2 ^ (36 - i - 1))) - (1 * 2 ^ (36 - i - 1))) tr tp tw (by show _ = if p1 * 65536 ^ 6 < (rtF p1 3 i + 1 * 2 ^ (36 - i - 1)) ^ 3 then _ else _; rw [if_pos (Decidable.byContradiction (fun q => by rw [if_neg q] at h3; exact absurd rfl h3))]; omega)
    · skip
      intro vv tr tp tw hv0
      refine v_iload g dX8_rootOf_6 0 rfl ?_
      refine v_if_ltD g 41 dX8_rootOf_8 (by decide) (by omega) (fun h4 => ?_) (fun h4 => ?_)
      · skip
        subst hv0
        show VJ C 0 0 41 [(5, .int (nI (36 - 36) - 1)), (3, .long (lN (rtF p1 3 36))), (0, .ref a0), (1, .int (nI p1)), (2, .int (nI 3))] [] [(a0, .inr (8, [.int (nI v_a0_thrown), .ref a0_tape, .int (nI v_a0_taped), .ref a0_out, .int (nI v_a0_outs), .ref a0_slots, .ref a0_kept, .ref a0_phase, .ref a0_secret, .ref a0_key, .ref a0_hide, .ref a0_iv, .ref a0_begin, .ref a0_each, .ref a0_root, .ref a0_power, .ref a0_work, .ref a0_w, .ref a0_h, .ref a0_state, .ref a0_sum, .ref a0_pad, .ref a0_text, .int (nI v_a0_texts), .ref a0_info, .int (nI v_a0_infos), .ref a0_made, .ref a0_blockKey, .ref a0_nonce, .ref a0_x, .ref a0_first, .ref a0_block, .ref a0_a, .ref a0_r, .ref a0_product, .ref a0_tag, .ref a0_sealed])), (a0_root, aN C.D 3 tr), (a0_power, aN C.D 9 tp), (a0_w, aL C.D 64 tw)]
        refine v_lload_n g dX8_rootOf_41 3 rfl 1 rfl ?_
        refine v_ldc2 g dX8_rootOf_42 kl_X8_123 ?_
        refine v_landM g 32 (by decide) dX8_rootOf_45 ?_
        exact v_lret g R dX8_rootOf_46 (by decide) (by decide) ⟨tr, tp, tw, rfl, rfl⟩
      · skip
        exact absurd h4 (by omega)
  exact L6_0 0 (by omega) 0 t_a0_root t_a0_power t_a0_w rfl
theorem pd_le (x : Nat) : ∀ j, pdF x j ≤ 1 := by
  intro j
  cases j with
  | zero => exact Nat.le_refl _
  | succ j => simp only [pdF]; split <;> (try split) <;> omega
set_option maxHeartbeats 4000000 in
set_option maxRecDepth 100000 in
theorem c_R_prime (l : Launch) (D : va_G) (p0 : Nat) (q : Nat) (h0 : 1 ≤ p0) (h1 : p0 < q) (h2 : q < 1000) (h3 : pdF q (q - 2) = 1) (h4 : ∀ x, p0 < x → x < q → pdF x (x - 2) = 0) : vM l D yX8_nextPrime cX8_nextPrime 4 (some .int) { frames := 0, cells := 0, slots := 0, locals := 0 } [.int (nI p0)] [] (fun r wo => r = some (.int (nI q)) ∧ wo = []) := by
  refine vM.of (by decide) (Nat.le_of_ble_eq_true rfl) (fun C hCl hCD g R => ?_)
  subst hCl; subst hCD
  show VJ C 0 0 0 [(0, .int (nI p0))] [] []
  refine v_iload_n g dX8_nextPrime_0 0 rfl 0 rfl ?_
  refine v_istore_n g [(1, .int (nI p0)), (0, .int (nI p0))] dX8_nextPrime_1 1 rfl (by decide) rfl ?_
  refine v_iconst g dX8_nextPrime_2 (v := nI 0) (by decide +kernel) ?_
  refine v_istore_n g [(2, .int (nI 0)), (1, .int (nI p0)), (0, .int (nI p0))] dX8_nextPrime_3 2 rfl (by decide) rfl ?_
  have L4_0 : ∀ i : Nat, i ≤ (q - p0) → ∀ (fl : Nat), (fl = if p0 + i = q then 1 else 0) → VJ C 0 0 4 [(2, .int (nI fl)), (1, .int (nI (p0 + i))), (0, .int (nI p0))] [] [] := by
    refine v_for ((q - p0)) ?_ ?_
    · skip
      intro i hii ih fl hv0
      have hf2 : fl < 2 ^ 31 := by rw [hv0]; split <;> decide
      have hf0 : p0 + i < q → fl = 0 := fun z => by rw [hv0, if_neg (by omega)]
      refine v_iload_n g dX8_nextPrime_4 2 rfl 0 rfl ?_
      refine v_if_neN g 45 dX8_nextPrime_5 (by decide) (by omega) (fun h5 => ?_) (fun h5 => ?_)
      · skip
        exact absurd h5 (by omega)
      · skip
        refine v_iincN g 1 [(1, .int (nI (p0 + i + 1))), (2, .int (nI fl)), (0, .int (nI p0))] dX8_nextPrime_8 1 rfl (by decide +kernel) (by decide) rfl ?_
        refine v_iconst g dX8_nextPrime_11 (v := nI 1) (by decide +kernel) ?_
        refine v_istore_n g [(2, .int (nI 1)), (1, .int (nI (p0 + i + 1))), (0, .int (nI p0))] dX8_nextPrime_12 2 rfl (by decide) rfl ?_
        refine v_iconst g dX8_nextPrime_13 (v := nI 2) (by decide +kernel) ?_
        refine v_istore_n g [(3, .int (nI 2)), (2, .int (nI 1)), (1, .int (nI (p0 + i + 1))), (0, .int (nI p0))] dX8_nextPrime_14 3 rfl (by decide) rfl ?_
        have L15_5 : ∀ j : Nat, j ≤ ((p0 + i + 1) - 2) → ∀ (fj : Nat), (fj = pdF (p0 + i + 1) j) → VJ C 0 0 15 [(3, .int (nI (2 + j))), (2, .int (nI fj)), (1, .int (nI (p0 + i + 1))), (0, .int (nI p0))] [] [] := by
          refine v_for (((p0 + i + 1) - 2)) ?_ ?_
          · skip
            intro j hij ik fj hw0
            refine v_iload_n g dX8_nextPrime_15 3 rfl 0 rfl ?_
            refine v_iload_n g dX8_nextPrime_16 1 rfl 2 rfl ?_
            refine v_icmp_geN g 42 dX8_nextPrime_17 (by decide) (by omega) (by omega) (fun h6 => ?_) (fun h6 => ?_)
            · skip
              exact absurd h6 (by omega)
            · skip
              refine v_iload_n g dX8_nextPrime_20 2 rfl 1 rfl ?_
              have hfl : fj < 2 ^ 31 := by rw [hw0]; exact Nat.lt_of_le_of_lt (pd_le _ _) (by decide)
              refine v_if_eqN g 34 dX8_nextPrime_21 (by decide) (by omega) (fun h7 => ?_) (fun h7 => ?_)
              · skip
                refine v_iconst g dX8_nextPrime_34 (v := nI 0) (by decide +kernel) ?_
                refine v_istore_n g [(2, .int (nI 0)), (3, .int (nI (2 + j))), (1, .int (nI (p0 + i + 1))), (0, .int (nI p0))] dX8_nextPrime_35 2 rfl (by decide) rfl ?_
                refine v_iincN g 1 [(3, .int (nI (2 + j + 1))), (2, .int (nI 0)), (1, .int (nI (p0 + i + 1))), (0, .int (nI p0))] dX8_nextPrime_36 1 rfl (by decide +kernel) (by decide) rfl ?_
                refine v_goto g 15 dX8_nextPrime_39 (by decide) ?_
                exact ik 0 (by show 0 = if pdF (p0 + i + 1) j = 0 then 0 else if (p0 + i + 1) % (2 + j) = 0 then 0 else 1; rw [if_pos (hw0.symm.trans h7)])
              · skip
                have hmd := Nat.mod_lt (p0 + i + 1) (show 0 < 2 + j by omega)
                refine v_iload_n g dX8_nextPrime_24 1 rfl 2 rfl ?_
                refine v_iload_n g dX8_nextPrime_25 3 rfl 0 rfl ?_
                refine v_iremN g dX8_nextPrime_26 (by omega) (by omega) (by omega) ?_
                refine v_if_eqN g 34 dX8_nextPrime_27 (by decide) (by omega) (fun h8 => ?_) (fun h8 => ?_)
                · skip
                  refine v_iconst g dX8_nextPrime_34 (v := nI 0) (by decide +kernel) ?_
                  refine v_istore_n g [(2, .int (nI 0)), (3, .int (nI (2 + j))), (1, .int (nI (p0 + i + 1))), (0, .int (nI p0))] dX8_nextPrime_35 2 rfl (by decide) rfl ?_
                  refine v_iincN g 1 [(3, .int (nI (2 + j + 1))), (2, .int (nI 0)), (1, .int (nI (p0 + i + 1))), (0, .int (nI p0))] dX8_nextPrime_36 1 rfl (by decide +kernel) (by decide) rfl ?_
                  refine v_goto g 15 dX8_nextPrime_39 (by decide) ?_
                  exact ik 0 (by show 0 = if pdF (p0 + i + 1) j = 0 then 0 else if (p0 + i + 1) % (2 + j) = 0 then 0 else 1; rw [if_neg (fun z => h7 (hw0.trans z)), if_pos h8])
                · skip
                  refine v_iconst g dX8_nextPrime_30 (v := nI 1) (by decide +kernel) ?_
                  refine v_goto g 35 dX8_nextPrime_31 (by decide) ?_
                  refine v_istore_n g [(2, .int (nI 1)), (3, .int (nI (2 + j))), (1, .int (nI (p0 + i + 1))), (0, .int (nI p0))] dX8_nextPrime_35 2 rfl (by decide) rfl ?_
                  refine v_iincN g 1 [(3, .int (nI (2 + j + 1))), (2, .int (nI 1)), (1, .int (nI (p0 + i + 1))), (0, .int (nI p0))] dX8_nextPrime_36 1 rfl (by decide +kernel) (by decide) rfl ?_
                  refine v_goto g 15 dX8_nextPrime_39 (by decide) ?_
                  exact ik 1 (by show 1 = if pdF (p0 + i + 1) j = 0 then 0 else if (p0 + i + 1) % (2 + j) = 0 then 0 else 1; rw [if_neg (fun z => h7 (hw0.trans z)), if_neg h8])
          · skip
            intro fj hw0
            refine v_iload_n g dX8_nextPrime_15 3 rfl 0 rfl ?_
            refine v_iload_n g dX8_nextPrime_16 1 rfl 2 rfl ?_
            refine v_icmp_geN g 42 dX8_nextPrime_17 (by decide) (by omega) (by omega) (fun h9 => ?_) (fun h9 => ?_)
            · skip
              refine v_goto g 4 dX8_nextPrime_42 (by decide) ?_
              refine v_lpick [1, 2, 3] [(2, .int (nI fj)), (1, .int (nI (p0 + i + 1))), (0, .int (nI p0))] rfl ?_
              exact ih fj (by
                    rw [hw0]
                    by_cases e : p0 + (i + 1) = q
                    · rw [if_pos e, show p0 + i + 1 = q by omega]; exact h3
                    · rw [if_neg e]; exact h4 _ (by omega) (by omega))
            · skip
              exact absurd h9 (by omega)
        exact L15_5 0 (by omega) 1 rfl
    · skip
      intro fl hv0
      have hf1 : fl = 1 := by rw [hv0, if_pos (by omega)]
      subst hf1
      show VJ C 0 0 4 [(2, .int (nI 1)), (1, .int (nI (p0 + (q - p0)))), (0, .int (nI p0))] [] []
      refine v_iload_n g dX8_nextPrime_4 2 rfl 0 rfl ?_
      refine v_if_neN g 45 dX8_nextPrime_5 (by decide) (by decide) (fun _ => ?_) (fun h => absurd h (by decide))
      refine v_iload_n g dX8_nextPrime_45 1 rfl 1 rfl ?_
      exact v_iret g R dX8_nextPrime_46 (by decide) (by decide) ⟨(by rw [show p0 + (q - p0) = q by omega]), rfl⟩
  exact L4_0 0 (by omega) 0 (by rw [if_neg (by omega)])
