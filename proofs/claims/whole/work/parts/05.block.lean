/-! KEY BLOCK -/
def rotl (x : Wd) (n : Nat) : Wd := x <<< n ||| x >>> (32 - n)
def cc_add (p q : Nat) (x : Nat → Wd) : Nat → Wd := va_up x p (x p + x q)
def cc_rot (p s n : Nat) (x : Nat → Wd) : Nat → Wd := va_up x s (rotl (x s ^^^ x p) n)
def cc_half (p q s n : Nat) (x : Nat → Wd) : Nat → Wd := cc_rot p s n (cc_add p q x)
def cc_qr (a b c d : Nat) (x : Nat → Wd) : Nat → Wd := cc_half c d b 7 (cc_half a b d 8 (cc_half c d b 12 (cc_half a b d 16 x)))
def cc_r0 (x : Nat → Wd) : Nat → Wd := cc_qr 3 7 11 15 (cc_qr 2 6 10 14 (cc_qr 1 5 9 13 (cc_qr 0 4 8 12 x)))
def cc_r1 (x : Nat → Wd) : Nat → Wd := cc_qr 3 4 9 14 (cc_qr 2 7 8 13 (cc_qr 1 6 11 12 (cc_qr 0 5 10 15 x)))
def cc_it (x : Nat → Wd) : Nat → Nat → Wd
  | 0 => x
  | i + 1 => cc_r1 (cc_r0 (cc_it x i))
def le4 (b : Nat → By) (a : Nat) : Wd := (b a).setWidth 32 ||| (b (a + 1)).setWidth 32 <<< 8 ||| (b (a + 2)).setWidth 32 <<< 16 ||| (b (a + 3)).setWidth 32 <<< 24
def cc_o (j : Nat) : Wd := [1634760805#32, 857760878#32, 2036477234#32, 1797285236#32].getD j 0
def cc_x0 (key nonce : Nat → By) (ctr : Wd) : Nat → Wd := fun j => if j < 4 then cc_o j else if j < 12 then le4 key (4 * (j - 4)) else if j = 12 then ctr else le4 nonce (4 * (j - 13))
def cc_W (key nonce : Nat → By) (ctr : Wd) : Nat → Wd := fun j => cc_it (cc_x0 key nonce ctr) 10 j + cc_x0 key nonce ctr j
def ccF (key nonce : Nat → By) (ctr : Wd) : Nat → By := fun j => (cc_W key nonce ctr (j / 4) >>> (8 * (j % 4))).setWidth 8
theorem up_congr {α : Type} {x x' : Nat → α} {n p : Nat} {v v' : α} (h : ∀ j, j < n → x j = x' j) (hv : v = v') : ∀ j, j < n → va_up x p v j = va_up x' p v' j := by
  intro j hj
  unfold va_up
  by_cases e : j = p
  · rw [if_pos e, if_pos e, hv]
  · rw [if_neg e, if_neg e, h j hj]
theorem cc_add_congr {x x' : Nat → Wd} {p q : Nat} (hp : p < 16) (hq : q < 16) (h : ∀ j, j < 16 → x j = x' j) : ∀ j, j < 16 → cc_add p q x j = cc_add p q x' j :=
  up_congr h (by rw [h p hp, h q hq])
theorem cc_rot_congr {x x' : Nat → Wd} {p s n : Nat} (hp : p < 16) (hs : s < 16) (h : ∀ j, j < 16 → x j = x' j) : ∀ j, j < 16 → cc_rot p s n x j = cc_rot p s n x' j :=
  up_congr h (by rw [h p hp, h s hs])
theorem cc_half_congr {x x' : Nat → Wd} {p q s n : Nat} (hp : p < 16) (hq : q < 16) (hs : s < 16) (h : ∀ j, j < 16 → x j = x' j) : ∀ j, j < 16 → cc_half p q s n x j = cc_half p q s n x' j :=
  cc_rot_congr hp hs (cc_add_congr hp hq h)
theorem cc_qr_congr {x x' : Nat → Wd} {a b c d : Nat} (ha : a < 16) (hb : b < 16) (hc : c < 16) (hd : d < 16) (h : ∀ j, j < 16 → x j = x' j) : ∀ j, j < 16 → cc_qr a b c d x j = cc_qr a b c d x' j :=
  cc_half_congr hc hd hb (cc_half_congr ha hb hd (cc_half_congr hc hd hb (cc_half_congr ha hb hd h)))
theorem cc_r0_congr {x x' : Nat → Wd} (h : ∀ j, j < 16 → x j = x' j) : ∀ j, j < 16 → cc_r0 x j = cc_r0 x' j :=
  cc_qr_congr (by omega) (by omega) (by omega) (by omega) (cc_qr_congr (by omega) (by omega) (by omega) (by omega) (cc_qr_congr (by omega) (by omega) (by omega) (by omega) (cc_qr_congr (by omega) (by omega) (by omega) (by omega) h)))
theorem cc_r1_congr {x x' : Nat → Wd} (h : ∀ j, j < 16 → x j = x' j) : ∀ j, j < 16 → cc_r1 x j = cc_r1 x' j :=
  cc_qr_congr (by omega) (by omega) (by omega) (by omega) (cc_qr_congr (by omega) (by omega) (by omega) (by omega) (cc_qr_congr (by omega) (by omega) (by omega) (by omega) (cc_qr_congr (by omega) (by omega) (by omega) (by omega) h)))
theorem cc_it_congr {x x' : Nat → Wd} (h : ∀ j, j < 16 → x j = x' j) : ∀ i, ∀ j, j < 16 → cc_it x i j = cc_it x' i j := by
  intro i
  induction i with
  | zero => exact h
  | succ i ih => exact cc_r1_congr (cc_r0_congr ih)
theorem le4_congr {b b' : Nat → By} {a : Nat} (h : ∀ j, j < 4 → b (a + j) = b' (a + j)) : le4 b a = le4 b' a := by
  unfold le4
  have h0 := h 0 (by omega)
  rw [Nat.add_zero] at h0
  rw [h0, h 1 (by omega), h 2 (by omega), h 3 (by omega)]
theorem cc_x0_congr {k k' n n' : Nat → By} {c : Wd} (hk : ∀ j, j < 32 → k j = k' j) (hn : ∀ j, j < 12 → n j = n' j) : ∀ j, j < 16 → cc_x0 k n c j = cc_x0 k' n' c j := by
  intro j hj
  unfold cc_x0
  by_cases h1 : j < 4
  · rw [if_pos h1, if_pos h1]
  · rw [if_neg h1, if_neg h1]
    by_cases h2 : j < 12
    · rw [if_pos h2, if_pos h2]; exact le4_congr (fun q hq => hk _ (by omega))
    · rw [if_neg h2, if_neg h2]
      by_cases h3 : j = 12
      · rw [if_pos h3, if_pos h3]
      · rw [if_neg h3, if_neg h3]; exact le4_congr (fun q hq => hn _ (by omega))
theorem ccF_congr {k k' n n' : Nat → By} {c : Wd} (hk : ∀ j, j < 32 → k j = k' j) (hn : ∀ j, j < 12 → n j = n' j) : ∀ j, j < 64 → ccF k n c j = ccF k' n' c j := by
  intro j hj
  unfold ccF cc_W
  rw [cc_x0_congr hk hn (j / 4) (by omega), cc_it_congr (cc_x0_congr hk hn) 10 (j / 4) (by omega)]
