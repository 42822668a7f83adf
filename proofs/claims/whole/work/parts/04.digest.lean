/-! DIGEST -/
def sh_K : List Wd := [1116352408#32, 1899447441#32, 3049323471#32, 3921009573#32, 961987163#32, 1508970993#32, 2453635748#32, 2870763221#32, 3624381080#32, 310598401#32, 607225278#32, 1426881987#32, 1925078388#32, 2162078206#32, 2614888103#32, 3248222580#32, 3835390401#32, 4022224774#32, 264347078#32, 604807628#32, 770255983#32, 1249150122#32, 1555081692#32, 1996064986#32, 2554220882#32, 2821834349#32, 2952996808#32, 3210313671#32, 3336571891#32, 3584528711#32, 113926993#32, 338241895#32, 666307205#32, 773529912#32, 1294757372#32, 1396182291#32, 1695183700#32, 1986661051#32, 2177026350#32, 2456956037#32, 2730485921#32, 2820302411#32, 3259730800#32, 3345764771#32, 3516065817#32, 3600352804#32, 4094571909#32, 275423344#32, 430227734#32, 506948616#32, 659060556#32, 883997877#32, 958139571#32, 1322822218#32, 1537002063#32, 1747873779#32, 1955562222#32, 2024104815#32, 2227730452#32, 2361852424#32, 2428436474#32, 2756734187#32, 3204031479#32, 3329325298#32]
def sh_I : List Wd := [1779033703#32, 3144134277#32, 1013904242#32, 2773480762#32, 1359893119#32, 2600822924#32, 528734635#32, 1541459225#32]
def shK (j : Nat) : Wd := sh_K.getD j 0
def shI (j : Nat) : Wd := sh_I.getD j 0
def rotr (x : Wd) (n : Nat) : Wd := x >>> n ||| x <<< (32 - n)
def sh_s (x : Wd) : Wd := rotr x 7 ^^^ rotr x 18 ^^^ x >>> 3
def sh_r (x : Wd) : Wd := rotr x 17 ^^^ rotr x 19 ^^^ x >>> 10
/-- four bytes behind a word, highest first: how far r of them are in -/
def sh_pw (o : Wd) (b : Nat → By) (q : Nat) : Nat → Wd
  | 0 => o
  | r + 1 => sh_pw o b q r <<< 8 ||| (b (4 * q + r)).setWidth 32
def sh_be (b : Nat → By) (q : Nat) : Wd := sh_pw 0 b q 4
/-- the words of a block: its own sixteen, then n more -/
def sh_w (b : Nat → By) : Nat → Nat → Wd
  | 0 => fun q => sh_be b q
  | i + 1 => va_up (sh_w b i) (16 + i) (sh_w b i i + sh_s (sh_w b i (i + 1)) + sh_w b i (i + 9) + sh_r (sh_w b i (i + 14)))
def sh_p (k w : Wd) (s : Nat → Wd) : Wd := s 7 + (rotr (s 4) 6 ^^^ rotr (s 4) 11 ^^^ rotr (s 4) 25) + (s 4 &&& s 5 ^^^ (s 4 ^^^ 4294967295#32) &&& s 6) + k + w
def sh_q (s : Nat → Wd) : Wd := (rotr (s 0) 2 ^^^ rotr (s 0) 13 ^^^ rotr (s 0) 22) + (s 0 &&& s 1 ^^^ s 0 &&& s 2 ^^^ s 1 &&& s 2)
def sh_rnd (k w : Wd) (s : Nat → Wd) : Nat → Wd := fun j => match j with
  | 0 => sh_p k w s + sh_q s
  | 4 => s 3 + sh_p k w s
  | j + 1 => s j
def sh_R (w : Nat → Wd) (h : Nat → Wd) : Nat → Nat → Wd
  | 0 => h
  | t + 1 => sh_rnd (shK t) (w t) (sh_R w h t)
def sh_c (h : Nat → Wd) (b : Nat → By) : Nat → Wd := fun j => h j + sh_R (sh_w b 48) h 64 j
/-- the eight words behind the first k blocks of m -/
def sh_H (m : Nat → By) : Nat → Nat → Wd
  | 0 => shI
  | k + 1 => sh_c (sh_H m k) (fun j => m (64 * k + j))
/-- n bytes m with what comes behind them -/
def sh_pad (m : Nat → By) (n : Nat) : Nat → By := fun j => if j < n then m j else if j = n then 128#8 else
  if (n + 8) / 64 * 64 + 56 ≤ j then BitVec.ofNat 8 (8 * n / 2 ^ (8 * ((n + 8) / 64 * 64 + 63 - j))) else 0#8
def sh_bl (n : Nat) : Nat := (n + 8) / 64 + 1
def digW (m : Nat → By) (n : Nat) : Nat → Wd := sh_H (sh_pad m n) (sh_bl n)
def digF (m : Nat → By) (n : Nat) : Nat → By := fun j => (digW m n (j / 4) >>> (24 - 8 * (j % 4))).setWidth 8
theorem sh_pw4 (o : Wd) (b : Nat → By) (q : Nat) : sh_pw o b q 4 = sh_be b q := by
  unfold sh_be
  simp only [sh_pw]
  ext i hi
  simp only [BitVec.getElem_or, BitVec.getElem_shiftLeft]
  by_cases h1 : i < 8
  · simp [h1]
  · by_cases h2 : i < 16
    · have e1 : i - 8 < 8 := by omega
      simp [h1, e1]
    · by_cases h3 : i < 24
      · have e1 : ¬ i - 8 < 8 := by omega
        have e2 : i - 8 - 8 < 8 := by omega
        simp [h1, e1, e2]
      · have e1 : ¬ i - 8 < 8 := by omega
        have e2 : ¬ i - 8 - 8 < 8 := by omega
        have e3 : i - 8 - 8 - 8 < 8 := by omega
        simp [h1, e1, e2, e3]
theorem sh_pw_congr {o : Wd} {b b' : Nat → By} {q : Nat} : ∀ r, (∀ j, j < r → b (4 * q + j) = b' (4 * q + j)) → sh_pw o b q r = sh_pw o b' q r := by
  intro r
  induction r with
  | zero => intro _; rfl
  | succ r ih => intro h; simp only [sh_pw]; rw [ih (fun j hj => h j (by omega)), h r (by omega)]
theorem sh_w_out (b : Nat → By) : ∀ i q, 16 + i ≤ q → sh_w b i q = sh_be b q := by
  intro i
  induction i with
  | zero => intro q _; rfl
  | succ i ih => intro q hq; simp only [sh_w]; unfold va_up; rw [if_neg (by omega)]; exact ih q (by omega)
theorem sh_w_keep (b : Nat → By) (i q : Nat) (h : q ≠ 16 + i) : sh_w b (i + 1) q = sh_w b i q := by
  simp only [sh_w]; unfold va_up; rw [if_neg h]
theorem sh_w_new (b : Nat → By) (i : Nat) : sh_w b (i + 1) (16 + i) = sh_w b i i + sh_s (sh_w b i (i + 1)) + sh_w b i (i + 9) + sh_r (sh_w b i (i + 14)) := by
  simp only [sh_w]; unfold va_up; rw [if_pos rfl]
theorem sh_w_congr {b b' : Nat → By} (h : ∀ j, j < 64 → b j = b' j) : ∀ i q, i ≤ 48 → q < 16 + i → sh_w b i q = sh_w b' i q := by
  intro i
  induction i with
  | zero => intro q _ hq; simp only [sh_w]; exact sh_pw_congr 4 (fun j hj => h _ (by omega))
  | succ i ih =>
    intro q hi hq
    by_cases e : q = 16 + i
    · subst e
      rw [sh_w_new, sh_w_new, ih i (by omega) (by omega), ih (i + 1) (by omega) (by omega), ih (i + 9) (by omega) (by omega), ih (i + 14) (by omega) (by omega)]
    · rw [sh_w_keep b i q e, sh_w_keep b' i q e]; exact ih q (by omega) (by omega)
theorem sh_rnd_congr {k w : Wd} {s s' : Nat → Wd} (h : ∀ j, j < 8 → s j = s' j) : ∀ j, j < 8 → sh_rnd k w s j = sh_rnd k w s' j := by
  intro j hj
  have h0 := h 0 (by omega); have h1 := h 1 (by omega); have h2 := h 2 (by omega); have h3 := h 3 (by omega)
  have h4 := h 4 (by omega); have h5 := h 5 (by omega); have h6 := h 6 (by omega); have h7 := h 7 (by omega)
  have hp : sh_p k w s = sh_p k w s' := by unfold sh_p; rw [h4, h5, h6, h7]
  have hq : sh_q s = sh_q s' := by unfold sh_q; rw [h0, h1, h2]
  match j, hj with
  | 0, _ => simp only [sh_rnd]; rw [hp, hq]
  | 1, _ => exact h0
  | 2, _ => exact h1
  | 3, _ => exact h2
  | 4, _ => simp only [sh_rnd]; rw [hp, h3]
  | 5, _ => exact h4
  | 6, _ => exact h5
  | 7, _ => exact h6
theorem sh_R_congr {w w' h h' : Nat → Wd} (hh : ∀ j, j < 8 → h j = h' j) : ∀ t, (∀ q, q < t → w q = w' q) → ∀ j, j < 8 → sh_R w h t j = sh_R w' h' t j := by
  intro t
  induction t with
  | zero => intro _ j hj; exact hh j hj
  | succ t ih =>
    intro hw j hj
    simp only [sh_R]
    rw [hw t (by omega)]
    exact sh_rnd_congr (ih (fun q hq => hw q (by omega))) j hj
theorem sh_c_congr {h h' : Nat → Wd} {b b' : Nat → By} (hh : ∀ j, j < 8 → h j = h' j) (hb : ∀ j, j < 64 → b j = b' j) : ∀ j, j < 8 → sh_c h b j = sh_c h' b' j := by
  intro j hj
  unfold sh_c
  rw [hh j hj, sh_R_congr hh 64 (fun q hq => sh_w_congr hb 48 q (by omega) (by omega)) j hj]
theorem sh_H_congr {m m' : Nat → By} : ∀ k, (∀ j, j < 64 * k → m j = m' j) → ∀ j, j < 8 → sh_H m k j = sh_H m' k j := by
  intro k
  induction k with
  | zero => intro _ j _; rfl
  | succ k ih =>
    intro h j hj
    simp only [sh_H]
    exact sh_c_congr (ih (fun q hq => h q (by omega))) (fun q hq => h _ (by omega)) j hj
theorem sh_pad_congr {m m' : Nat → By} {n : Nat} (h : ∀ j, j < n → m j = m' j) : sh_pad m n = sh_pad m' n := by
  funext j
  unfold sh_pad
  by_cases e : j < n
  · rw [if_pos e, if_pos e, h j e]
  · rw [if_neg e, if_neg e]
theorem digF_congr {m m' : Nat → By} {n : Nat} (h : ∀ j, j < n → m j = m' j) : digF m n = digF m' n := by
  unfold digF digW
  rw [sh_pad_congr h]
