/-! from like cores each call goes to like cores, with the same code and answer -/
def eqS (K1 K2 : Co) : Prop := ∀ i, i < 8 → K1.sn i = K2.sn i ∧ ∀ j, j < K1.sn i → K1.sb i j = K2.sb i j
def eqR (K1 K2 : Co) (g : Nat) : Prop := (∀ j, j < 32 → K1.gs g j = K2.gs g j) ∧ (∀ j, j < 32 → K1.gk g j = K2.gk g j) ∧ (∀ j, j < 12 → K1.gi g j = K2.gi g j) ∧ (∀ j, j < 32 → K1.gh g j = K2.gh g j)
def eqG (K1 K2 : Co) : Prop := ∀ g, g < 4 → K1.gp g = K2.gp g ∧ (K1.gp g ≠ NA → eqR K1 K2 g)
def eqT (K1 K2 : Co) : Prop := K1.tn = K2.tn ∧ ∀ j, j < K1.tn → K1.tt j = K2.tt j
def eqO (K1 K2 : Co) : Prop := K1.on = K2.on ∧ ∀ j, j < K1.on → K1.ot j = K2.ot j
def Eqv (K1 K2 : Co) : Prop := eqT K1 K2 ∧ eqO K1 K2 ∧ eqS K1 K2 ∧ eqG K1 K2
theorem eqS.same {K1 K2 L1 L2 : Co} (h : eqS K1 K2) (h1 : sameS K1 L1) (h2 : sameS K2 L2) : eqS L1 L2 := fun i hi => by rw [h1.1, h1.2, h2.1, h2.2]; exact h i hi
theorem eqG.same {K1 K2 L1 L2 : Co} (h : eqG K1 K2) (h1 : sameG K1 L1) (h2 : sameG K2 L2) : eqG L1 L2 := fun g hg => by
  unfold eqR
  rw [h1.1, h1.2.1, h1.2.2.1, h1.2.2.2.1, h1.2.2.2.2, h2.1, h2.2.1, h2.2.2.1, h2.2.2.2.1, h2.2.2.2.2]
  exact h g hg
theorem eqO.same {K1 K2 L1 L2 : Co} (h : eqO K1 K2) (h1 : sameO K1 L1) (h2 : sameO K2 L2) : eqO L1 L2 := by unfold eqO; rw [h1.1, h1.2, h2.1, h2.2]; exact h
theorem eqT.same {K1 K2 L1 L2 : Co} (h : eqT K1 K2) (h1 : sameT K1 L1) (h2 : sameT K2 L2) : eqT L1 L2 := by unfold eqT; rw [h1.1, h1.2, h2.1, h2.2]; exact h
theorem eqT.zero {L1 L2 : Co} (h1 : L1.tn = 0) (h2 : L2.tn = 0) : eqT L1 L2 := ⟨h1.trans h2.symm, fun j hj => by rw [h1] at hj; exact absurd hj (Nat.not_lt_zero j)⟩
theorem eq_out {K1 K2 L1 L2 : Co} {n : Nat} {F1 F2 : Nat → By} (h : Eqv K1 K2) (h1 : R_out K1 n F1 L1) (h2 : R_out K2 n F2 L2) (hF : ∀ j, j < n → F1 j = F2 j) : Eqv L1 L2 :=
  ⟨eqT.zero h1.1.1 h2.1.1, ⟨h1.1.2.1.trans h2.1.2.1.symm, fun j hj => by rw [h1.1.2.1] at hj; rw [h1.1.2.2 j hj, h2.1.2.2 j hj, hF j hj]⟩, h.2.2.1.same h1.2.1 h2.2.1, h.2.2.2.same h1.2.2 h2.2.2⟩
theorem clB {p : Int32} {i N : Nat} (h : badI p N) (e : p = nI i) (hi : i < N) (hN : N < 2 ^ 31) : False := by
  subst e
  have z := nI_toInt (n := i) (by omega)
  rcases h with h | h
  · have := Int32.lt_iff_toInt_lt.mp h
    have z0 : (0 : Int32).toInt = 0 := by decide
    omega
  · have := Int32.le_iff_toInt_le.mp h
    rw [nI_toInt hN] at this
    omega
theorem clR {p : Int32} {n A N : Nat} (h : p < nI A ∨ nI N < p) (e : p = nI n) (h1 : A ≤ n) (h2 : n ≤ N) (hN : N < 2 ^ 31) : False := by
  subst e
  have z := nI_toInt (n := n) (by omega)
  rcases h with h | h
  · have := Int32.lt_iff_toInt_lt.mp h
    rw [nI_toInt (by omega)] at this
    rw [nI_toInt (by omega)] at this
    omega
  · have := Int32.lt_iff_toInt_lt.mp h
    rw [nI_toInt hN] at this
    omega
theorem clL {p : Int32} {n N : Nat} (h : p < 0 ∨ nI N < p) (e : p = nI n) (h2 : n ≤ N) (hN : N < 2 ^ 31) : False := clR (A := 0) h e (Nat.zero_le _) h2 hN
theorem clS {p : Int32} {n A T k : Nat} (h : p < nI A ∨ nI T - nI k < p) (e : p = nI n) (h1 : A ≤ n) (h2 : n + k ≤ T) (hT : T < 2 ^ 30) : False := by
  subst e
  have z := nI_toInt (n := n) (by omega)
  rcases h with h | h
  · have := Int32.lt_iff_toInt_lt.mp h
    rw [nI_toInt (by omega)] at this
    rw [nI_toInt (by omega)] at this
    omega
  · have := Int32.lt_iff_toInt_lt.mp h
    rw [sub_toInt hT (by omega)] at this
    omega
theorem clS0 {p : Int32} {n T k : Nat} (h : p < 0 ∨ nI T - nI k < p) (e : p = nI n) (h2 : n + k ≤ T) (hT : T < 2 ^ 30) : False := clS (A := 0) h e (Nat.zero_le _) h2 hT
theorem nIq {a b : Nat} (e : nI a = nI b) (ha : a < 2 ^ 31) (hb : b < 2 ^ 31) : a = b := (nI_eq ha hb).mp e
/-- what is to be shown of a call -/
def same3 (c1 c2 : Nat) (q : Prop) (L1 L2 : Co) : Prop := c1 = c2 ∧ (c1 = 0 → q) ∧ Eqv L1 L2
theorem s3 {c : Nat} {q : Prop} {L1 L2 : Co} (hc : c ≠ 0) (h : Eqv L1 L2) : same3 c c q L1 L2 := ⟨rfl, fun h0 => absurd h0 hc, h⟩
theorem s0 {q : Prop} {L1 L2 : Co} (hq : q) (h : Eqv L1 L2) : same3 0 0 q L1 L2 := ⟨rfl, fun _ => hq, h⟩
theorem det_feed {K1 K2 L1 L2 : Co} {c1 c2 : Nat} {a1 a2 : Int32} (hE : Eqv K1 K2) (hK : IK K1) (p : Int32) (x : BitVec 64) (h1 : RF_feed K1 p x L1 c1 a1) (h2 : RF_feed K2 p x L2 c2 a2) : same3 c1 c2 (a1 = a2) L1 L2 := by
  have hT : K1.tn = K2.tn := hE.1.1
  have ht := hE.1.2
  have hO : K1.on = K2.on := hE.2.1.1
  have b1 : K1.tn < 2 ^ 30 := Nat.lt_of_le_of_lt hK.1 (by decide)
  have b2 : K2.tn < 2 ^ 30 := by rw [← hT]; exact b1
  have b3 : K1.on < 2 ^ 30 := Nat.lt_of_le_of_lt hK.2.1 (by decide)
  have b4 : K2.on < 2 ^ 30 := by rw [← hO]; exact b3
  rcases h1 with ⟨rfl, u1, rfl⟩ | ⟨n, e1, g1, g2, h1⟩
  · rcases h2 with ⟨rfl, u2, rfl⟩ | ⟨n2, e2, g3, g4, h2⟩
    · exact s3 (by decide) hE
    · exact (clR u1 e2 g3 g4 (by decide)).elim
  · rcases h2 with ⟨rfl, u2, rfl⟩ | ⟨n2, e2, g3, g4, h2⟩
    · exact (clR u2 e1 g1 g2 (by decide)).elim
    · have hnn : n2 = n := nIq (e2.symm.trans e1) (by omega) (by omega)
      subst hnn
      rcases h1 with ⟨rfl, u1, rfl⟩ | ⟨rfl, u1, r1, rfl⟩ <;> rcases h2 with ⟨rfl, u2, rfl⟩ | ⟨rfl, u2, r2, rfl⟩
      · exact s3 (by decide) hE
      · omega
      · omega
      · refine s0 (by rw [hT]) ⟨⟨by rw [r1.1, r2.1, hT], fun j hj => ?_⟩, hE.2.1.same r1.2.2.1 r2.2.2.1, hE.2.2.1.same r1.2.2.2.1 r2.2.2.2.1, hE.2.2.2.same r1.2.2.2.2 r2.2.2.2.2⟩
        rw [r1.1] at hj
        rw [r1.2.1, r2.2.1, ← hT]
        unfold wb
        by_cases q : K1.tn ≤ j ∧ j < K1.tn + n2
        · rw [if_pos q, if_pos q]
        · rw [if_neg q, if_neg q]; exact ht j (by omega)
theorem keep_row {K1 K2 L1 L2 : Co} {b i : Nat} (hE : Eqv K1 K2) (hK : IK K1) (hi : i < 8) (hn : kN K1 b ≤ 128) (r1 : R_keep K1 b i L1) (r2 : R_keep K2 b i L2) : Eqv L1 L2 := by
  have hkn : (if b = 0 then K1.tn else K1.on) = (if b = 0 then K2.tn else K2.on) := by split; exact hE.1.1; exact hE.2.1.1
  refine ⟨⟨?_, fun j hj => ?_⟩, hE.2.1.same r1.2.2.2.2.2.1 r2.2.2.2.2.2.1, fun q hq => ?_, hE.2.2.2.same r1.2.2.2.2.2.2 r2.2.2.2.2.2.2⟩
  · rw [r1.2.2.2.2.1, r2.2.2.2.2.1, hE.1.1]
  · rw [r1.2.2.2.2.1] at hj
    rw [r1.2.2.2.1, r2.2.2.2.1]
    by_cases hb : b = 0
    · rw [if_pos hb] at hj; exact absurd hj (Nat.not_lt_zero j)
    · rw [if_neg hb] at hj; exact hE.1.2 j hj
  · rw [r1.1, r2.1]
    unfold va_up
    by_cases e : q = i
    · subst e
      rw [if_pos rfl, if_pos rfl]
      refine ⟨hkn, fun j hj => ?_⟩
      rw [r1.2.2.1 j hj, r2.2.2.1 j (by rw [← hkn]; exact hj)]
      by_cases hb : b = 0
      · rw [if_pos hb] at hj ⊢; rw [if_pos hb]; exact hE.1.2 j hj
      · rw [if_neg hb] at hj ⊢; rw [if_neg hb]; exact hE.2.1.2 j hj
    · rw [if_neg e, if_neg e]
      have z := hE.2.2.1 q hq
      refine ⟨z.1, fun j hj => ?_⟩
      have hj2 : j < 128 := Nat.lt_of_lt_of_le hj (hK.2.2.1 q hq)
      rw [r1.2.1 q j e hj2, r2.2.1 q j e hj2]
      exact z.2 j hj
theorem det_keep {K1 K2 L1 L2 : Co} {c1 c2 : Nat} {a1 a2 : Int32} (hE : Eqv K1 K2) (hK : IK K1) (p : Int32) (b : Nat) (h1 : RF_keep K1 p b L1 c1 a1) (h2 : RF_keep K2 p b L2 c2 a2) : same3 c1 c2 (a1 = a2) L1 L2 := by
  have hT : K1.tn = K2.tn := hE.1.1
  have ht := hE.1.2
  have hO : K1.on = K2.on := hE.2.1.1
  have b1 : K1.tn < 2 ^ 30 := Nat.lt_of_le_of_lt hK.1 (by decide)
  have b2 : K2.tn < 2 ^ 30 := by rw [← hT]; exact b1
  have b3 : K1.on < 2 ^ 30 := Nat.lt_of_le_of_lt hK.2.1 (by decide)
  have b4 : K2.on < 2 ^ 30 := by rw [← hO]; exact b3
  have hkn : kN K1 b = kN K2 b := by unfold kN; split; exact hT; exact hO
  rcases h1 with ⟨rfl, u1, rfl⟩ | ⟨i, e1, hi, h1⟩
  · rcases h2 with ⟨rfl, u2, rfl⟩ | ⟨i2, e2, hi2, h2⟩
    · exact s3 (by decide) hE
    · exact (clB u1 e2 hi2 (by omega)).elim
  · rcases h2 with ⟨rfl, u2, rfl⟩ | ⟨i2, e2, hi2, h2⟩
    · exact (clB u2 e1 hi (by omega)).elim
    · have hii : i2 = i := nIq (e2.symm.trans e1) (by omega) (by omega)
      subst hii
      rcases h1 with ⟨rfl, u1, rfl⟩ | ⟨rfl, u1, r1, rfl⟩ <;> rcases h2 with ⟨rfl, u2, rfl⟩ | ⟨rfl, u2, r2, rfl⟩
      · exact s3 (by decide) hE
      · omega
      · omega
      · exact s0 (by rw [hkn]) (keep_row hE hK hi u1 r1 r2)
theorem det_mac {K1 K2 L1 L2 : Co} {c1 c2 : Nat} (hE : Eqv K1 K2) (hK : IK K1) (p : Int32) (h1 : RF_mac K1 p L1 c1) (h2 : RF_mac K2 p L2 c2) : same3 c1 c2 (True) L1 L2 := by
  have hT : K1.tn = K2.tn := hE.1.1
  have ht := hE.1.2
  have hO : K1.on = K2.on := hE.2.1.1
  have b1 : K1.tn < 2 ^ 30 := Nat.lt_of_le_of_lt hK.1 (by decide)
  have b2 : K2.tn < 2 ^ 30 := by rw [← hT]; exact b1
  have b3 : K1.on < 2 ^ 30 := Nat.lt_of_le_of_lt hK.2.1 (by decide)
  have b4 : K2.on < 2 ^ 30 := by rw [← hO]; exact b3
  rcases h1 with ⟨rfl, u1, rfl⟩ | ⟨i, e1, hi, h1⟩
  · rcases h2 with ⟨rfl, u2, rfl⟩ | ⟨i2, e2, hi2, h2⟩
    · exact s3 (by decide) hE
    · exact (clB u1 e2 hi2 (by omega)).elim
  · rcases h2 with ⟨rfl, u2, rfl⟩ | ⟨i2, e2, hi2, h2⟩
    · exact (clB u2 e1 hi (by omega)).elim
    · have hii : i2 = i := nIq (e2.symm.trans e1) (by omega) (by omega)
      subst hii
      obtain ⟨rfl, r1⟩ := h1
      obtain ⟨rfl, r2⟩ := h2
      have hs := hE.2.2.1 i2 hi
      exact s0 trivial (eq_out hE r1 r2 (fun j _ => by rw [← hs.1, ← hT]; exact congrFun (macF_congr hs.2 ht) j))
theorem det_str {K1 K2 L1 L2 : Co} {c1 c2 : Nat} (hE : Eqv K1 K2) (hK : IK K1) (p q : Int32) (h1 : RF_str K1 p q L1 c1) (h2 : RF_str K2 p q L2 c2) : same3 c1 c2 (True) L1 L2 := by
  have hT : K1.tn = K2.tn := hE.1.1
  have ht := hE.1.2
  have hO : K1.on = K2.on := hE.2.1.1
  have b1 : K1.tn < 2 ^ 30 := Nat.lt_of_le_of_lt hK.1 (by decide)
  have b2 : K2.tn < 2 ^ 30 := by rw [← hT]; exact b1
  have b3 : K1.on < 2 ^ 30 := Nat.lt_of_le_of_lt hK.2.1 (by decide)
  have b4 : K2.on < 2 ^ 30 := by rw [← hO]; exact b3
  rcases h1 with ⟨rfl, u1, rfl⟩ | ⟨i, e1, hi, h1⟩
  · rcases h2 with ⟨rfl, u2, rfl⟩ | ⟨i2, e2, hi2, h2⟩
    · exact s3 (by decide) hE
    · exact (clB u1 e2 hi2 (by omega)).elim
  · rcases h2 with ⟨rfl, u2, rfl⟩ | ⟨i2, e2, hi2, h2⟩
    · exact (clB u2 e1 hi (by omega)).elim
    · have hii : i2 = i := nIq (e2.symm.trans e1) (by omega) (by omega)
      subst hii
      have hs := hE.2.2.1 i2 hi
      rcases h1 with ⟨rfl, u1, rfl⟩ | ⟨n, f1, g1, g2, rfl, r1⟩
      · rcases h2 with ⟨rfl, u2, rfl⟩ | ⟨n2, f2, g3, g4, rfl, r2⟩
        · exact s3 (by decide) hE
        · exact (clR u1 f2 g3 g4 (by decide)).elim
      · rcases h2 with ⟨rfl, u2, rfl⟩ | ⟨n2, f2, g3, g4, rfl, r2⟩
        · exact (clR u2 f1 g1 g2 (by decide)).elim
        · have hnn : n2 = n := nIq (f2.symm.trans f1) (by omega) (by omega)
          subst hnn
          exact s0 trivial (eq_out hE r1 r2 (fun j _ => by rw [← hs.1, ← hT]; exact congrFun (strF_congr hs.2 ht) j))
theorem det_lab {K1 K2 L1 L2 : Co} {c1 c2 : Nat} (hE : Eqv K1 K2) (hK : IK K1) (p w q : Int32) (h1 : RF_lab K1 p w q L1 c1) (h2 : RF_lab K2 p w q L2 c2) : same3 c1 c2 (True) L1 L2 := by
  have hT : K1.tn = K2.tn := hE.1.1
  have ht := hE.1.2
  have hO : K1.on = K2.on := hE.2.1.1
  have b1 : K1.tn < 2 ^ 30 := Nat.lt_of_le_of_lt hK.1 (by decide)
  have b2 : K2.tn < 2 ^ 30 := by rw [← hT]; exact b1
  have b3 : K1.on < 2 ^ 30 := Nat.lt_of_le_of_lt hK.2.1 (by decide)
  have b4 : K2.on < 2 ^ 30 := by rw [← hO]; exact b3
  rcases h1 with ⟨rfl, u1, rfl⟩ | ⟨i, e1, hi, h1⟩
  · rcases h2 with ⟨rfl, u2, rfl⟩ | ⟨i2, e2, hi2, h2⟩
    · exact s3 (by decide) hE
    · exact (clB u1 e2 hi2 (by omega)).elim
  · rcases h2 with ⟨rfl, u2, rfl⟩ | ⟨i2, e2, hi2, h2⟩
    · exact (clB u2 e1 hi (by omega)).elim
    · have hii : i2 = i := nIq (e2.symm.trans e1) (by omega) (by omega)
      subst hii
      have hs := hE.2.2.1 i2 hi
      rcases h1 with ⟨rfl, u1, rfl⟩ | ⟨v, f1, g1, h1⟩
      · rcases h2 with ⟨rfl, u2, rfl⟩ | ⟨v2, f2, g2, h2⟩
        · exact s3 (by decide) hE
        · exact (clB u1 f2 g2 (by decide)).elim
      · rcases h2 with ⟨rfl, u2, rfl⟩ | ⟨v2, f2, g2, h2⟩
        · exact (clB u2 f1 g1 (by decide)).elim
        · have hvv : v2 = v := nIq (f2.symm.trans f1) (by omega) (by omega)
          subst hvv
          rcases h1 with ⟨rfl, u1, rfl⟩ | ⟨n, k1, m1, m2, h1⟩
          · rcases h2 with ⟨rfl, u2, rfl⟩ | ⟨n2, k2, m3, m4, h2⟩
            · exact s3 (by decide) hE
            · exact (clR u1 k2 m3 m4 (by decide)).elim
          · rcases h2 with ⟨rfl, u2, rfl⟩ | ⟨n2, k2, m3, m4, h2⟩
            · exact (clR u2 k1 m1 m2 (by decide)).elim
            · have hnn : n2 = n := nIq (k2.symm.trans k1) (by omega) (by omega)
              subst hnn
              rcases h1 with ⟨rfl, u1, rfl⟩ | ⟨rfl, u1, r1⟩ <;> rcases h2 with ⟨rfl, u2, rfl⟩ | ⟨rfl, u2, r2⟩
              · exact s3 (by decide) hE
              · omega
              · omega
              · exact s0 trivial (eq_out hE r1 r2 (fun j _ => by rw [← hs.1, ← hT]; exact congrFun (labF_congr hs.2 ht) j))
theorem det_blk {K1 K2 L1 L2 : Co} {c1 c2 : Nat} (hE : Eqv K1 K2) (hK : IK K1) (p : Int32) (q : Wd) (h1 : RF_blk K1 p q L1 c1) (h2 : RF_blk K2 p q L2 c2) : same3 c1 c2 (True) L1 L2 := by
  have hT : K1.tn = K2.tn := hE.1.1
  have ht := hE.1.2
  have hO : K1.on = K2.on := hE.2.1.1
  have b1 : K1.tn < 2 ^ 30 := Nat.lt_of_le_of_lt hK.1 (by decide)
  have b2 : K2.tn < 2 ^ 30 := by rw [← hT]; exact b1
  have b3 : K1.on < 2 ^ 30 := Nat.lt_of_le_of_lt hK.2.1 (by decide)
  have b4 : K2.on < 2 ^ 30 := by rw [← hO]; exact b3
  rcases h1 with ⟨rfl, u1, rfl⟩ | ⟨i, e1, hi, h1⟩
  · rcases h2 with ⟨rfl, u2, rfl⟩ | ⟨i2, e2, hi2, h2⟩
    · exact s3 (by decide) hE
    · exact (clB u1 e2 hi2 (by omega)).elim
  · rcases h2 with ⟨rfl, u2, rfl⟩ | ⟨i2, e2, hi2, h2⟩
    · exact (clB u2 e1 hi (by omega)).elim
    · have hii : i2 = i := nIq (e2.symm.trans e1) (by omega) (by omega)
      subst hii
      have hs := hE.2.2.1 i2 hi
      rcases h1 with ⟨rfl, u1, rfl⟩ | ⟨rfl, u1, v1, r1⟩ <;> rcases h2 with ⟨rfl, u2, rfl⟩ | ⟨rfl, u2, v2, r2⟩
      · exact s3 (by decide) hE
      · rw [hs.1, hT] at u1; exact (u1.elim (fun z => z u2) (fun z => z v2)).elim
      · rw [← hs.1, ← hT] at u2; exact (u2.elim (fun z => z u1) (fun z => z v1)).elim
      · exact s0 trivial (eq_out hE r1 r2 (ccF_congr (fun j hj => hs.2 j (by omega)) (fun j hj => ht j (by omega))))
theorem det_tal {K1 K2 L1 L2 : Co} {c1 c2 : Nat} (hE : Eqv K1 K2) (hK : IK K1) (p : Int32) (h1 : RF_tal K1 p L1 c1) (h2 : RF_tal K2 p L2 c2) : same3 c1 c2 (True) L1 L2 := by
  have hT : K1.tn = K2.tn := hE.1.1
  have ht := hE.1.2
  have hO : K1.on = K2.on := hE.2.1.1
  have b1 : K1.tn < 2 ^ 30 := Nat.lt_of_le_of_lt hK.1 (by decide)
  have b2 : K2.tn < 2 ^ 30 := by rw [← hT]; exact b1
  have b3 : K1.on < 2 ^ 30 := Nat.lt_of_le_of_lt hK.2.1 (by decide)
  have b4 : K2.on < 2 ^ 30 := by rw [← hO]; exact b3
  rcases h1 with ⟨rfl, u1, rfl⟩ | ⟨i, e1, hi, h1⟩
  · rcases h2 with ⟨rfl, u2, rfl⟩ | ⟨i2, e2, hi2, h2⟩
    · exact s3 (by decide) hE
    · exact (clB u1 e2 hi2 (by omega)).elim
  · rcases h2 with ⟨rfl, u2, rfl⟩ | ⟨i2, e2, hi2, h2⟩
    · exact (clB u2 e1 hi (by omega)).elim
    · have hii : i2 = i := nIq (e2.symm.trans e1) (by omega) (by omega)
      subst hii
      have hs := hE.2.2.1 i2 hi
      rcases h1 with ⟨rfl, u1, rfl⟩ | ⟨rfl, u1, r1⟩ <;> rcases h2 with ⟨rfl, u2, rfl⟩ | ⟨rfl, u2, r2⟩
      · exact s3 (by decide) hE
      · exact absurd (hs.1.trans u2) u1
      · exact absurd (hs.1.symm.trans u1) u2
      · exact s0 trivial (eq_out hE r1 r2 (fun j _ => by rw [← hT]; exact congrFun (talF_congr (fun j hj => hs.2 j (by omega)) ht) j))
theorem row_eq {f1 f1' f2 f2' : Nat → Nat → By} {g n : Nat} {F1 F2 : Nat → By} (h1 : rowIs f1 f1' g n F1) (h2 : rowIs f2 f2' g n F2) (hn : n ≤ 32) (hF : ∀ j, j < n → F1 j = F2 j) : (∀ j, j < n → f1' g j = f2' g j) ∧ ∀ q, q ≠ g → ∀ m, m ≤ 32 → (∀ j, j < m → f1 q j = f2 q j) → ∀ j, j < m → f1' q j = f2' q j :=
  ⟨fun j hj => by rw [h1.2 j hj, h2.2 j hj, hF j hj], fun q hq m hm h j hj => by rw [h1.1 q j hq (by omega), h2.1 q j hq (by omega), h j hj]⟩
theorem det_arm {K1 K2 L1 L2 : Co} {c1 c2 : Nat} (hE : Eqv K1 K2) (hK : IK K1) (p q : Int32) (h1 : RF_arm K1 p q L1 c1) (h2 : RF_arm K2 p q L2 c2) : same3 c1 c2 (True) L1 L2 := by
  have hT : K1.tn = K2.tn := hE.1.1
  have ht := hE.1.2
  have hO : K1.on = K2.on := hE.2.1.1
  have b1 : K1.tn < 2 ^ 30 := Nat.lt_of_le_of_lt hK.1 (by decide)
  have b2 : K2.tn < 2 ^ 30 := by rw [← hT]; exact b1
  have b3 : K1.on < 2 ^ 30 := Nat.lt_of_le_of_lt hK.2.1 (by decide)
  have b4 : K2.on < 2 ^ 30 := by rw [← hO]; exact b3
  rcases h1 with ⟨rfl, u1, rfl⟩ | ⟨i, e1, hi, h1⟩
  · rcases h2 with ⟨rfl, u2, rfl⟩ | ⟨i2, e2, hi2, h2⟩
    · exact s3 (by decide) hE
    · exact (clB u1 e2 hi2 (by omega)).elim
  · rcases h2 with ⟨rfl, u2, rfl⟩ | ⟨i2, e2, hi2, h2⟩
    · exact (clB u2 e1 hi (by omega)).elim
    · have hii : i2 = i := nIq (e2.symm.trans e1) (by omega) (by omega)
      subst hii
      rcases h1 with ⟨rfl, u1, rfl⟩ | ⟨s, f1, g1, h1⟩
      · rcases h2 with ⟨rfl, u2, rfl⟩ | ⟨s2, f2, g2, h2⟩
        · exact s3 (by decide) hE
        · exact (clB u1 f2 g2 (by decide)).elim
      · rcases h2 with ⟨rfl, u2, rfl⟩ | ⟨s2, f2, g2, h2⟩
        · exact (clB u2 f1 g1 (by decide)).elim
        · have hvv : s2 = s := nIq (f2.symm.trans f1) (by omega) (by omega)
          subst hvv
          have hs := hE.2.2.1 s2 g1
          rcases h1 with ⟨rfl, u1, rfl⟩ | ⟨rfl, u1, r1⟩ <;> rcases h2 with ⟨rfl, u2, rfl⟩ | ⟨rfl, u2, r2⟩
          · exact s3 (by decide) hE
          · exact absurd (hs.1.trans u2) u1
          · exact absurd (hs.1.symm.trans u1) u2
          · have hb : ∀ j, j < 32 → K1.sb s2 j = K2.sb s2 j := fun j hj => hs.2 j (by omega)
            have z1 := row_eq r1.2.2.2.2.1 r2.2.2.2.2.1 (by decide) hb
            have z2 := row_eq r1.2.2.2.2.2.1 r2.2.2.2.2.2.1 (by decide) (fun j _ => congrFun (labF_congr hb (fun _ h => absurd h (by omega))) j)
            have z3 := row_eq r1.2.2.2.2.2.2.1 r2.2.2.2.2.2.2.1 (by decide) (fun j _ => congrFun (labF_congr hb (fun _ h => absurd h (by omega))) j)
            have z4 := row_eq r1.2.2.2.2.2.2.2 r2.2.2.2.2.2.2.2 (by decide) (fun j _ => congrFun (labF_congr hb (fun _ h => absurd h (by omega))) j)
            refine s0 trivial ⟨hE.1.same r1.1 r2.1, hE.2.1.same r1.2.1 r2.2.1, hE.2.2.1.same r1.2.2.1 r2.2.2.1, fun g hg => ?_⟩
            rw [r1.2.2.2.1, r2.2.2.2.1]
            unfold va_up
            by_cases e : g = i2
            · subst e
              rw [if_pos rfl, if_pos rfl]
              exact ⟨rfl, fun _ => ⟨z1.1, z2.1, z3.1, z4.1⟩⟩
            · rw [if_neg e, if_neg e]
              have y := hE.2.2.2 g hg
              exact ⟨y.1, fun ha => ⟨z1.2 g e 32 (by decide) (y.2 ha).1, z2.2 g e 32 (by decide) (y.2 ha).2.1, z3.2 g e 12 (by decide) (y.2 ha).2.2.1, z4.2 g e 32 (by decide) (y.2 ha).2.2.2⟩⟩
theorem det_turn {K1 K2 L1 L2 : Co} {c1 c2 : Nat} {a1 a2 : Int32} (hE : Eqv K1 K2) (hK : IK K1) (p : Int32) (h1 : RF_turn K1 p L1 c1 a1) (h2 : RF_turn K2 p L2 c2 a2) : same3 c1 c2 (a1 = a2) L1 L2 := by
  have hT : K1.tn = K2.tn := hE.1.1
  have ht := hE.1.2
  have hO : K1.on = K2.on := hE.2.1.1
  have b1 : K1.tn < 2 ^ 30 := Nat.lt_of_le_of_lt hK.1 (by decide)
  have b2 : K2.tn < 2 ^ 30 := by rw [← hT]; exact b1
  have b3 : K1.on < 2 ^ 30 := Nat.lt_of_le_of_lt hK.2.1 (by decide)
  have b4 : K2.on < 2 ^ 30 := by rw [← hO]; exact b3
  rcases h1 with ⟨rfl, u1, rfl⟩ | ⟨i, e1, hi, h1⟩
  · rcases h2 with ⟨rfl, u2, rfl⟩ | ⟨i2, e2, hi2, h2⟩
    · exact s3 (by decide) hE
    · exact (clB u1 e2 hi2 (by omega)).elim
  · rcases h2 with ⟨rfl, u2, rfl⟩ | ⟨i2, e2, hi2, h2⟩
    · exact (clB u2 e1 hi (by omega)).elim
    · have hii : i2 = i := nIq (e2.symm.trans e1) (by omega) (by omega)
      subst hii
      have y := hE.2.2.2 i2 hi
      rcases h1 with ⟨rfl, u1, rfl⟩ | ⟨rfl, u1, r1, rfl⟩ <;> rcases h2 with ⟨rfl, u2, rfl⟩ | ⟨rfl, u2, r2, rfl⟩
      · exact s3 (by decide) hE
      · exact absurd (y.1.symm.trans u1) u2
      · exact absurd (y.1.trans u2) u1
      · have hb := (y.2 u1).1
        have z1 := row_eq r1.2.2.2.2.1 r2.2.2.2.2.1 (by decide) (fun j _ => congrFun (labF_congr hb (fun _ h => absurd h (by omega))) j)
        have z2 := row_eq r1.2.2.2.2.2.1 r2.2.2.2.2.2.1 (by decide) (fun j _ => congrFun (labF_congr z1.1 (fun _ h => absurd h (by omega))) j)
        have z3 := row_eq r1.2.2.2.2.2.2.1 r2.2.2.2.2.2.2.1 (by decide) (fun j _ => congrFun (labF_congr z1.1 (fun _ h => absurd h (by omega))) j)
        refine s0 (by rw [y.1]) ⟨hE.1.same r1.1 r2.1, hE.2.1.same r1.2.1 r2.2.1, hE.2.2.1.same r1.2.2.1 r2.2.2.1, fun g hg => ?_⟩
        unfold eqR
        rw [r1.2.2.2.1, r2.2.2.2.1, r1.2.2.2.2.2.2.2, r2.2.2.2.2.2.2.2]
        unfold va_up
        by_cases e : g = i2
        · subst e
          rw [if_pos rfl, if_pos rfl]
          exact ⟨by rw [y.1], fun _ => ⟨z1.1, z2.1, z3.1, (y.2 u1).2.2.2⟩⟩
        · rw [if_neg e, if_neg e]
          have y2 := hE.2.2.2 g hg
          exact ⟨y2.1, fun ha => ⟨z1.2 g e 32 (by decide) (y2.2 ha).1, z2.2 g e 32 (by decide) (y2.2 ha).2.1, z3.2 g e 12 (by decide) (y2.2 ha).2.2.1, (y2.2 ha).2.2.2⟩⟩
theorem nonF_congr {iv iv' : Nat → By} {x : BitVec 64} (h : ∀ j, j < 12 → iv j = iv' j) : ∀ j, j < 12 → nonF iv x j = nonF iv' x j := fun j hj => by unfold nonF; rw [h j hj]
theorem sealF_congr {k k' iv iv' t t' : Nat → By} {x : BitVec 64} {h n : Nat} (hh : h ≤ n) (hk : ∀ j, j < 32 → k j = k' j) (hi : ∀ j, j < 12 → iv j = iv' j) (ht : ∀ j, j < n → t j = t' j) : ∀ j, j < n + 16 → sealF k iv x t h n j = sealF k' iv' x t' h n j := by
  intro j hj
  have hc : ∀ q, q < n → covF k (nonF iv x) t h n q = covF k' (nonF iv' x) t' h n q := fun q hq => cov_congr2 hk (nonF_congr hi) (ht q hq)
  unfold sealF
  by_cases e : j < n
  · rw [if_pos e, if_pos e, hc j e]
  · rw [if_neg e, if_neg e]
    exact congrFun (tagF_congr (fun q hq => ccF_congr hk (nonF_congr hi) q (by omega)) (fun q hq => hc q (by omega))) _
theorem openOk_congr {k k' iv iv' t t' : Nat → By} {x : BitVec 64} {h m : Nat} (hh : h ≤ m) (hk : ∀ j, j < 32 → k j = k' j) (hi : ∀ j, j < 12 → iv j = iv' j) (ht : ∀ j, j < m + 16 → t j = t' j) : openOk k iv x t h m ↔ openOk k' iv' x t' h m := by
  have e : tagF (ccF k (nonF iv x) 0#32) t h (m - h) = tagF (ccF k' (nonF iv' x) 0#32) t' h (m - h) := tagF_congr (fun q hq => ccF_congr hk (nonF_congr hi) q (by omega)) (fun q hq => ht q (by omega))
  unfold openOk
  rw [e]
  exact ⟨fun q j hj => by rw [← ht _ (by omega)]; exact q j hj, fun q j hj => by rw [ht _ (by omega)]; exact q j hj⟩
theorem hd_all {hide hide' t t' : Nat → By} {pl d n : Nat} (hp : pl + 20 ≤ n) (hh : ∀ j, j < 32 → hide j = hide' j) (ht : ∀ j, j < n → t j = t' j) : hdN hide t pl d = hdN hide' t' pl d ∧ ∀ j, j < n → hdF hide t pl (hdN hide t pl d) j = hdF hide' t' pl (hdN hide' t' pl d) j := by
  have ht20 : ∀ j, j < pl + 20 → t j = t' j := fun j hj => ht j (by omega)
  have hm : ∀ j, j < 64 → hdM hide t' pl j = hdM hide' t' pl j := fun j hj => by unfold hdM; exact ccF_congr hh (fun _ _ => rfl) j hj
  have h0 : hd0 hide t' pl = hd0 hide' t' pl := by unfold hd0; rw [hm 0 (by decide)]
  have hn : hdN hide t' pl d = hdN hide' t' pl d := by unfold hdN; rw [h0]
  have hn1 : hdN hide t pl d = hdN hide' t' pl d := (hdN_congr ht20).trans hn
  refine ⟨hn1, fun j hj => ?_⟩
  rw [hn1, ← hn, hdF_congr ht20 (ht j hj)]
  have hle := hdN_le hide t' pl d
  unfold hdF
  rw [h0]
  by_cases e : j = 0
  · rw [if_pos e, if_pos e]
  rw [if_neg e, if_neg e]
  by_cases e2 : pl ≤ j ∧ j < pl + hdN hide t' pl d
  · rw [if_pos e2, if_pos e2, hm _ (by omega)]
  · rw [if_neg e2, if_neg e2]
theorem det_seal {K1 K2 L1 L2 : Co} {c1 c2 : Nat} {a1 a2 : Int32} (hE : Eqv K1 K2) (hK : IK K1) (p : Int32) (x : BitVec 64) (h : Int32) (h1 : RF_seal K1 p x h L1 c1 a1) (h2 : RF_seal K2 p x h L2 c2 a2) : same3 c1 c2 (a1 = a2) L1 L2 := by
  have hT : K1.tn = K2.tn := hE.1.1
  have ht := hE.1.2
  have hO : K1.on = K2.on := hE.2.1.1
  have b1 : K1.tn < 2 ^ 30 := Nat.lt_of_le_of_lt hK.1 (by decide)
  have b2 : K2.tn < 2 ^ 30 := by rw [← hT]; exact b1
  have b3 : K1.on < 2 ^ 30 := Nat.lt_of_le_of_lt hK.2.1 (by decide)
  have b4 : K2.on < 2 ^ 30 := by rw [← hO]; exact b3
  rcases h1 with ⟨rfl, u1, rfl⟩ | ⟨i, e1, hi, h1⟩
  · rcases h2 with ⟨rfl, u2, rfl⟩ | ⟨i2, e2, hi2, h2⟩
    · exact s3 (by decide) hE
    · exact (clB u1 e2 hi2 (by omega)).elim
  · rcases h2 with ⟨rfl, u2, rfl⟩ | ⟨i2, e2, hi2, h2⟩
    · exact (clB u2 e1 hi (by omega)).elim
    · have hii : i2 = i := nIq (e2.symm.trans e1) (by omega) (by omega)
      subst hii
      have y := hE.2.2.2 i2 hi
      rcases h1 with ⟨rfl, u1, rfl⟩ | ⟨x1, h1⟩
      · rcases h2 with ⟨rfl, u2, rfl⟩ | ⟨x2, h2⟩
        · exact s3 (by decide) hE
        · exact absurd u1 x2
      · rcases h2 with ⟨rfl, u2, rfl⟩ | ⟨x2, h2⟩
        · exact absurd u2 x1
        · rcases h1 with ⟨rfl, u1, rfl⟩ | ⟨n, f1, m1, h1⟩
          · rcases h2 with ⟨rfl, u2, rfl⟩ | ⟨n2, f2, m2, h2⟩
            · exact s3 (by decide) hE
            · rw [hT] at u1; exact (clL u1 f2 m2 (by omega)).elim
          · rcases h2 with ⟨rfl, u2, rfl⟩ | ⟨n2, f2, m2, h2⟩
            · rw [← hT] at u2; exact (clL u2 f1 m1 (by omega)).elim
            · have hnn : n2 = n := nIq (f2.symm.trans f1) (by omega) (by omega)
              subst hnn
              rcases h1 with ⟨rfl, u1, rfl⟩ | ⟨rfl, u1, r1, rfl⟩ <;> rcases h2 with ⟨rfl, u2, rfl⟩ | ⟨rfl, u2, r2, rfl⟩
              · exact s3 (by decide) hE
              · exact absurd (y.1.symm.trans u1) u2
              · exact absurd (y.1.trans u2) u1
              · have hg := y.2 u1
                rw [← hT] at r2
                exact s0 (by rw [hT]) (eq_out hE r1 r2 (sealF_congr m1 hg.2.1 hg.2.2.1 ht))
theorem det_unseal {K1 K2 L1 L2 : Co} {c1 c2 : Nat} {a1 a2 : Int32} (hE : Eqv K1 K2) (hK : IK K1) (p : Int32) (x : BitVec 64) (h : Int32) (h1 : RF_unseal K1 p x h L1 c1 a1) (h2 : RF_unseal K2 p x h L2 c2 a2) : same3 c1 c2 (a1 = a2) L1 L2 := by
  have hT : K1.tn = K2.tn := hE.1.1
  have ht := hE.1.2
  have hO : K1.on = K2.on := hE.2.1.1
  have b1 : K1.tn < 2 ^ 30 := Nat.lt_of_le_of_lt hK.1 (by decide)
  have b2 : K2.tn < 2 ^ 30 := by rw [← hT]; exact b1
  have b3 : K1.on < 2 ^ 30 := Nat.lt_of_le_of_lt hK.2.1 (by decide)
  have b4 : K2.on < 2 ^ 30 := by rw [← hO]; exact b3
  rcases h1 with ⟨rfl, u1, rfl⟩ | ⟨i, e1, hi, h1⟩
  · rcases h2 with ⟨rfl, u2, rfl⟩ | ⟨i2, e2, hi2, h2⟩
    · exact s3 (by decide) hE
    · exact (clB u1 e2 hi2 (by omega)).elim
  · rcases h2 with ⟨rfl, u2, rfl⟩ | ⟨i2, e2, hi2, h2⟩
    · exact (clB u2 e1 hi (by omega)).elim
    · have hii : i2 = i := nIq (e2.symm.trans e1) (by omega) (by omega)
      subst hii
      have y := hE.2.2.2 i2 hi
      rcases h1 with ⟨rfl, u1, rfl⟩ | ⟨x1, h1⟩
      · rcases h2 with ⟨rfl, u2, rfl⟩ | ⟨x2, h2⟩
        · exact s3 (by decide) hE
        · exact absurd u1 x2
      · rcases h2 with ⟨rfl, u2, rfl⟩ | ⟨x2, h2⟩
        · exact absurd u2 x1
        · rcases h1 with ⟨rfl, u1, rfl⟩ | ⟨n, f1, m1, h1⟩
          · rcases h2 with ⟨rfl, u2, rfl⟩ | ⟨n2, f2, m2, h2⟩
            · exact s3 (by decide) hE
            · rw [hT] at u1; exact (clS0 u1 f2 m2 (by omega)).elim
          · rcases h2 with ⟨rfl, u2, rfl⟩ | ⟨n2, f2, m2, h2⟩
            · rw [← hT] at u2; exact (clS0 u2 f1 m1 (by omega)).elim
            · have hnn : n2 = n := nIq (f2.symm.trans f1) (by omega) (by omega)
              subst hnn
              rcases h1 with ⟨rfl, u1, rfl⟩ | ⟨rfl, u1, r1⟩ <;> rcases h2 with ⟨rfl, u2, rfl⟩ | ⟨rfl, u2, r2⟩
              · exact s3 (by decide) hE
              · exact absurd (y.1.symm.trans u1) u2
              · exact absurd (y.1.trans u2) u1
              · have hg := y.2 u1
                unfold R_open at r1 r2
                rw [← hT] at r2
                have ok := openOk_congr (x := x) (h := n2) (m := K1.tn - 16) (t := K1.tt) (t' := K2.tt) (by omega) hg.2.1 hg.2.2.1 (fun j hj => ht j (by omega))
                rcases r1 with ⟨a1, o1, r1⟩ | ⟨a1, o1, r1⟩ <;> rcases r2 with ⟨a2, o2, r2⟩ | ⟨a2, o2, r2⟩
                · exact s0 (a1.trans a2.symm) (eq_out hE r1 r2 (fun j hj => cov_congr2 hg.2.1 (nonF_congr hg.2.2.1) (ht j (by omega))))
                · exact absurd (ok.mp o1) o2
                · exact absurd (ok.mpr o2) o1
                · exact s0 (a1.trans a2.symm) (eq_out hE r1 r2 (fun _ _ => rfl))
theorem det_shd {K1 K2 L1 L2 : Co} {c1 c2 : Nat} {a1 a2 : Int32} (hE : Eqv K1 K2) (hK : IK K1) (p q : Int32) (d : Nat) (h1 : RF_shd K1 p q d L1 c1 a1) (h2 : RF_shd K2 p q d L2 c2 a2) : same3 c1 c2 (a1 = a2) L1 L2 := by
  have hT : K1.tn = K2.tn := hE.1.1
  have ht := hE.1.2
  have hO : K1.on = K2.on := hE.2.1.1
  have b1 : K1.tn < 2 ^ 30 := Nat.lt_of_le_of_lt hK.1 (by decide)
  have b2 : K2.tn < 2 ^ 30 := by rw [← hT]; exact b1
  have b3 : K1.on < 2 ^ 30 := Nat.lt_of_le_of_lt hK.2.1 (by decide)
  have b4 : K2.on < 2 ^ 30 := by rw [← hO]; exact b3
  rcases h1 with ⟨rfl, u1, rfl⟩ | ⟨i, e1, hi, h1⟩
  · rcases h2 with ⟨rfl, u2, rfl⟩ | ⟨i2, e2, hi2, h2⟩
    · exact s3 (by decide) hE
    · exact (clB u1 e2 hi2 (by omega)).elim
  · rcases h2 with ⟨rfl, u2, rfl⟩ | ⟨i2, e2, hi2, h2⟩
    · exact (clB u2 e1 hi (by omega)).elim
    · have hii : i2 = i := nIq (e2.symm.trans e1) (by omega) (by omega)
      subst hii
      have y := hE.2.2.2 i2 hi
      rcases h1 with ⟨rfl, u1, rfl⟩ | ⟨n, f1, m0, m1, h1⟩
      · rcases h2 with ⟨rfl, u2, rfl⟩ | ⟨n2, f2, m3, m2, h2⟩
        · exact s3 (by decide) hE
        · rw [hT] at u1; exact (clS u1 f2 m3 m2 (by omega)).elim
      · rcases h2 with ⟨rfl, u2, rfl⟩ | ⟨n2, f2, m3, m2, h2⟩
        · rw [← hT] at u2; exact (clS u2 f1 m0 m1 (by omega)).elim
        · have hnn : n2 = n := nIq (f2.symm.trans f1) (by omega) (by omega)
          subst hnn
          rcases h1 with ⟨rfl, u1, rfl⟩ | ⟨rfl, u1, r1, rfl⟩ <;> rcases h2 with ⟨rfl, u2, rfl⟩ | ⟨rfl, u2, r2, rfl⟩
          · exact s3 (by decide) hE
          · exact absurd (y.1.symm.trans u1) u2
          · exact absurd (y.1.trans u2) u1
          · have hg := y.2 u1
            have z := hd_all (d := d) m1 hg.2.2.2 ht
            rw [← hT] at r2
            exact s0 (by rw [z.1]) (eq_out hE r1 r2 z.2)
theorem det_get {K1 K2 L1 L2 : Co} {c1 c2 : Nat} {a1 a2 : Int32} (hE : Eqv K1 K2) (hK : IK K1) (p : Int32) (h1 : RF_get K1 p L1 c1 a1) (h2 : RF_get K2 p L2 c2 a2) : same3 c1 c2 (a1 = a2) L1 L2 := by
  have hT : K1.tn = K2.tn := hE.1.1
  have ht := hE.1.2
  have hO : K1.on = K2.on := hE.2.1.1
  have b1 : K1.tn < 2 ^ 30 := Nat.lt_of_le_of_lt hK.1 (by decide)
  have b2 : K2.tn < 2 ^ 30 := by rw [← hT]; exact b1
  have b3 : K1.on < 2 ^ 30 := Nat.lt_of_le_of_lt hK.2.1 (by decide)
  have b4 : K2.on < 2 ^ 30 := by rw [← hO]; exact b3
  rcases h1 with ⟨rfl, u1, rfl⟩ | ⟨i, e1, hi, rfl, rfl, rfl⟩
  · rcases h2 with ⟨rfl, u2, rfl⟩ | ⟨i2, e2, hi2, rfl, rfl, rfl⟩
    · exact s3 (by decide) hE
    · rw [hO] at u1; exact (clB u1 e2 hi2 (by omega)).elim
  · rcases h2 with ⟨rfl, u2, rfl⟩ | ⟨i2, e2, hi2, rfl, rfl, rfl⟩
    · rw [← hO] at u2; exact (clB u2 e1 hi (by omega)).elim
    · have hii : i2 = i := nIq (e2.symm.trans e1) (by omega) (by omega)
      subst hii
      exact s0 (by rw [hE.2.1.2 _ hi]) hE
theorem ou_congr {t t' : Nat → By} {n i : Nat} (h : ∀ j, j < n → t j = t' j) : ∀ {m : Nat}, i + m ≤ n → ouF t i m = ouF t' i m := by
  intro m
  induction m with
  | zero => intro _; rfl
  | succ m ih => intro hm; simp only [ouF]; rw [ih (by omega), h _ (by omega)]
theorem det_outs {K1 K2 L1 L2 : Co} {c1 c2 : Nat} {a1 a2 : Int64} (hE : Eqv K1 K2) (hK : IK K1) (p : Int32) (h1 : RF_outs K1 p L1 c1 a1) (h2 : RF_outs K2 p L2 c2 a2) : same3 c1 c2 (a1 = a2) L1 L2 := by
  have hT : K1.tn = K2.tn := hE.1.1
  have ht := hE.1.2
  have hO : K1.on = K2.on := hE.2.1.1
  have b1 : K1.tn < 2 ^ 30 := Nat.lt_of_le_of_lt hK.1 (by decide)
  have b2 : K2.tn < 2 ^ 30 := by rw [← hT]; exact b1
  have b3 : K1.on < 2 ^ 30 := Nat.lt_of_le_of_lt hK.2.1 (by decide)
  have b4 : K2.on < 2 ^ 30 := by rw [← hO]; exact b3
  rcases h1 with ⟨rfl, u1, rfl⟩ | ⟨i, e1, hi, rfl, rfl, rfl⟩
  · rcases h2 with ⟨rfl, u2, rfl⟩ | ⟨i2, e2, hi2, rfl, rfl, rfl⟩
    · exact s3 (by decide) hE
    · rw [hO] at u1; exact (clB u1 e2 hi2 (by omega)).elim
  · rcases h2 with ⟨rfl, u2, rfl⟩ | ⟨i2, e2, hi2, rfl, rfl, rfl⟩
    · rw [← hO] at u2; exact (clB u2 e1 hi (by omega)).elim
    · have hii : i2 = i := nIq (e2.symm.trans e1) (by omega) (by omega)
      subst hii
      exact s0 (by rw [← hO, ou_congr (fun j hj => hE.2.1.2 j hj) (by omega)]) hE
theorem det_look {K1 K2 L1 L2 : Co} {c1 c2 : Nat} {a1 a2 : Int32} (hE : Eqv K1 K2) (hK : IK K1) (p : Int32) (h1 : RF_look K1 p L1 c1 a1) (h2 : RF_look K2 p L2 c2 a2) : same3 c1 c2 (a1 = a2) L1 L2 := by
  have hT : K1.tn = K2.tn := hE.1.1
  have ht := hE.1.2
  have hO : K1.on = K2.on := hE.2.1.1
  have b1 : K1.tn < 2 ^ 30 := Nat.lt_of_le_of_lt hK.1 (by decide)
  have b2 : K2.tn < 2 ^ 30 := by rw [← hT]; exact b1
  have b3 : K1.on < 2 ^ 30 := Nat.lt_of_le_of_lt hK.2.1 (by decide)
  have b4 : K2.on < 2 ^ 30 := by rw [← hO]; exact b3
  rcases h1 with ⟨rfl, u1, rfl⟩ | ⟨i, e1, hi, rfl, rfl, rfl⟩
  · rcases h2 with ⟨rfl, u2, rfl⟩ | ⟨i2, e2, hi2, rfl, rfl, rfl⟩
    · exact s3 (by decide) hE
    · exact (clB u1 e2 hi2 (by decide)).elim
  · rcases h2 with ⟨rfl, u2, rfl⟩ | ⟨i2, e2, hi2, rfl, rfl, rfl⟩
    · exact (clB u2 e1 hi (by decide)).elim
    · have hii : i2 = i := nIq (e2.symm.trans e1) (by omega) (by omega)
      subst hii
      refine s0 ?_ hE
      unfold lookF
      rw [hT, hO]
      by_cases q0 : i2 = 0
      · rw [if_pos q0, if_pos q0]
      rw [if_neg q0, if_neg q0]
      by_cases q1 : i2 = 1
      · rw [if_pos q1, if_pos q1]
      rw [if_neg q1, if_neg q1]
      by_cases q2 : i2 < 10
      · rw [if_pos q2, if_pos q2, (hE.2.2.1 (i2 - 2) (by omega)).1]
      · rw [if_neg q2, if_neg q2, (hE.2.2.2 (i2 - 10) (by omega)).1]
