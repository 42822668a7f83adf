/-! what each call answers: the two sides meet here -/
theorem vM.room {l : Launch} {D : va_G} {y : MethodName} {cc : ByteArray} {maxL : Nat} {ret : Option FieldType} {rm rm' : Room} {av : List Value} {wi : va_W} {post : Option Value → va_W → Prop} (M : vM l D y cc maxL ret rm av wi post) (hf : rm.frames ≤ rm'.frames) (hl : rm.locals ≤ rm'.locals) (hc : rm'.cells = rm.cells) (hs : rm'.slots = rm.slots) : vM l D y cc maxL ret rm' av wi post := by
  intro sz
  rw [hc, hs]
  exact MetFree.respec (M sz) (S' := headSpec [.code y cc maxL ret] rm') (fun _ _ h => h) hf hl (Nat.le_of_eq hc.symm) (Nat.le_of_eq hs.symm)
def badI (p : Int32) (n : Nat) : Prop := p < 0 ∨ nI n ≤ p
def kN (K : Co) (b : Nat) : Nat := if b = 0 then K.tn else K.on
def RF_feed (K : Co) (p : Int32) (x : BitVec 64) (K' : Co) (c : Nat) (a : Int32) : Prop := (c = 1 ∧ (p < nI 1 ∨ nI 8 < p) ∧ K' = K) ∨ ∃ n, p = nI n ∧ 1 ≤ n ∧ n ≤ 8 ∧ ((c = 2 ∧ 2048 < K.tn + n ∧ K' = K) ∨ (c = 0 ∧ K.tn + n ≤ 2048 ∧ R_feed K n x K' ∧ a = nI (K.tn + n)))
def RF_keep (K : Co) (p : Int32) (b : Nat) (K' : Co) (c : Nat) (a : Int32) : Prop := (c = 1 ∧ badI p 8 ∧ K' = K) ∨ ∃ i, p = nI i ∧ i < 8 ∧ ((c = 2 ∧ 128 < kN K b ∧ K' = K) ∨ (c = 0 ∧ kN K b ≤ 128 ∧ R_keep K b i K' ∧ a = nI (kN K b)))
def RF_mac (K : Co) (p : Int32) (K' : Co) (c : Nat) : Prop := (c = 1 ∧ badI p 8 ∧ K' = K) ∨ ∃ i, p = nI i ∧ i < 8 ∧ c = 0 ∧ R_out K 32 (macF (K.sb i) (K.sn i) K.tt K.tn) K'
def RF_str (K : Co) (p q : Int32) (K' : Co) (c : Nat) : Prop := (c = 1 ∧ badI p 8 ∧ K' = K) ∨ ∃ i, p = nI i ∧ i < 8 ∧ ((c = 1 ∧ (q < nI 1 ∨ nI 1024 < q) ∧ K' = K) ∨ ∃ n, q = nI n ∧ 1 ≤ n ∧ n ≤ 1024 ∧ c = 0 ∧ R_out K n (strF (K.sb i) (K.sn i) K.tt K.tn) K')
def RF_lab (K : Co) (p w q : Int32) (K' : Co) (c : Nat) : Prop := (c = 1 ∧ badI p 8 ∧ K' = K) ∨ ∃ i, p = nI i ∧ i < 8 ∧ ((c = 1 ∧ badI w 11 ∧ K' = K) ∨ ∃ v, w = nI v ∧ v < 11 ∧ ((c = 1 ∧ (q < nI 1 ∨ nI 1024 < q) ∧ K' = K) ∨ ∃ n, q = nI n ∧ 1 ≤ n ∧ n ≤ 1024 ∧ ((c = 2 ∧ 255 < K.tn ∧ K' = K) ∨ (c = 0 ∧ K.tn ≤ 255 ∧ R_out K n (labF (K.sb i) (K.sn i) v K.tt K.tn n) K'))))
def RF_blk (K : Co) (p : Int32) (q : Wd) (K' : Co) (c : Nat) : Prop := (c = 1 ∧ badI p 8 ∧ K' = K) ∨ ∃ i, p = nI i ∧ i < 8 ∧ ((c = 2 ∧ (K.sn i ≠ 32 ∨ K.tn ≠ 12) ∧ K' = K) ∨ (c = 0 ∧ K.sn i = 32 ∧ K.tn = 12 ∧ R_out K 64 (ccF (K.sb i) K.tt q) K'))
def RF_tal (K : Co) (p : Int32) (K' : Co) (c : Nat) : Prop := (c = 1 ∧ badI p 8 ∧ K' = K) ∨ ∃ i, p = nI i ∧ i < 8 ∧ ((c = 2 ∧ K.sn i ≠ 32 ∧ K' = K) ∨ (c = 0 ∧ K.sn i = 32 ∧ R_out K 16 (talF (K.sb i) K.tt K.tn) K'))
def RF_arm (K : Co) (p q : Int32) (K' : Co) (c : Nat) : Prop := (c = 1 ∧ badI p 4 ∧ K' = K) ∨ ∃ g, p = nI g ∧ g < 4 ∧ ((c = 1 ∧ badI q 8 ∧ K' = K) ∨ ∃ i, q = nI i ∧ i < 8 ∧ ((c = 2 ∧ K.sn i ≠ 32 ∧ K' = K) ∨ (c = 0 ∧ K.sn i = 32 ∧ R_arm K g i K')))
def RF_turn (K : Co) (p : Int32) (K' : Co) (c : Nat) (a : Int32) : Prop := (c = 1 ∧ badI p 4 ∧ K' = K) ∨ ∃ g, p = nI g ∧ g < 4 ∧ ((c = 2 ∧ K.gp g = NA ∧ K' = K) ∨ (c = 0 ∧ K.gp g ≠ NA ∧ R_turn K g K' ∧ a = wI (1#32 - K.gp g)))
def RF_seal (K : Co) (p : Int32) (x : BitVec 64) (h : Int32) (K' : Co) (c : Nat) (a : Int32) : Prop := (c = 1 ∧ badI p 4 ∧ K' = K) ∨ ∃ g, p = nI g ∧ g < 4 ∧ ((c = 1 ∧ xL x < 0 ∧ K' = K) ∨ (¬ xL x < 0 ∧ ((c = 1 ∧ (h < 0 ∨ nI K.tn < h) ∧ K' = K) ∨ ∃ n, h = nI n ∧ n ≤ K.tn ∧ ((c = 2 ∧ K.gp g = NA ∧ K' = K) ∨ (c = 0 ∧ K.gp g ≠ NA ∧ R_out K (K.tn + 16) (sealF (K.gk g) (K.gi g) x K.tt n K.tn) K' ∧ a = nI (K.tn + 16))))))
def RF_unseal (K : Co) (p : Int32) (x : BitVec 64) (h : Int32) (K' : Co) (c : Nat) (a : Int32) : Prop := (c = 1 ∧ badI p 4 ∧ K' = K) ∨ ∃ g, p = nI g ∧ g < 4 ∧ ((c = 1 ∧ xL x < 0 ∧ K' = K) ∨ (¬ xL x < 0 ∧ ((c = 1 ∧ (h < 0 ∨ nI K.tn - nI 16 < h) ∧ K' = K) ∨ ∃ n, h = nI n ∧ n + 16 ≤ K.tn ∧ ((c = 2 ∧ K.gp g = NA ∧ K' = K) ∨ (c = 0 ∧ K.gp g ≠ NA ∧ R_open K g x n K' a)))))
def RF_shd (K : Co) (p q : Int32) (d : Nat) (K' : Co) (c : Nat) (a : Int32) : Prop := (c = 1 ∧ badI p 4 ∧ K' = K) ∨ ∃ g, p = nI g ∧ g < 4 ∧ ((c = 1 ∧ (q < nI 1 ∨ nI K.tn - nI 20 < q) ∧ K' = K) ∨ ∃ n, q = nI n ∧ 1 ≤ n ∧ n + 20 ≤ K.tn ∧ ((c = 2 ∧ K.gp g = NA ∧ K' = K) ∨ (c = 0 ∧ K.gp g ≠ NA ∧ R_out K K.tn (hdF (K.gh g) K.tt n (hdN (K.gh g) K.tt n d)) K' ∧ a = nI (hdN (K.gh g) K.tt n d))))
def RF_get (K : Co) (p : Int32) (K' : Co) (c : Nat) (a : Int32) : Prop := (c = 1 ∧ badI p K.on ∧ K' = K) ∨ ∃ i, p = nI i ∧ i < K.on ∧ c = 0 ∧ K' = K ∧ a = nI (K.ot i).toNat
def RF_outs (K : Co) (p : Int32) (K' : Co) (c : Nat) (a : Int64) : Prop := (c = 1 ∧ badI p K.on ∧ K' = K) ∨ ∃ i, p = nI i ∧ i < K.on ∧ c = 0 ∧ K' = K ∧ a = xL (ouF K.ot i (min 8 (K.on - i)))
def RF_look (K : Co) (p : Int32) (K' : Co) (c : Nat) (a : Int32) : Prop := (c = 1 ∧ badI p 14 ∧ K' = K) ∨ ∃ i, p = nI i ∧ i < 14 ∧ c = 0 ∧ K' = K ∧ a = lookF K i
/-! which case it is -/
theorem nI_toI {n : Nat} (h : n < 2 ^ 31) : (nI n).toInt = n := nI_toInt h
theorem i_of_n (p : Int32) (h : 0 ≤ p.toInt) : p = nI p.toInt.toNat ∧ p.toInt.toNat < 2 ^ 31 := by
  have hlt : p.toInt < 2 ^ 31 := Int32.toInt_lt p
  refine ⟨?_, by omega⟩
  apply Int32.toInt_inj.mp
  rw [nI_toI (by omega)]
  omega
theorem cl_bad (p : Int32) {N : Nat} (hN : N < 2 ^ 31) : badI p N ∨ ∃ i, p = nI i ∧ i < N := by
  by_cases h0 : p.toInt < 0
  · exact Or.inl (Or.inl (Int32.lt_iff_toInt_lt.mpr h0))
  · obtain ⟨e, hb⟩ := i_of_n p (by omega)
    by_cases h1 : p.toInt.toNat < N
    · exact Or.inr ⟨_, e, h1⟩
    · refine Or.inl (Or.inr (Int32.le_iff_toInt_le.mpr ?_))
      rw [nI_toI hN]
      omega
theorem cl_rng (p : Int32) {A N : Nat} (hA : A < 2 ^ 31) (hN : N < 2 ^ 31) : (p < nI A ∨ nI N < p) ∨ ∃ i, p = nI i ∧ A ≤ i ∧ i ≤ N := by
  by_cases h0 : p.toInt < A
  · exact Or.inl (Or.inl (Int32.lt_iff_toInt_lt.mpr (by rw [nI_toI hA]; exact h0)))
  · obtain ⟨e, hb⟩ := i_of_n p (by omega)
    by_cases h1 : p.toInt.toNat ≤ N
    · exact Or.inr ⟨_, e, by omega, h1⟩
    · refine Or.inl (Or.inr (Int32.lt_iff_toInt_lt.mpr ?_))
      rw [nI_toI hN]
      omega
theorem cl_low (p : Int32) {N : Nat} (hN : N < 2 ^ 31) : (p < 0 ∨ nI N < p) ∨ ∃ i, p = nI i ∧ i ≤ N := by
  rcases cl_rng p (A := 0) (N := N) (by decide) hN with (h | h) | ⟨i, h1, -, h2⟩
  · exact Or.inl (Or.inl h)
  · exact Or.inl (Or.inr h)
  · exact Or.inr ⟨i, h1, h2⟩
theorem sub_toInt {a b : Nat} (ha : a < 2 ^ 30) (hb : b < 2 ^ 30) : (nI a - nI b).toInt = (a : Int) - b := by
  rw [Int32.toInt_sub, nI_toI (by omega), nI_toI (by omega)]
  apply Int.bmod_eq_of_le <;> omega
theorem cl_sub (p : Int32) {A T k : Nat} (hA : A < 2 ^ 30) (hT : T < 2 ^ 30) (hk : k < 2 ^ 30) : (p < nI A ∨ nI T - nI k < p) ∨ ∃ i, p = nI i ∧ A ≤ i ∧ i + k ≤ T := by
  by_cases h0 : p.toInt < A
  · exact Or.inl (Or.inl (Int32.lt_iff_toInt_lt.mpr (by rw [nI_toI (by omega)]; exact h0)))
  · obtain ⟨e, hb⟩ := i_of_n p (by omega)
    by_cases h1 : p.toInt.toNat + k ≤ T
    · exact Or.inr ⟨_, e, by omega, h1⟩
    · refine Or.inl (Or.inr (Int32.lt_iff_toInt_lt.mpr ?_))
      rw [sub_toInt hT hk]
      omega
theorem cl_sub0 (p : Int32) {T k : Nat} (hT : T < 2 ^ 30) (hk : k < 2 ^ 30) : (p < 0 ∨ nI T - nI k < p) ∨ ∃ i, p = nI i ∧ i + k ≤ T := by
  rcases cl_sub p (A := 0) (by decide) hT hk with (h | h) | ⟨i, h1, -, h2⟩
  · exact Or.inl (Or.inl h)
  · exact Or.inl (Or.inr h)
  · exact Or.inr ⟨i, h1, h2⟩
