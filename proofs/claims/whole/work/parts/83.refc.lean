set_option maxRecDepth 100000 in
theorem mr_feed (l : Launch) (D : va_G) (ad : Nat → Nat) (M : Sm) (hI : IM M) (p : Int32) (x : BitVec 64) : vM l D yX8_feed cX8_feed 5 (some .int) { frames := 1, cells := 0, slots := 0, locals := 22 } [.ref (ad 0), .int p, .long (xL x)] (MW D ad M) (fun r ws' => ∃ (M' : Sm) (c : Nat) (a : Int32), ws' = MW D ad M' ∧ r = some (.int a) ∧ RF_feed (coM M) p x (coM M') c a ∧ M'.f_thrown = c ∧ IM M') := by
  rcases cl_rng p (A := 1) (N := 8) (by decide) (by decide) with h | ⟨n, rfl, h1, h2⟩
  · exact (((mf_feed1 l D ad M hI p x h).room (rm' := { frames := 1, cells := 0, slots := 0, locals := 22 }) (by decide) (by decide) rfl rfl)).post (fun r wo ⟨M', e1, e2, e3, e4, e5⟩ => ⟨M', 1, _, e1, e2, Or.inl ⟨rfl, h, e3⟩, e4, e5⟩)
  · by_cases h3 : (coM M).tn + n ≤ 2048
    · exact (mm_feed l D ad M hI n x h1 h2 h3).post (fun r wo ⟨M', e1, e2, e3, e4, e5⟩ => ⟨M', 0, _, e1, e2, Or.inr ⟨n, rfl, h1, h2, Or.inr ⟨rfl, h3, e3, rfl⟩⟩, e4, e5⟩)
    · exact (((mf_feed2 l D ad M hI n x h1 h2 (by omega)).room (rm' := { frames := 1, cells := 0, slots := 0, locals := 22 }) (by decide) (by decide) rfl rfl)).post (fun r wo ⟨M', e1, e2, e3, e4, e5⟩ => ⟨M', 2, _, e1, e2, Or.inr ⟨n, rfl, h1, h2, Or.inl ⟨rfl, by omega, e3⟩⟩, e4, e5⟩)
set_option maxRecDepth 100000 in
theorem mr_keep0 (l : Launch) (D : va_G) (ad : Nat → Nat) (M : Sm) (hI : IM M) (p : Int32) : vM l D yX8_keep cX8_keep 5 (some .int) { frames := 1, cells := 0, slots := 0, locals := 22 } [.ref (ad 0), .int p, .int (nI 0)] (MW D ad M) (fun r ws' => ∃ (M' : Sm) (c : Nat) (a : Int32), ws' = MW D ad M' ∧ r = some (.int a) ∧ RF_keep (coM M) p 0 (coM M') c a ∧ M'.f_thrown = c ∧ IM M') := by
  rcases cl_bad p (N := 8) (by decide) with h | ⟨i, rfl, h1⟩
  · exact (((mf_keepA0 l D ad M hI p h).room (rm' := { frames := 1, cells := 0, slots := 0, locals := 22 }) (by decide) (by decide) rfl rfl)).post (fun r wo ⟨M', e1, e2, e3, e4, e5⟩ => ⟨M', 1, _, e1, e2, Or.inl ⟨rfl, h, e3⟩, e4, e5⟩)
  · by_cases h3 : (coM M).tn ≤ 128
    · exact (mm_keep0 l D ad M hI i h1 h3).post (fun r wo ⟨M', e1, e2, e3, e4, e5⟩ => ⟨M', 0, _, e1, e2, Or.inr ⟨i, rfl, h1, Or.inr ⟨rfl, h3, e3, rfl⟩⟩, e4, e5⟩)
    · exact (((mf_keepB0 l D ad M hI i h1 (by omega)).room (rm' := { frames := 1, cells := 0, slots := 0, locals := 22 }) (by decide) (by decide) rfl rfl)).post (fun r wo ⟨M', e1, e2, e3, e4, e5⟩ => ⟨M', 2, _, e1, e2, Or.inr ⟨i, rfl, h1, Or.inl ⟨rfl, Nat.not_le.mp h3, e3⟩⟩, e4, e5⟩)
set_option maxRecDepth 100000 in
theorem mr_keep1 (l : Launch) (D : va_G) (ad : Nat → Nat) (M : Sm) (hI : IM M) (p : Int32) : vM l D yX8_keep cX8_keep 5 (some .int) { frames := 1, cells := 0, slots := 0, locals := 22 } [.ref (ad 0), .int p, .int (nI 1)] (MW D ad M) (fun r ws' => ∃ (M' : Sm) (c : Nat) (a : Int32), ws' = MW D ad M' ∧ r = some (.int a) ∧ RF_keep (coM M) p 1 (coM M') c a ∧ M'.f_thrown = c ∧ IM M') := by
  rcases cl_bad p (N := 8) (by decide) with h | ⟨i, rfl, h1⟩
  · exact (((mf_keepA1 l D ad M hI p h).room (rm' := { frames := 1, cells := 0, slots := 0, locals := 22 }) (by decide) (by decide) rfl rfl)).post (fun r wo ⟨M', e1, e2, e3, e4, e5⟩ => ⟨M', 1, _, e1, e2, Or.inl ⟨rfl, h, e3⟩, e4, e5⟩)
  · by_cases h3 : (coM M).on ≤ 128
    · exact (mm_keep1 l D ad M hI i h1 h3).post (fun r wo ⟨M', e1, e2, e3, e4, e5⟩ => ⟨M', 0, _, e1, e2, Or.inr ⟨i, rfl, h1, Or.inr ⟨rfl, h3, e3, rfl⟩⟩, e4, e5⟩)
    · exact (((mf_keepB1 l D ad M hI i h1 (by omega)).room (rm' := { frames := 1, cells := 0, slots := 0, locals := 22 }) (by decide) (by decide) rfl rfl)).post (fun r wo ⟨M', e1, e2, e3, e4, e5⟩ => ⟨M', 2, _, e1, e2, Or.inr ⟨i, rfl, h1, Or.inl ⟨rfl, Nat.not_le.mp h3, e3⟩⟩, e4, e5⟩)
set_option maxRecDepth 100000 in
theorem mr_mac (l : Launch) (D : va_G) (ad : Nat → Nat) (M : Sm) (hI : IM M) (p : Int32) : vM l D yX8_mac cX8_mac 3 none { frames := 4, cells := 0, slots := 0, locals := 109 } [.ref (ad 0), .int p] (MW D ad M) (fun r ws' => ∃ (M' : Sm) (c : Nat), ws' = MW D ad M' ∧ r = none ∧ RF_mac (coM M) p (coM M') c ∧ M'.f_thrown = c ∧ IM M') := by
  rcases cl_bad p (N := 8) (by decide) with h | ⟨i, rfl, h1⟩
  · exact (((mf_mac l D ad M hI p h).room (rm' := { frames := 4, cells := 0, slots := 0, locals := 109 }) (by decide) (by decide) rfl rfl)).post (fun r wo ⟨M', e1, e2, e3, e4, e5⟩ => ⟨M', 1, e1, e2, Or.inl ⟨rfl, h, e3⟩, e4, e5⟩)
  · exact (mm_mac l D ad M hI i h1).post (fun r wo ⟨M', e1, e2, e3, e4, e5⟩ => ⟨M', 0, e1, e2, Or.inr ⟨i, rfl, h1, rfl, e3⟩, e4, e5⟩)
set_option maxRecDepth 100000 in
theorem mr_str (l : Launch) (D : va_G) (ad : Nat → Nat) (M : Sm) (hI : IM M) (p q : Int32) : vM l D yX8_stretch cX8_stretch 4 none { frames := 5, cells := 0, slots := 0, locals := 128 } [.ref (ad 0), .int p, .int q] (MW D ad M) (fun r ws' => ∃ (M' : Sm) (c : Nat), ws' = MW D ad M' ∧ r = none ∧ RF_str (coM M) p q (coM M') c ∧ M'.f_thrown = c ∧ IM M') := by
  rcases cl_bad p (N := 8) (by decide) with h | ⟨i, rfl, h1⟩
  · exact (((mf_str1 l D ad M hI p q h).room (rm' := { frames := 5, cells := 0, slots := 0, locals := 128 }) (by decide) (by decide) rfl rfl)).post (fun r wo ⟨M', e1, e2, e3, e4, e5⟩ => ⟨M', 1, e1, e2, Or.inl ⟨rfl, h, e3⟩, e4, e5⟩)
  · rcases cl_rng q (A := 1) (N := 1024) (by decide) (by decide) with h | ⟨n, rfl, h2, h3⟩
    · exact (((mf_str2 l D ad M hI i q h1 h).room (rm' := { frames := 5, cells := 0, slots := 0, locals := 128 }) (by decide) (by decide) rfl rfl)).post (fun r wo ⟨M', e1, e2, e3, e4, e5⟩ => ⟨M', 1, e1, e2, Or.inr ⟨i, rfl, h1, Or.inl ⟨rfl, h, e3⟩⟩, e4, e5⟩)
    · exact (mm_stretch l D ad M hI i n h1 h2 h3).post (fun r wo ⟨M', e1, e2, e3, e4, e5⟩ => ⟨M', 0, e1, e2, Or.inr ⟨i, rfl, h1, Or.inr ⟨n, rfl, h2, h3, rfl, e3⟩⟩, e4, e5⟩)
set_option maxRecDepth 100000 in
theorem mr_lab (l : Launch) (D : va_G) (ad : Nat → Nat) (M : Sm) (hI : IM M) (p w q : Int32) : vM l D yX8_label cX8_label 4 none { frames := 5, cells := 0, slots := 0, locals := 128 } [.ref (ad 0), .int p, .int w, .int q] (MW D ad M) (fun r ws' => ∃ (M' : Sm) (c : Nat), ws' = MW D ad M' ∧ r = none ∧ RF_lab (coM M) p w q (coM M') c ∧ M'.f_thrown = c ∧ IM M') := by
  rcases cl_bad p (N := 8) (by decide) with h | ⟨i, rfl, h1⟩
  · exact (((mf_lab1 l D ad M hI p w q h).room (rm' := { frames := 5, cells := 0, slots := 0, locals := 128 }) (by decide) (by decide) rfl rfl)).post (fun r wo ⟨M', e1, e2, e3, e4, e5⟩ => ⟨M', 1, e1, e2, Or.inl ⟨rfl, h, e3⟩, e4, e5⟩)
  · rcases cl_bad w (N := 11) (by decide) with h | ⟨v, rfl, h4⟩
    · exact (((mf_lab2 l D ad M hI i w q h1 h).room (rm' := { frames := 5, cells := 0, slots := 0, locals := 128 }) (by decide) (by decide) rfl rfl)).post (fun r wo ⟨M', e1, e2, e3, e4, e5⟩ => ⟨M', 1, e1, e2, Or.inr ⟨i, rfl, h1, Or.inl ⟨rfl, h, e3⟩⟩, e4, e5⟩)
    · rcases cl_rng q (A := 1) (N := 1024) (by decide) (by decide) with h | ⟨n, rfl, h2, h3⟩
      · exact (((mf_lab3 l D ad M hI i v q h1 h4 h).room (rm' := { frames := 5, cells := 0, slots := 0, locals := 128 }) (by decide) (by decide) rfl rfl)).post (fun r wo ⟨M', e1, e2, e3, e4, e5⟩ => ⟨M', 1, e1, e2, Or.inr ⟨i, rfl, h1, Or.inr ⟨v, rfl, h4, Or.inl ⟨rfl, h, e3⟩⟩⟩, e4, e5⟩)
      · by_cases h5 : (coM M).tn ≤ 255
        · exact (mm_label l D ad M hI i v n h1 h4 h2 h3 h5).post (fun r wo ⟨M', e1, e2, e3, e4, e5⟩ => ⟨M', 0, e1, e2, Or.inr ⟨i, rfl, h1, Or.inr ⟨v, rfl, h4, Or.inr ⟨n, rfl, h2, h3, Or.inr ⟨rfl, h5, e3⟩⟩⟩⟩, e4, e5⟩)
        · exact (((mf_lab4 l D ad M hI i v n h1 h4 h2 h3 (by omega)).room (rm' := { frames := 5, cells := 0, slots := 0, locals := 128 }) (by decide) (by decide) rfl rfl)).post (fun r wo ⟨M', e1, e2, e3, e4, e5⟩ => ⟨M', 2, e1, e2, Or.inr ⟨i, rfl, h1, Or.inr ⟨v, rfl, h4, Or.inr ⟨n, rfl, h2, h3, Or.inl ⟨rfl, by omega, e3⟩⟩⟩⟩, e4, e5⟩)
set_option maxRecDepth 100000 in
theorem mr_blk (l : Launch) (D : va_G) (ad : Nat → Nat) (M : Sm) (hI : IM M) (p : Int32) (q : Wd) : vM l D yX8_block cX8_block 4 none { frames := 4, cells := 0, slots := 0, locals := 95 } [.ref (ad 0), .int p, .int (wI q)] (MW D ad M) (fun r ws' => ∃ (M' : Sm) (c : Nat), ws' = MW D ad M' ∧ r = none ∧ RF_blk (coM M) p q (coM M') c ∧ M'.f_thrown = c ∧ IM M') := by
  rcases cl_bad p (N := 8) (by decide) with h | ⟨i, rfl, h1⟩
  · exact (((mf_blk1 l D ad M hI p (wI q) h).room (rm' := { frames := 4, cells := 0, slots := 0, locals := 95 }) (by decide) (by decide) rfl rfl)).post (fun r wo ⟨M', e1, e2, e3, e4, e5⟩ => ⟨M', 1, e1, e2, Or.inl ⟨rfl, h, e3⟩, e4, e5⟩)
  · by_cases h2 : (coM M).sn i = 32
    · by_cases h3 : (coM M).tn = 12
      · exact (mm_block l D ad M hI i q h1 h2 h3).post (fun r wo ⟨M', e1, e2, e3, e4, e5⟩ => ⟨M', 0, e1, e2, Or.inr ⟨i, rfl, h1, Or.inr ⟨rfl, h2, h3, e3⟩⟩, e4, e5⟩)
      · exact (((mf_blk3 l D ad M hI i (wI q) h1 h2 h3).room (rm' := { frames := 4, cells := 0, slots := 0, locals := 95 }) (by decide) (by decide) rfl rfl)).post (fun r wo ⟨M', e1, e2, e3, e4, e5⟩ => ⟨M', 2, e1, e2, Or.inr ⟨i, rfl, h1, Or.inl ⟨rfl, Or.inr h3, e3⟩⟩, e4, e5⟩)
    · exact (((mf_blk2 l D ad M hI i (wI q) h1 h2).room (rm' := { frames := 4, cells := 0, slots := 0, locals := 95 }) (by decide) (by decide) rfl rfl)).post (fun r wo ⟨M', e1, e2, e3, e4, e5⟩ => ⟨M', 2, e1, e2, Or.inr ⟨i, rfl, h1, Or.inl ⟨rfl, Or.inl h2, e3⟩⟩, e4, e5⟩)
set_option maxRecDepth 100000 in
theorem mr_tal (l : Launch) (D : va_G) (ad : Nat → Nat) (M : Sm) (hI : IM M) (p : Int32) : vM l D yX8_tally cX8_tally 3 none { frames := 2, cells := 0, slots := 0, locals := 52 } [.ref (ad 0), .int p] (MW D ad M) (fun r ws' => ∃ (M' : Sm) (c : Nat), ws' = MW D ad M' ∧ r = none ∧ RF_tal (coM M) p (coM M') c ∧ M'.f_thrown = c ∧ IM M') := by
  rcases cl_bad p (N := 8) (by decide) with h | ⟨i, rfl, h1⟩
  · exact (((mf_tal1 l D ad M hI p h).room (rm' := { frames := 2, cells := 0, slots := 0, locals := 52 }) (by decide) (by decide) rfl rfl)).post (fun r wo ⟨M', e1, e2, e3, e4, e5⟩ => ⟨M', 1, e1, e2, Or.inl ⟨rfl, h, e3⟩, e4, e5⟩)
  · by_cases h2 : (coM M).sn i = 32
    · exact (mm_tally l D ad M hI i h1 h2).post (fun r wo ⟨M', e1, e2, e3, e4, e5⟩ => ⟨M', 0, e1, e2, Or.inr ⟨i, rfl, h1, Or.inr ⟨rfl, h2, e3⟩⟩, e4, e5⟩)
    · exact (((mf_tal2 l D ad M hI i h1 h2).room (rm' := { frames := 2, cells := 0, slots := 0, locals := 52 }) (by decide) (by decide) rfl rfl)).post (fun r wo ⟨M', e1, e2, e3, e4, e5⟩ => ⟨M', 2, e1, e2, Or.inr ⟨i, rfl, h1, Or.inl ⟨rfl, h2, e3⟩⟩, e4, e5⟩)
set_option maxRecDepth 100000 in
theorem mr_arm (l : Launch) (D : va_G) (ad : Nat → Nat) (M : Sm) (hI : IM M) (p q : Int32) : vM l D yX8_arm cX8_arm 4 none { frames := 6, cells := 0, slots := 0, locals := 150 } [.ref (ad 0), .int p, .int q] (MW D ad M) (fun r ws' => ∃ (M' : Sm) (c : Nat), ws' = MW D ad M' ∧ r = none ∧ RF_arm (coM M) p q (coM M') c ∧ M'.f_thrown = c ∧ IM M') := by
  rcases cl_bad p (N := 4) (by decide) with h | ⟨g, rfl, h1⟩
  · exact (((mf_arm1 l D ad M hI p q h).room (rm' := { frames := 6, cells := 0, slots := 0, locals := 150 }) (by decide) (by decide) rfl rfl)).post (fun r wo ⟨M', e1, e2, e3, e4, e5⟩ => ⟨M', 1, e1, e2, Or.inl ⟨rfl, h, e3⟩, e4, e5⟩)
  · rcases cl_bad q (N := 8) (by decide) with h | ⟨i, rfl, h2⟩
    · exact (((mf_arm2 l D ad M hI g q h1 h).room (rm' := { frames := 6, cells := 0, slots := 0, locals := 150 }) (by decide) (by decide) rfl rfl)).post (fun r wo ⟨M', e1, e2, e3, e4, e5⟩ => ⟨M', 1, e1, e2, Or.inr ⟨g, rfl, h1, Or.inl ⟨rfl, h, e3⟩⟩, e4, e5⟩)
    · by_cases h3 : (coM M).sn i = 32
      · exact (mm_arm l D ad M hI g i h1 h2 h3).post (fun r wo ⟨M', e1, e2, e3, e4, e5⟩ => ⟨M', 0, e1, e2, Or.inr ⟨g, rfl, h1, Or.inr ⟨i, rfl, h2, Or.inr ⟨rfl, h3, e3⟩⟩⟩, e4, e5⟩)
      · exact (((mf_arm3 l D ad M hI g i h1 h2 h3).room (rm' := { frames := 6, cells := 0, slots := 0, locals := 150 }) (by decide) (by decide) rfl rfl)).post (fun r wo ⟨M', e1, e2, e3, e4, e5⟩ => ⟨M', 2, e1, e2, Or.inr ⟨g, rfl, h1, Or.inr ⟨i, rfl, h2, Or.inl ⟨rfl, h3, e3⟩⟩⟩, e4, e5⟩)
set_option maxRecDepth 100000 in
theorem mr_turn (l : Launch) (D : va_G) (ad : Nat → Nat) (M : Sm) (hI : IM M) (p : Int32) : vM l D yX8_turn cX8_turn 3 (some .int) { frames := 6, cells := 0, slots := 0, locals := 150 } [.ref (ad 0), .int p] (MW D ad M) (fun r ws' => ∃ (M' : Sm) (c : Nat) (a : Int32), ws' = MW D ad M' ∧ r = some (.int a) ∧ RF_turn (coM M) p (coM M') c a ∧ M'.f_thrown = c ∧ IM M') := by
  rcases cl_bad p (N := 4) (by decide) with h | ⟨g, rfl, h1⟩
  · exact (((mf_turn1 l D ad M hI p h).room (rm' := { frames := 6, cells := 0, slots := 0, locals := 150 }) (by decide) (by decide) rfl rfl)).post (fun r wo ⟨M', e1, e2, e3, e4, e5⟩ => ⟨M', 1, _, e1, e2, Or.inl ⟨rfl, h, e3⟩, e4, e5⟩)
  · by_cases h3 : (coM M).gp g = NA
    · exact (((mf_turn2 l D ad M hI g h1 h3).room (rm' := { frames := 6, cells := 0, slots := 0, locals := 150 }) (by decide) (by decide) rfl rfl)).post (fun r wo ⟨M', e1, e2, e3, e4, e5⟩ => ⟨M', 2, _, e1, e2, Or.inr ⟨g, rfl, h1, Or.inl ⟨rfl, h3, e3⟩⟩, e4, e5⟩)
    · exact (mm_turn l D ad M hI g h1 h3).post (fun r wo ⟨M', e1, e2, e3, e4, e5⟩ => ⟨M', 0, _, e1, e2, Or.inr ⟨g, rfl, h1, Or.inr ⟨rfl, h3, e3, rfl⟩⟩, e4, e5⟩)
set_option maxRecDepth 100000 in
theorem mr_seal (l : Launch) (D : va_G) (ad : Nat → Nat) (M : Sm) (hI : IM M) (p : Int32) (x : BitVec 64) (h : Int32) : vM l D yX8_seal cX8_seal 7 (some .int) { frames := 5, cells := 0, slots := 0, locals := 119 } [.ref (ad 0), .int p, .long (xL x), .int h] (MW D ad M) (fun r ws' => ∃ (M' : Sm) (c : Nat) (a : Int32), ws' = MW D ad M' ∧ r = some (.int a) ∧ RF_seal (coM M) p x h (coM M') c a ∧ M'.f_thrown = c ∧ IM M') := by
  rcases cl_bad p (N := 4) (by decide) with h0 | ⟨g, rfl, h1⟩
  · exact (((mf_seal1 l D ad M hI p x h h0).room (rm' := { frames := 5, cells := 0, slots := 0, locals := 119 }) (by decide) (by decide) rfl rfl)).post (fun r wo ⟨M', e1, e2, e3, e4, e5⟩ => ⟨M', 1, _, e1, e2, Or.inl ⟨rfl, h0, e3⟩, e4, e5⟩)
  · by_cases h2 : xL x < 0
    · exact (((mf_seal2 l D ad M hI g x h h1 h2).room (rm' := { frames := 5, cells := 0, slots := 0, locals := 119 }) (by decide) (by decide) rfl rfl)).post (fun r wo ⟨M', e1, e2, e3, e4, e5⟩ => ⟨M', 1, _, e1, e2, Or.inr ⟨g, rfl, h1, Or.inl ⟨rfl, h2, e3⟩⟩, e4, e5⟩)
    · rcases cl_low h (N := (coM M).tn) (by have := hI.1.1; omega) with h0 | ⟨n, rfl, h3⟩
      · exact (((mf_seal3 l D ad M hI g x h h1 h2 h0).room (rm' := { frames := 5, cells := 0, slots := 0, locals := 119 }) (by decide) (by decide) rfl rfl)).post (fun r wo ⟨M', e1, e2, e3, e4, e5⟩ => ⟨M', 1, _, e1, e2, Or.inr ⟨g, rfl, h1, Or.inr ⟨h2, Or.inl ⟨rfl, h0, e3⟩⟩⟩, e4, e5⟩)
      · by_cases h4 : (coM M).gp g = NA
        · exact (((mf_seal4 l D ad M hI g x n h1 h2 h3 h4).room (rm' := { frames := 5, cells := 0, slots := 0, locals := 119 }) (by decide) (by decide) rfl rfl)).post (fun r wo ⟨M', e1, e2, e3, e4, e5⟩ => ⟨M', 2, _, e1, e2, Or.inr ⟨g, rfl, h1, Or.inr ⟨h2, Or.inr ⟨n, rfl, h3, Or.inl ⟨rfl, h4, e3⟩⟩⟩⟩, e4, e5⟩)
        · exact (mm_seal l D ad M hI g x n h1 h4 h2 h3).post (fun r wo ⟨M', e1, e2, e3, e4, e5⟩ => ⟨M', 0, _, e1, e2, Or.inr ⟨g, rfl, h1, Or.inr ⟨h2, Or.inr ⟨n, rfl, h3, Or.inr ⟨rfl, h4, e3, rfl⟩⟩⟩⟩, e4, e5⟩)
set_option maxRecDepth 100000 in
theorem mr_unseal (l : Launch) (D : va_G) (ad : Nat → Nat) (M : Sm) (hI : IM M) (p : Int32) (x : BitVec 64) (h : Int32) : vM l D yX8_open cX8_open 8 (some .int) { frames := 5, cells := 0, slots := 0, locals := 119 } [.ref (ad 0), .int p, .long (xL x), .int h] (MW D ad M) (fun r ws' => ∃ (M' : Sm) (c : Nat) (a : Int32), ws' = MW D ad M' ∧ r = some (.int a) ∧ RF_unseal (coM M) p x h (coM M') c a ∧ M'.f_thrown = c ∧ IM M') := by
  rcases cl_bad p (N := 4) (by decide) with h0 | ⟨g, rfl, h1⟩
  · exact (((mf_unseal1 l D ad M hI p x h h0).room (rm' := { frames := 5, cells := 0, slots := 0, locals := 119 }) (by decide) (by decide) rfl rfl)).post (fun r wo ⟨M', e1, e2, e3, e4, e5⟩ => ⟨M', 1, _, e1, e2, Or.inl ⟨rfl, h0, e3⟩, e4, e5⟩)
  · by_cases h2 : xL x < 0
    · exact (((mf_unseal2 l D ad M hI g x h h1 h2).room (rm' := { frames := 5, cells := 0, slots := 0, locals := 119 }) (by decide) (by decide) rfl rfl)).post (fun r wo ⟨M', e1, e2, e3, e4, e5⟩ => ⟨M', 1, _, e1, e2, Or.inr ⟨g, rfl, h1, Or.inl ⟨rfl, h2, e3⟩⟩, e4, e5⟩)
    · rcases cl_sub0 h (T := (coM M).tn) (k := 16) (by have := hI.1.1; omega) (by decide) with h0 | ⟨n, rfl, h3⟩
      · exact (((mf_unseal3 l D ad M hI g x h h1 h2 h0).room (rm' := { frames := 5, cells := 0, slots := 0, locals := 119 }) (by decide) (by decide) rfl rfl)).post (fun r wo ⟨M', e1, e2, e3, e4, e5⟩ => ⟨M', 1, _, e1, e2, Or.inr ⟨g, rfl, h1, Or.inr ⟨h2, Or.inl ⟨rfl, h0, e3⟩⟩⟩, e4, e5⟩)
      · by_cases h4 : (coM M).gp g = NA
        · exact (((mf_unseal4 l D ad M hI g x n h1 h2 h3 h4).room (rm' := { frames := 5, cells := 0, slots := 0, locals := 119 }) (by decide) (by decide) rfl rfl)).post (fun r wo ⟨M', e1, e2, e3, e4, e5⟩ => ⟨M', 2, _, e1, e2, Or.inr ⟨g, rfl, h1, Or.inr ⟨h2, Or.inr ⟨n, rfl, h3, Or.inl ⟨rfl, h4, e3⟩⟩⟩⟩, e4, e5⟩)
        · exact (mm_unseal l D ad M hI g x n h1 h4 h2 h3).post (fun r wo ⟨M', e1, a, e2, e3, e4, e5⟩ => ⟨M', 0, a, e1, e2, Or.inr ⟨g, rfl, h1, Or.inr ⟨h2, Or.inr ⟨n, rfl, h3, Or.inr ⟨rfl, h4, e3⟩⟩⟩⟩, e4, e5⟩)
set_option maxRecDepth 100000 in
theorem mr_shd (l : Launch) (D : va_G) (ad : Nat → Nat) (M : Sm) (hI : IM M) (p q : Int32) (d : Nat) (hz : d < 2 ^ 31) : vM l D yX8_shield cX8_shield 7 (some .int) { frames := 4, cells := 0, slots := 0, locals := 95 } [.ref (ad 0), .int p, .int q, .int (nI d)] (MW D ad M) (fun r ws' => ∃ (M' : Sm) (c : Nat) (a : Int32), ws' = MW D ad M' ∧ r = some (.int a) ∧ RF_shd (coM M) p q d (coM M') c a ∧ M'.f_thrown = c ∧ IM M') := by
  rcases cl_bad p (N := 4) (by decide) with h0 | ⟨g, rfl, h1⟩
  · exact (((mf_shd1 l D ad M hI p q (nI d) h0).room (rm' := { frames := 4, cells := 0, slots := 0, locals := 95 }) (by decide) (by decide) rfl rfl)).post (fun r wo ⟨M', e1, e2, e3, e4, e5⟩ => ⟨M', 1, _, e1, e2, Or.inl ⟨rfl, h0, e3⟩, e4, e5⟩)
  · rcases cl_sub q (A := 1) (T := (coM M).tn) (k := 20) (by decide) (by have := hI.1.1; omega) (by decide) with h0 | ⟨n, rfl, h2, h3⟩
    · exact (((mf_shd2 l D ad M hI g q (nI d) h1 h0).room (rm' := { frames := 4, cells := 0, slots := 0, locals := 95 }) (by decide) (by decide) rfl rfl)).post (fun r wo ⟨M', e1, e2, e3, e4, e5⟩ => ⟨M', 1, _, e1, e2, Or.inr ⟨g, rfl, h1, Or.inl ⟨rfl, h0, e3⟩⟩, e4, e5⟩)
    · by_cases h4 : (coM M).gp g = NA
      · exact (((mf_shd3 l D ad M hI g n (nI d) h1 h2 h3 h4).room (rm' := { frames := 4, cells := 0, slots := 0, locals := 95 }) (by decide) (by decide) rfl rfl)).post (fun r wo ⟨M', e1, e2, e3, e4, e5⟩ => ⟨M', 2, _, e1, e2, Or.inr ⟨g, rfl, h1, Or.inr ⟨n, rfl, h2, h3, Or.inl ⟨rfl, h4, e3⟩⟩⟩, e4, e5⟩)
      · exact (mm_shield l D ad M hI g n d h1 h4 h2 h3 hz).post (fun r wo ⟨M', e1, e2, e3, e4, e5⟩ => ⟨M', 0, _, e1, e2, Or.inr ⟨g, rfl, h1, Or.inr ⟨n, rfl, h2, h3, Or.inr ⟨rfl, h4, e3, rfl⟩⟩⟩, e4, e5⟩)
set_option maxRecDepth 100000 in
theorem mr_get (l : Launch) (D : va_G) (ad : Nat → Nat) (M : Sm) (hI : IM M) (p : Int32) : vM l D yX8_out cX8_out 2 (some .int) { frames := 1, cells := 0, slots := 0, locals := 22 } [.ref (ad 0), .int p] (MW D ad M) (fun r ws' => ∃ (M' : Sm) (c : Nat) (a : Int32), ws' = MW D ad M' ∧ r = some (.int a) ∧ RF_get (coM M) p (coM M') c a ∧ M'.f_thrown = c ∧ IM M') := by
  rcases cl_bad p (N := (coM M).on) (by have := hI.1.2.1; omega) with h | ⟨i, rfl, h1⟩
  · exact (((mf_out l D ad M hI p h).room (rm' := { frames := 1, cells := 0, slots := 0, locals := 22 }) (by decide) (by decide) rfl rfl)).post (fun r wo ⟨M', e1, e2, e3, e4, e5⟩ => ⟨M', 1, _, e1, e2, Or.inl ⟨rfl, h, e3⟩, e4, e5⟩)
  · exact (mm_out l D ad M hI i h1).post (fun r wo ⟨M', e1, e2, e3, e4, e5⟩ => ⟨M', 0, _, e1, e2, Or.inr ⟨i, rfl, h1, rfl, e3, rfl⟩, e4, e5⟩)
set_option maxRecDepth 100000 in
theorem mr_outs (l : Launch) (D : va_G) (ad : Nat → Nat) (M : Sm) (hI : IM M) (p : Int32) : vM l D yX8_outs cX8_outs 5 (some .long) { frames := 1, cells := 0, slots := 0, locals := 22 } [.ref (ad 0), .int p] (MW D ad M) (fun r ws' => ∃ (M' : Sm) (c : Nat) (a : Int64), ws' = MW D ad M' ∧ r = some (.long a) ∧ RF_outs (coM M) p (coM M') c a ∧ M'.f_thrown = c ∧ IM M') := by
  rcases cl_bad p (N := (coM M).on) (by have := hI.1.2.1; omega) with h | ⟨i, rfl, h1⟩
  · exact (((mf_outs l D ad M hI p h).room (rm' := { frames := 1, cells := 0, slots := 0, locals := 22 }) (by decide) (by decide) rfl rfl)).post (fun r wo ⟨M', e1, e2, e3, e4, e5⟩ => ⟨M', 1, _, e1, e2, Or.inl ⟨rfl, h, e3⟩, e4, e5⟩)
  · exact (mm_outs l D ad M hI i h1).post (fun r wo ⟨M', e1, e2, e3, e4, e5⟩ => ⟨M', 0, _, e1, e2, Or.inr ⟨i, rfl, h1, rfl, e3, rfl⟩, e4, e5⟩)
set_option maxRecDepth 100000 in
theorem mr_look (l : Launch) (D : va_G) (ad : Nat → Nat) (M : Sm) (hI : IM M) (p : Int32) : vM l D yX8_look cX8_look 2 (some .int) { frames := 1, cells := 0, slots := 0, locals := 22 } [.ref (ad 0), .int p] (MW D ad M) (fun r ws' => ∃ (M' : Sm) (c : Nat) (a : Int32), ws' = MW D ad M' ∧ r = some (.int a) ∧ RF_look (coM M) p (coM M') c a ∧ M'.f_thrown = c ∧ IM M') := by
  rcases cl_bad p (N := 14) (by decide) with h | ⟨i, rfl, h1⟩
  · exact (((mf_look l D ad M hI p h).room (rm' := { frames := 1, cells := 0, slots := 0, locals := 22 }) (by decide) (by decide) rfl rfl)).post (fun r wo ⟨M', e1, e2, e3, e4, e5⟩ => ⟨M', 1, _, e1, e2, Or.inl ⟨rfl, h, e3⟩, e4, e5⟩)
  · exact (mm_look l D ad M hI i h1).post (fun r wo ⟨M', e1, e2, e3, e4, e5⟩ => ⟨M', 0, _, e1, e2, Or.inr ⟨i, rfl, h1, rfl, e3, rfl⟩, e4, e5⟩)
