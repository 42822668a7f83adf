structure Sm where
  f_thrown : Nat
  f_tape : Nat → By
  f_taped : Nat
  f_out : Nat → By
  f_outs : Nat
  f_slots : Nat → By
  f_kept : Nat → Nat
  f_phase : Nat → Wd
  f_secret : Nat → By
  f_key : Nat → By
  f_hide : Nat → By
  f_iv : Nat → By
  f_begin : Nat → Wd
  f_each : Nat → Wd
  f_root : Nat → Nat
  f_power : Nat → Nat
  f_work : Nat → By
  f_w : Nat → Nat
  f_h : Nat → Wd
  f_state : Nat → Wd
  f_sum : Nat → By
  f_pad : Nat → By
  f_text : Nat → By
  f_texts : Nat
  f_info : Nat → By
  f_infos : Nat
  f_made : Nat → By
  f_blockKey : Nat → By
  f_nonce : Nat → By
  f_x : Nat → Wd
  f_first : Nat → Wd
  f_block : Nat → By
  f_a : Nat → By
  f_r : Nat → By
  f_product : Nat → By
  f_tag : Nat → By
  f_sealed : Nat → By
abbrev mw0 (D : va_G) (ad : Nat → Nat) (M : Sm) : Nat × va_E := (ad 0, .inr (8, [.int (nI M.f_thrown), .ref (ad 1), .int (nI M.f_taped), .ref (ad 2), .int (nI M.f_outs), .ref (ad 3), .ref (ad 4), .ref (ad 5), .ref (ad 6), .ref (ad 7), .ref (ad 8), .ref (ad 9), .ref (ad 10), .ref (ad 11), .ref (ad 12), .ref (ad 13), .ref (ad 14), .ref (ad 15), .ref (ad 16), .ref (ad 17), .ref (ad 18), .ref (ad 19), .ref (ad 20), .int (nI M.f_texts), .ref (ad 21), .int (nI M.f_infos), .ref (ad 22), .ref (ad 23), .ref (ad 24), .ref (ad 25), .ref (ad 26), .ref (ad 27), .ref (ad 28), .ref (ad 29), .ref (ad 30), .ref (ad 31), .ref (ad 32)]))
abbrev mw1 (D : va_G) (ad : Nat → Nat) (M : Sm) : Nat × va_E := (ad 1, aY D 2048 M.f_tape)
abbrev mw2 (D : va_G) (ad : Nat → Nat) (M : Sm) : Nat × va_E := (ad 2, aY D 2064 M.f_out)
abbrev mw3 (D : va_G) (ad : Nat → Nat) (M : Sm) : Nat × va_E := (ad 3, aY D 1024 M.f_slots)
abbrev mw4 (D : va_G) (ad : Nat → Nat) (M : Sm) : Nat × va_E := (ad 4, aN D 8 M.f_kept)
abbrev mw5 (D : va_G) (ad : Nat → Nat) (M : Sm) : Nat × va_E := (ad 5, aW D 4 M.f_phase)
abbrev mw6 (D : va_G) (ad : Nat → Nat) (M : Sm) : Nat × va_E := (ad 6, aY D 128 M.f_secret)
abbrev mw7 (D : va_G) (ad : Nat → Nat) (M : Sm) : Nat × va_E := (ad 7, aY D 128 M.f_key)
abbrev mw8 (D : va_G) (ad : Nat → Nat) (M : Sm) : Nat × va_E := (ad 8, aY D 128 M.f_hide)
abbrev mw9 (D : va_G) (ad : Nat → Nat) (M : Sm) : Nat × va_E := (ad 9, aY D 128 M.f_iv)
abbrev mw10 (D : va_G) (ad : Nat → Nat) (M : Sm) : Nat × va_E := (ad 10, aM D 8 M.f_begin)
abbrev mw11 (D : va_G) (ad : Nat → Nat) (M : Sm) : Nat × va_E := (ad 11, aM D 64 M.f_each)
abbrev mw12 (D : va_G) (ad : Nat → Nat) (M : Sm) : Nat × va_E := (ad 12, aN D 3 M.f_root)
abbrev mw13 (D : va_G) (ad : Nat → Nat) (M : Sm) : Nat × va_E := (ad 13, aN D 9 M.f_power)
abbrev mw14 (D : va_G) (ad : Nat → Nat) (M : Sm) : Nat × va_E := (ad 14, aY D 2400 M.f_work)
abbrev mw15 (D : va_G) (ad : Nat → Nat) (M : Sm) : Nat × va_E := (ad 15, aL D 64 M.f_w)
abbrev mw16 (D : va_G) (ad : Nat → Nat) (M : Sm) : Nat × va_E := (ad 16, aM D 8 M.f_h)
abbrev mw17 (D : va_G) (ad : Nat → Nat) (M : Sm) : Nat × va_E := (ad 17, aM D 8 M.f_state)
abbrev mw18 (D : va_G) (ad : Nat → Nat) (M : Sm) : Nat × va_E := (ad 18, aY D 32 M.f_sum)
abbrev mw19 (D : va_G) (ad : Nat → Nat) (M : Sm) : Nat × va_E := (ad 19, aY D 64 M.f_pad)
abbrev mw20 (D : va_G) (ad : Nat → Nat) (M : Sm) : Nat × va_E := (ad 20, aY D 2400 M.f_text)
abbrev mw21 (D : va_G) (ad : Nat → Nat) (M : Sm) : Nat × va_E := (ad 21, aY D 2400 M.f_info)
abbrev mw22 (D : va_G) (ad : Nat → Nat) (M : Sm) : Nat × va_E := (ad 22, aY D 1024 M.f_made)
abbrev mw23 (D : va_G) (ad : Nat → Nat) (M : Sm) : Nat × va_E := (ad 23, aY D 32 M.f_blockKey)
abbrev mw24 (D : va_G) (ad : Nat → Nat) (M : Sm) : Nat × va_E := (ad 24, aY D 12 M.f_nonce)
abbrev mw25 (D : va_G) (ad : Nat → Nat) (M : Sm) : Nat × va_E := (ad 25, aM D 16 M.f_x)
abbrev mw26 (D : va_G) (ad : Nat → Nat) (M : Sm) : Nat × va_E := (ad 26, aM D 16 M.f_first)
abbrev mw27 (D : va_G) (ad : Nat → Nat) (M : Sm) : Nat × va_E := (ad 27, aY D 64 M.f_block)
abbrev mw28 (D : va_G) (ad : Nat → Nat) (M : Sm) : Nat × va_E := (ad 28, aY D 40 M.f_a)
abbrev mw29 (D : va_G) (ad : Nat → Nat) (M : Sm) : Nat × va_E := (ad 29, aY D 16 M.f_r)
abbrev mw30 (D : va_G) (ad : Nat → Nat) (M : Sm) : Nat × va_E := (ad 30, aY D 40 M.f_product)
abbrev mw31 (D : va_G) (ad : Nat → Nat) (M : Sm) : Nat × va_E := (ad 31, aY D 16 M.f_tag)
abbrev mw32 (D : va_G) (ad : Nat → Nat) (M : Sm) : Nat × va_E := (ad 32, aY D 2400 M.f_sealed)
def MW (D : va_G) (ad : Nat → Nat) (M : Sm) : va_W := [mw0 D ad M, mw1 D ad M, mw2 D ad M, mw3 D ad M, mw4 D ad M, mw5 D ad M, mw6 D ad M, mw7 D ad M, mw8 D ad M, mw9 D ad M, mw10 D ad M, mw11 D ad M, mw12 D ad M, mw13 D ad M, mw14 D ad M, mw15 D ad M, mw16 D ad M, mw17 D ad M, mw18 D ad M, mw19 D ad M, mw20 D ad M, mw21 D ad M, mw22 D ad M, mw23 D ad M, mw24 D ad M, mw25 D ad M, mw26 D ad M, mw27 D ad M, mw28 D ad M, mw29 D ad M, mw30 D ad M, mw31 D ad M, mw32 D ad M]
def coM (M : Sm) : Co := { tt := M.f_tape, tn := M.f_taped, ot := M.f_out, on := M.f_outs, sb := fun i j => M.f_slots (128 * i + j), sn := M.f_kept, gp := M.f_phase, gs := fun i j => M.f_secret (32 * i + j), gk := fun i j => M.f_key (32 * i + j), gi := fun i j => M.f_iv (32 * i + j), gh := fun i j => M.f_hide (32 * i + j) }
def IM (M : Sm) : Prop := IK (coM M) ∧ (∀ j, j < 64 → M.f_each j = shK j) ∧ ∀ j, j < 8 → M.f_begin j = shI j
theorem row_cpo {t v F : Nat → By} {g n : Nat} (hn : n ≤ 32) (h : ∀ j, j < n → v j = F j) : rowIs (fun i j => t (32 * i + j)) (fun i j => cpo t (32 * g) n v (32 * i + j)) g n F :=
  ⟨fun q j hq hj => cpo_o (by omega), fun j hj => (cpo_i hj).trans (h j hj)⟩
theorem keep_M (K K' : Co) (t S : Nat → By) (b i n : Nat) (hn : n ≤ 128) (hnb : n = if b = 0 then K.tn else K.on) (hS : S = if b = 0 then K.tt else K.ot) (h0 : K.sb = fun q j => t (128 * q + j)) (h1 : K'.sb = fun q j => cpo t (128 * i) n S (128 * q + j)) (h2 : K'.sn = va_up K.sn i n) (h3 : K'.tt = K.tt) (h4 : K'.tn = if b = 0 then 0 else K.tn) (h5 : sameO K K') (h6 : sameG K K') : R_keep K b i K' := by
  refine ⟨by rw [h2, hnb], fun q j hq hj => ?_, fun j hj => ?_, h3, h4, h5, h6⟩
  · rw [h1, h0]
    exact cpo_o (by omega)
  · rw [h1, ← hS]
    exact cpo_i (by rw [hnb]; exact hj)
theorem ph_ok {v : Wd} (h : v = NA ∨ v = 0#32 ∨ v = 1#32) (hn : v ≠ NA) : ¬ wI v < 0 := by
  rcases h with h | h | h
  · exact absurd h hn
  · subst h; decide
  · subst h; decide
theorem ph_bad {v : Wd} (h : v = NA) : wI v < 0 := by subst h; decide

set_option maxRecDepth 100000 in
set_option maxHeartbeats 4000000 in
theorem mm_feed (l : Launch) (D : va_G) (ad : Nat → Nat) (M : Sm) (hI : IM M) (p1 : Nat) (p2 : BitVec 64) (h1 : 1 ≤ p1) (h2 : p1 ≤ 8) (h3 : (coM M).tn + p1 ≤ 2048) : vM l D yX8_feed cX8_feed 5 (some .int) { frames := 1, cells := 0, slots := 0, locals := 22 } [.ref (ad 0), .int (nI p1), .long (xL p2)] (MW D ad M) (fun r ws' => ∃ M' : Sm, ws' = MW D ad M' ∧ r = some (.int (nI ((coM M).tn + p1))) ∧ R_feed (coM M) p1 p2 (coM M') ∧ M'.f_thrown = 0 ∧ IM M') := by
  refine vM.lift (m_feed l D (ad 0) p1 p2 M.f_thrown (ad 1) M.f_taped (ad 2) M.f_outs (ad 3) (ad 4) (ad 5) (ad 6) (ad 7) (ad 8) (ad 9) (ad 10) (ad 11) (ad 12) (ad 13) (ad 14) (ad 15) (ad 16) (ad 17) (ad 18) (ad 19) (ad 20) M.f_texts (ad 21) M.f_infos (ad 22) (ad 23) (ad 24) (ad 25) (ad 26) (ad 27) (ad 28) (ad 29) (ad 30) (ad 31) (ad 32) M.f_tape h1 h2 h3) (ws := MW D ad M) (wr := [mw2 D ad M, mw3 D ad M, mw4 D ad M, mw5 D ad M, mw6 D ad M, mw7 D ad M, mw8 D ad M, mw9 D ad M, mw10 D ad M, mw11 D ad M, mw12 D ad M, mw13 D ad M, mw14 D ad M, mw15 D ad M, mw16 D ad M, mw17 D ad M, mw18 D ad M, mw19 D ad M, mw20 D ad M, mw21 D ad M, mw22 D ad M, mw23 D ad M, mw24 D ad M, mw25 D ad M, mw26 D ad M, mw27 D ad M, mw28 D ad M, mw29 D ad M, mw30 D ad M, mw31 D ad M, mw32 D ad M]) [0, 1] [2, 3, 4, 5, 6, 7, 8, 9, 10, 11, 12, 13, 14, 15, 16, 17, 18, 19, 20, 21, 22, 23, 24, 25, 26, 27, 28, 29, 30, 31, 32] rfl rfl (by decide) rfl (by decide) (by decide) (fun r wo h => ?_)
  obtain ⟨rfl, rfl⟩ := h
  exact ⟨[31, 32, 0, 1, 2, 3, 4, 5, 6, 7, 8, 9, 10, 11, 12, 13, 14, 15, 16, 17, 18, 19, 20, 21, 22, 23, 24, 25, 26, 27, 28, 29, 30], MW D ad ({ M with f_thrown := 0, f_taped := M.f_taped + p1, f_tape := wb M.f_tape M.f_taped p1 p2 }), by decide, rfl, rfl, ⟨{ M with f_thrown := 0, f_taped := M.f_taped + p1, f_tape := wb M.f_tape M.f_taped p1 p2 }, rfl, rfl, ⟨rfl, rfl, ⟨rfl, rfl⟩, ⟨rfl, rfl⟩, ⟨rfl, rfl, rfl, rfl, rfl⟩⟩, rfl, ⟨⟨h3, hI.1.2.1, hI.1.2.2.1, hI.1.2.2.2⟩, hI.2⟩⟩⟩
set_option maxRecDepth 100000 in
set_option maxHeartbeats 4000000 in
theorem mm_wipe (l : Launch) (D : va_G) (ad : Nat → Nat) (M : Sm) (hI : IM M)  : vM l D yX8_wipe cX8_wipe 2 (some .int) { frames := 1, cells := 0, slots := 0, locals := 22 } [.ref (ad 0)] (MW D ad M) (fun r ws' => ∃ M' : Sm, ws' = MW D ad M' ∧ r = some (.int (nI (coM M).tn)) ∧ R_wipe (coM M) (coM M') ∧ M'.f_thrown = 0 ∧ IM M') := by
  refine vM.lift (m_wipe l D (ad 0) M.f_thrown (ad 1) M.f_taped (ad 2) M.f_outs (ad 3) (ad 4) (ad 5) (ad 6) (ad 7) (ad 8) (ad 9) (ad 10) (ad 11) (ad 12) (ad 13) (ad 14) (ad 15) (ad 16) (ad 17) (ad 18) (ad 19) (ad 20) M.f_texts (ad 21) M.f_infos (ad 22) (ad 23) (ad 24) (ad 25) (ad 26) (ad 27) (ad 28) (ad 29) (ad 30) (ad 31) (ad 32) ) (ws := MW D ad M) (wr := [mw1 D ad M, mw2 D ad M, mw3 D ad M, mw4 D ad M, mw5 D ad M, mw6 D ad M, mw7 D ad M, mw8 D ad M, mw9 D ad M, mw10 D ad M, mw11 D ad M, mw12 D ad M, mw13 D ad M, mw14 D ad M, mw15 D ad M, mw16 D ad M, mw17 D ad M, mw18 D ad M, mw19 D ad M, mw20 D ad M, mw21 D ad M, mw22 D ad M, mw23 D ad M, mw24 D ad M, mw25 D ad M, mw26 D ad M, mw27 D ad M, mw28 D ad M, mw29 D ad M, mw30 D ad M, mw31 D ad M, mw32 D ad M]) [0] [1, 2, 3, 4, 5, 6, 7, 8, 9, 10, 11, 12, 13, 14, 15, 16, 17, 18, 19, 20, 21, 22, 23, 24, 25, 26, 27, 28, 29, 30, 31, 32] rfl rfl (by decide) rfl (by decide) (by decide) (fun r wo h => ?_)
  obtain ⟨rfl, rfl⟩ := h
  exact ⟨[32, 0, 1, 2, 3, 4, 5, 6, 7, 8, 9, 10, 11, 12, 13, 14, 15, 16, 17, 18, 19, 20, 21, 22, 23, 24, 25, 26, 27, 28, 29, 30, 31], MW D ad ({ M with f_thrown := 0, f_taped := 0 }), by decide, rfl, rfl, ⟨{ M with f_thrown := 0, f_taped := 0 }, rfl, rfl, ⟨rfl, ⟨rfl, rfl⟩, ⟨rfl, rfl⟩, ⟨rfl, rfl, rfl, rfl, rfl⟩⟩, rfl, ⟨⟨Nat.zero_le _, hI.1.2.1, hI.1.2.2.1, hI.1.2.2.2⟩, hI.2⟩⟩⟩
set_option maxRecDepth 100000 in
set_option maxHeartbeats 4000000 in
theorem mm_keep0 (l : Launch) (D : va_G) (ad : Nat → Nat) (M : Sm) (hI : IM M) (p1 : Nat) (hs1 : p1 < 8) (h1 : (coM M).tn ≤ 128) : vM l D yX8_keep cX8_keep 5 (some .int) { frames := 1, cells := 0, slots := 0, locals := 22 } [.ref (ad 0), .int (nI p1), .int (nI 0)] (MW D ad M) (fun r ws' => ∃ M' : Sm, ws' = MW D ad M' ∧ r = some (.int (nI (coM M).tn)) ∧ R_keep (coM M) 0 p1 (coM M') ∧ M'.f_thrown = 0 ∧ IM M') := by
  refine vM.lift (m_keep0 l D (ad 0) p1 M.f_thrown (ad 1) M.f_taped (ad 2) M.f_outs (ad 3) (ad 4) (ad 5) (ad 6) (ad 7) (ad 8) (ad 9) (ad 10) (ad 11) (ad 12) (ad 13) (ad 14) (ad 15) (ad 16) (ad 17) (ad 18) (ad 19) (ad 20) M.f_texts (ad 21) M.f_infos (ad 22) (ad 23) (ad 24) (ad 25) (ad 26) (ad 27) (ad 28) (ad 29) (ad 30) (ad 31) (ad 32) M.f_tape M.f_slots M.f_kept hs1 h1) (ws := MW D ad M) (wr := [mw2 D ad M, mw5 D ad M, mw6 D ad M, mw7 D ad M, mw8 D ad M, mw9 D ad M, mw10 D ad M, mw11 D ad M, mw12 D ad M, mw13 D ad M, mw14 D ad M, mw15 D ad M, mw16 D ad M, mw17 D ad M, mw18 D ad M, mw19 D ad M, mw20 D ad M, mw21 D ad M, mw22 D ad M, mw23 D ad M, mw24 D ad M, mw25 D ad M, mw26 D ad M, mw27 D ad M, mw28 D ad M, mw29 D ad M, mw30 D ad M, mw31 D ad M, mw32 D ad M]) [0, 1, 3, 4] [2, 5, 6, 7, 8, 9, 10, 11, 12, 13, 14, 15, 16, 17, 18, 19, 20, 21, 22, 23, 24, 25, 26, 27, 28, 29, 30, 31, 32] rfl rfl (by decide) rfl (by decide) (by decide) (fun r wo h => ?_)
  obtain ⟨rfl, rfl⟩ := h
  exact ⟨[29, 30, 0, 31, 32, 1, 2, 3, 4, 5, 6, 7, 8, 9, 10, 11, 12, 13, 14, 15, 16, 17, 18, 19, 20, 21, 22, 23, 24, 25, 26, 27, 28], MW D ad ({ M with f_thrown := 0, f_taped := 0, f_slots := cpo M.f_slots (128 * p1) M.f_taped M.f_tape, f_kept := va_up M.f_kept p1 M.f_taped }), by decide, rfl, rfl, ⟨{ M with f_thrown := 0, f_taped := 0, f_slots := cpo M.f_slots (128 * p1) M.f_taped M.f_tape, f_kept := va_up M.f_kept p1 M.f_taped }, rfl, rfl, keep_M _ _ M.f_slots _ 0 p1 _ h1 rfl rfl rfl rfl rfl rfl rfl ⟨rfl, rfl⟩ ⟨rfl, rfl, rfl, rfl, rfl⟩, rfl, ⟨⟨Nat.zero_le _, hI.1.2.1, up_le128 hI.1.2.2.1 h1, hI.1.2.2.2⟩, hI.2⟩⟩⟩
set_option maxRecDepth 100000 in
set_option maxHeartbeats 4000000 in
theorem mm_keep1 (l : Launch) (D : va_G) (ad : Nat → Nat) (M : Sm) (hI : IM M) (p1 : Nat) (hs1 : p1 < 8) (h1 : (coM M).on ≤ 128) : vM l D yX8_keep cX8_keep 5 (some .int) { frames := 1, cells := 0, slots := 0, locals := 22 } [.ref (ad 0), .int (nI p1), .int (nI 1)] (MW D ad M) (fun r ws' => ∃ M' : Sm, ws' = MW D ad M' ∧ r = some (.int (nI (coM M).on)) ∧ R_keep (coM M) 1 p1 (coM M') ∧ M'.f_thrown = 0 ∧ IM M') := by
  refine vM.lift (m_keep1 l D (ad 0) p1 M.f_thrown (ad 1) M.f_taped (ad 2) M.f_outs (ad 3) (ad 4) (ad 5) (ad 6) (ad 7) (ad 8) (ad 9) (ad 10) (ad 11) (ad 12) (ad 13) (ad 14) (ad 15) (ad 16) (ad 17) (ad 18) (ad 19) (ad 20) M.f_texts (ad 21) M.f_infos (ad 22) (ad 23) (ad 24) (ad 25) (ad 26) (ad 27) (ad 28) (ad 29) (ad 30) (ad 31) (ad 32) M.f_out M.f_slots M.f_kept hs1 h1) (ws := MW D ad M) (wr := [mw1 D ad M, mw5 D ad M, mw6 D ad M, mw7 D ad M, mw8 D ad M, mw9 D ad M, mw10 D ad M, mw11 D ad M, mw12 D ad M, mw13 D ad M, mw14 D ad M, mw15 D ad M, mw16 D ad M, mw17 D ad M, mw18 D ad M, mw19 D ad M, mw20 D ad M, mw21 D ad M, mw22 D ad M, mw23 D ad M, mw24 D ad M, mw25 D ad M, mw26 D ad M, mw27 D ad M, mw28 D ad M, mw29 D ad M, mw30 D ad M, mw31 D ad M, mw32 D ad M]) [0, 2, 3, 4] [1, 5, 6, 7, 8, 9, 10, 11, 12, 13, 14, 15, 16, 17, 18, 19, 20, 21, 22, 23, 24, 25, 26, 27, 28, 29, 30, 31, 32] rfl rfl (by decide) rfl (by decide) (by decide) (fun r wo h => ?_)
  obtain ⟨rfl, rfl⟩ := h
  exact ⟨[29, 0, 30, 31, 32, 1, 2, 3, 4, 5, 6, 7, 8, 9, 10, 11, 12, 13, 14, 15, 16, 17, 18, 19, 20, 21, 22, 23, 24, 25, 26, 27, 28], MW D ad ({ M with f_thrown := 0, f_slots := cpo M.f_slots (128 * p1) M.f_outs M.f_out, f_kept := va_up M.f_kept p1 M.f_outs }), by decide, rfl, rfl, ⟨{ M with f_thrown := 0, f_slots := cpo M.f_slots (128 * p1) M.f_outs M.f_out, f_kept := va_up M.f_kept p1 M.f_outs }, rfl, rfl, keep_M _ _ M.f_slots _ 1 p1 _ h1 rfl rfl rfl rfl rfl rfl rfl ⟨rfl, rfl⟩ ⟨rfl, rfl, rfl, rfl, rfl⟩, rfl, ⟨⟨hI.1.1, hI.1.2.1, up_le128 hI.1.2.2.1 h1, hI.1.2.2.2⟩, hI.2⟩⟩⟩
set_option maxRecDepth 100000 in
set_option maxHeartbeats 4000000 in
theorem mm_digest (l : Launch) (D : va_G) (ad : Nat → Nat) (M : Sm) (hI : IM M)  : vM l D yX8_digest cX8_digest 2 none { frames := 3, cells := 0, slots := 0, locals := 84 } [.ref (ad 0)] (MW D ad M) (fun r ws' => ∃ M' : Sm, ws' = MW D ad M' ∧ r = none ∧ R_out (coM M) 32 (digF (coM M).tt (coM M).tn) (coM M') ∧ M'.f_thrown = 0 ∧ IM M') := by
  refine vM.lift (m_digest l D (ad 0) M.f_thrown (ad 1) M.f_taped (ad 2) M.f_outs (ad 3) (ad 4) (ad 5) (ad 6) (ad 7) (ad 8) (ad 9) (ad 10) (ad 11) (ad 12) (ad 13) (ad 14) (ad 15) (ad 16) (ad 17) (ad 18) (ad 19) (ad 20) M.f_texts (ad 21) M.f_infos (ad 22) (ad 23) (ad 24) (ad 25) (ad 26) (ad 27) (ad 28) (ad 29) (ad 30) (ad 31) (ad 32) M.f_work M.f_w M.f_h M.f_state M.f_each M.f_begin M.f_sum M.f_tape M.f_out hI.1.1 hI.2.1 hI.2.2) (ws := MW D ad M) (wr := [mw3 D ad M, mw4 D ad M, mw5 D ad M, mw6 D ad M, mw7 D ad M, mw8 D ad M, mw9 D ad M, mw12 D ad M, mw13 D ad M, mw19 D ad M, mw20 D ad M, mw21 D ad M, mw22 D ad M, mw23 D ad M, mw24 D ad M, mw25 D ad M, mw26 D ad M, mw27 D ad M, mw28 D ad M, mw29 D ad M, mw30 D ad M, mw31 D ad M, mw32 D ad M]) [0, 14, 15, 16, 17, 11, 10, 18, 1, 2] [3, 4, 5, 6, 7, 8, 9, 12, 13, 19, 20, 21, 22, 23, 24, 25, 26, 27, 28, 29, 30, 31, 32] rfl rfl (by decide) rfl (by decide) (by decide) (fun r wo h => ?_)
  obtain ⟨wk, w1, th, s1, su, ot, rfl, rfl, hr⟩ := h
  exact ⟨[23, 31, 32, 0, 1, 2, 3, 4, 5, 6, 29, 28, 7, 8, 24, 25, 26, 27, 30, 9, 10, 11, 12, 13, 14, 15, 16, 17, 18, 19, 20, 21, 22], MW D ad ({ M with f_thrown := 0, f_taped := 0, f_outs := 32, f_work := wk, f_w := w1, f_h := th, f_state := s1, f_sum := su, f_out := ot }), by decide, rfl, rfl, ⟨{ M with f_thrown := 0, f_taped := 0, f_outs := 32, f_work := wk, f_w := w1, f_h := th, f_state := s1, f_sum := su, f_out := ot }, rfl, rfl, ⟨⟨rfl, rfl, hr⟩, ⟨rfl, rfl⟩, ⟨rfl, rfl, rfl, rfl, rfl⟩⟩, rfl, ⟨⟨Nat.zero_le _, (show 32 ≤ 2064 by decide), hI.1.2.2.1, hI.1.2.2.2⟩, hI.2⟩⟩⟩
set_option maxRecDepth 100000 in
set_option maxHeartbeats 4000000 in
theorem mm_mac (l : Launch) (D : va_G) (ad : Nat → Nat) (M : Sm) (hI : IM M) (p1 : Nat) (hs1 : p1 < 8) : vM l D yX8_mac cX8_mac 3 none { frames := 4, cells := 0, slots := 0, locals := 109 } [.ref (ad 0), .int (nI p1)] (MW D ad M) (fun r ws' => ∃ M' : Sm, ws' = MW D ad M' ∧ r = none ∧ R_out (coM M) 32 (macF ((coM M).sb p1) ((coM M).sn p1) (coM M).tt (coM M).tn) (coM M') ∧ M'.f_thrown = 0 ∧ IM M') := by
  refine vM.lift (m_mac l D (ad 0) p1 M.f_thrown (ad 1) M.f_taped (ad 2) M.f_outs (ad 3) (ad 4) (ad 5) (ad 6) (ad 7) (ad 8) (ad 9) (ad 10) (ad 11) (ad 12) (ad 13) (ad 14) (ad 15) (ad 16) (ad 17) (ad 18) (ad 19) (ad 20) M.f_texts (ad 21) M.f_infos (ad 22) (ad 23) (ad 24) (ad 25) (ad 26) (ad 27) (ad 28) (ad 29) (ad 30) (ad 31) (ad 32) M.f_work M.f_w M.f_h M.f_state M.f_each M.f_begin M.f_sum M.f_pad M.f_text M.f_tape M.f_out M.f_slots M.f_kept hs1 (hI.1.2.2.1 p1 hs1) hI.1.1 hI.2.1 hI.2.2) (ws := MW D ad M) (wr := [mw5 D ad M, mw6 D ad M, mw7 D ad M, mw8 D ad M, mw9 D ad M, mw12 D ad M, mw13 D ad M, mw21 D ad M, mw22 D ad M, mw23 D ad M, mw24 D ad M, mw25 D ad M, mw26 D ad M, mw27 D ad M, mw28 D ad M, mw29 D ad M, mw30 D ad M, mw31 D ad M, mw32 D ad M]) [0, 14, 15, 16, 17, 11, 10, 18, 19, 20, 1, 2, 3, 4] [5, 6, 7, 8, 9, 12, 13, 21, 22, 23, 24, 25, 26, 27, 28, 29, 30, 31, 32] rfl rfl (by decide) rfl (by decide) (by decide) (fun r wo h => ?_)
  obtain ⟨wk, w1, th, s1, su, k1, tx, tn, ot, rfl, rfl, hr⟩ := h
  exact ⟨[19, 29, 30, 31, 32, 0, 1, 2, 3, 4, 25, 24, 5, 6, 20, 21, 22, 23, 26, 27, 28, 7, 8, 9, 10, 11, 12, 13, 14, 15, 16, 17, 18], MW D ad ({ M with f_thrown := 0, f_taped := 0, f_outs := 32, f_texts := tn, f_work := wk, f_w := w1, f_h := th, f_state := s1, f_sum := su, f_pad := k1, f_text := tx, f_out := ot }), by decide, rfl, rfl, ⟨{ M with f_thrown := 0, f_taped := 0, f_outs := 32, f_texts := tn, f_work := wk, f_w := w1, f_h := th, f_state := s1, f_sum := su, f_pad := k1, f_text := tx, f_out := ot }, rfl, rfl, ⟨⟨rfl, rfl, hr⟩, ⟨rfl, rfl⟩, ⟨rfl, rfl, rfl, rfl, rfl⟩⟩, rfl, ⟨⟨Nat.zero_le _, (show 32 ≤ 2064 by decide), hI.1.2.2.1, hI.1.2.2.2⟩, hI.2⟩⟩⟩
set_option maxRecDepth 100000 in
set_option maxHeartbeats 4000000 in
theorem mm_stretch (l : Launch) (D : va_G) (ad : Nat → Nat) (M : Sm) (hI : IM M) (p1 : Nat) (p2 : Nat) (hs1 : p1 < 8) (h2 : 1 ≤ p2) (h3 : p2 ≤ 1024) : vM l D yX8_stretch cX8_stretch 4 none { frames := 5, cells := 0, slots := 0, locals := 128 } [.ref (ad 0), .int (nI p1), .int (nI p2)] (MW D ad M) (fun r ws' => ∃ M' : Sm, ws' = MW D ad M' ∧ r = none ∧ R_out (coM M) p2 (strF ((coM M).sb p1) ((coM M).sn p1) (coM M).tt (coM M).tn) (coM M') ∧ M'.f_thrown = 0 ∧ IM M') := by
  refine vM.lift (m_str l D (ad 0) p1 p2 M.f_thrown (ad 1) M.f_taped (ad 2) M.f_outs (ad 3) (ad 4) (ad 5) (ad 6) (ad 7) (ad 8) (ad 9) (ad 10) (ad 11) (ad 12) (ad 13) (ad 14) (ad 15) (ad 16) (ad 17) (ad 18) (ad 19) (ad 20) M.f_texts (ad 21) M.f_infos (ad 22) (ad 23) (ad 24) (ad 25) (ad 26) (ad 27) (ad 28) (ad 29) (ad 30) (ad 31) (ad 32) M.f_work M.f_w M.f_h M.f_state M.f_each M.f_begin M.f_sum M.f_pad M.f_text M.f_info M.f_made M.f_tape M.f_out M.f_slots M.f_kept hs1 (hI.1.2.2.1 p1 hs1) hI.1.1 h2 h3 hI.2.1 hI.2.2) (ws := MW D ad M) (wr := [mw5 D ad M, mw6 D ad M, mw7 D ad M, mw8 D ad M, mw9 D ad M, mw12 D ad M, mw13 D ad M, mw23 D ad M, mw24 D ad M, mw25 D ad M, mw26 D ad M, mw27 D ad M, mw28 D ad M, mw29 D ad M, mw30 D ad M, mw31 D ad M, mw32 D ad M]) [0, 14, 15, 16, 17, 11, 10, 18, 19, 20, 21, 22, 1, 2, 3, 4] [5, 6, 7, 8, 9, 12, 13, 23, 24, 25, 26, 27, 28, 29, 30, 31, 32] rfl rfl (by decide) rfl (by decide) (by decide) (fun r wo h => ?_)
  obtain ⟨wk, w1, th, s1, su, k1, tx, tn, nf, fn, md, ot, rfl, rfl, hr⟩ := h
  exact ⟨[17, 29, 30, 31, 32, 0, 1, 2, 3, 4, 23, 22, 5, 6, 18, 19, 20, 21, 24, 25, 26, 27, 28, 7, 8, 9, 10, 11, 12, 13, 14, 15, 16], MW D ad ({ M with f_thrown := 0, f_taped := 0, f_outs := p2, f_texts := tn, f_infos := fn, f_work := wk, f_w := w1, f_h := th, f_state := s1, f_sum := su, f_pad := k1, f_text := tx, f_info := nf, f_made := md, f_out := ot }), by decide, rfl, rfl, ⟨{ M with f_thrown := 0, f_taped := 0, f_outs := p2, f_texts := tn, f_infos := fn, f_work := wk, f_w := w1, f_h := th, f_state := s1, f_sum := su, f_pad := k1, f_text := tx, f_info := nf, f_made := md, f_out := ot }, rfl, rfl, ⟨⟨rfl, rfl, hr⟩, ⟨rfl, rfl⟩, ⟨rfl, rfl, rfl, rfl, rfl⟩⟩, rfl, ⟨⟨Nat.zero_le _, (show p2 ≤ 2064 by omega), hI.1.2.2.1, hI.1.2.2.2⟩, hI.2⟩⟩⟩
set_option maxRecDepth 100000 in
set_option maxHeartbeats 4000000 in
theorem mm_label (l : Launch) (D : va_G) (ad : Nat → Nat) (M : Sm) (hI : IM M) (p1 : Nat) (p2 : Nat) (p3 : Nat) (hs1 : p1 < 8) (h5 : p2 < 11) (h2 : 1 ≤ p3) (h3 : p3 ≤ 1024) (h4 : (coM M).tn ≤ 255) : vM l D yX8_label cX8_label 4 none { frames := 5, cells := 0, slots := 0, locals := 128 } [.ref (ad 0), .int (nI p1), .int (nI p2), .int (nI p3)] (MW D ad M) (fun r ws' => ∃ M' : Sm, ws' = MW D ad M' ∧ r = none ∧ R_out (coM M) p3 (labF ((coM M).sb p1) ((coM M).sn p1) p2 (coM M).tt (coM M).tn p3) (coM M') ∧ M'.f_thrown = 0 ∧ IM M') := by
  refine vM.lift (m_lab l D (ad 0) p1 p2 p3 M.f_thrown (ad 1) M.f_taped (ad 2) M.f_outs (ad 3) (ad 4) (ad 5) (ad 6) (ad 7) (ad 8) (ad 9) (ad 10) (ad 11) (ad 12) (ad 13) (ad 14) (ad 15) (ad 16) (ad 17) (ad 18) (ad 19) (ad 20) M.f_texts (ad 21) M.f_infos (ad 22) (ad 23) (ad 24) (ad 25) (ad 26) (ad 27) (ad 28) (ad 29) (ad 30) (ad 31) (ad 32) M.f_work M.f_w M.f_h M.f_state M.f_each M.f_begin M.f_sum M.f_pad M.f_text M.f_info M.f_made M.f_tape M.f_out M.f_slots M.f_kept hs1 (hI.1.2.2.1 p1 hs1) h4 h5 h2 h3 hI.2.1 hI.2.2) (ws := MW D ad M) (wr := [mw5 D ad M, mw6 D ad M, mw7 D ad M, mw8 D ad M, mw9 D ad M, mw12 D ad M, mw13 D ad M, mw23 D ad M, mw24 D ad M, mw25 D ad M, mw26 D ad M, mw27 D ad M, mw28 D ad M, mw29 D ad M, mw30 D ad M, mw31 D ad M, mw32 D ad M]) [0, 14, 15, 16, 17, 11, 10, 18, 19, 20, 21, 22, 1, 2, 3, 4] [5, 6, 7, 8, 9, 12, 13, 23, 24, 25, 26, 27, 28, 29, 30, 31, 32] rfl rfl (by decide) rfl (by decide) (by decide) (fun r wo h => ?_)
  obtain ⟨wk, w1, th, s1, su, k1, tx, tn, nf, fn, md, ot, rfl, rfl, hr⟩ := h
  exact ⟨[17, 29, 30, 31, 32, 0, 1, 2, 3, 4, 23, 22, 5, 6, 18, 19, 20, 21, 24, 25, 26, 27, 28, 7, 8, 9, 10, 11, 12, 13, 14, 15, 16], MW D ad ({ M with f_thrown := 0, f_taped := 0, f_outs := p3, f_texts := tn, f_infos := fn, f_work := wk, f_w := w1, f_h := th, f_state := s1, f_sum := su, f_pad := k1, f_text := tx, f_info := nf, f_made := md, f_out := ot }), by decide, rfl, rfl, ⟨{ M with f_thrown := 0, f_taped := 0, f_outs := p3, f_texts := tn, f_infos := fn, f_work := wk, f_w := w1, f_h := th, f_state := s1, f_sum := su, f_pad := k1, f_text := tx, f_info := nf, f_made := md, f_out := ot }, rfl, rfl, ⟨⟨rfl, rfl, hr⟩, ⟨rfl, rfl⟩, ⟨rfl, rfl, rfl, rfl, rfl⟩⟩, rfl, ⟨⟨Nat.zero_le _, (show p3 ≤ 2064 by omega), hI.1.2.2.1, hI.1.2.2.2⟩, hI.2⟩⟩⟩
set_option maxRecDepth 100000 in
set_option maxHeartbeats 4000000 in
theorem mm_block (l : Launch) (D : va_G) (ad : Nat → Nat) (M : Sm) (hI : IM M) (p1 : Nat) (p2 : Wd) (hs1 : p1 < 8) (h1 : (coM M).sn p1 = 32) (h2 : (coM M).tn = 12) : vM l D yX8_block cX8_block 4 none { frames := 4, cells := 0, slots := 0, locals := 95 } [.ref (ad 0), .int (nI p1), .int (wI p2)] (MW D ad M) (fun r ws' => ∃ M' : Sm, ws' = MW D ad M' ∧ r = none ∧ R_out (coM M) 64 (ccF ((coM M).sb p1) (coM M).tt p2) (coM M') ∧ M'.f_thrown = 0 ∧ IM M') := by
  refine vM.lift (m_blk l D (ad 0) p1 p2 M.f_thrown (ad 1) M.f_taped (ad 2) M.f_outs (ad 3) (ad 4) (ad 5) (ad 6) (ad 7) (ad 8) (ad 9) (ad 10) (ad 11) (ad 12) (ad 13) (ad 14) (ad 15) (ad 16) (ad 17) (ad 18) (ad 19) (ad 20) M.f_texts (ad 21) M.f_infos (ad 22) (ad 23) (ad 24) (ad 25) (ad 26) (ad 27) (ad 28) (ad 29) (ad 30) (ad 31) (ad 32) M.f_blockKey M.f_nonce M.f_x M.f_first M.f_block M.f_tape M.f_out M.f_slots M.f_kept hs1 h1 h2) (ws := MW D ad M) (wr := [mw5 D ad M, mw6 D ad M, mw7 D ad M, mw8 D ad M, mw9 D ad M, mw10 D ad M, mw11 D ad M, mw12 D ad M, mw13 D ad M, mw14 D ad M, mw15 D ad M, mw16 D ad M, mw17 D ad M, mw18 D ad M, mw19 D ad M, mw20 D ad M, mw21 D ad M, mw22 D ad M, mw28 D ad M, mw29 D ad M, mw30 D ad M, mw31 D ad M, mw32 D ad M]) [0, 23, 24, 25, 26, 27, 1, 2, 3, 4] [5, 6, 7, 8, 9, 10, 11, 12, 13, 14, 15, 16, 17, 18, 19, 20, 21, 22, 28, 29, 30, 31, 32] rfl rfl (by decide) rfl (by decide) (by decide) (fun r wo h => ?_)
  obtain ⟨bx, bf, bb, bk, bn, ot, rfl, rfl, hr⟩ := h
  exact ⟨[23, 29, 30, 31, 32, 0, 1, 2, 3, 4, 5, 6, 7, 8, 9, 10, 11, 12, 13, 14, 15, 16, 17, 24, 25, 26, 27, 28, 18, 19, 20, 21, 22], MW D ad ({ M with f_thrown := 0, f_taped := 0, f_outs := 64, f_blockKey := bk, f_nonce := bn, f_x := bx, f_first := bf, f_block := bb, f_out := ot }), by decide, rfl, rfl, ⟨{ M with f_thrown := 0, f_taped := 0, f_outs := 64, f_blockKey := bk, f_nonce := bn, f_x := bx, f_first := bf, f_block := bb, f_out := ot }, rfl, rfl, ⟨⟨rfl, rfl, hr⟩, ⟨rfl, rfl⟩, ⟨rfl, rfl, rfl, rfl, rfl⟩⟩, rfl, ⟨⟨Nat.zero_le _, (show 64 ≤ 2064 by decide), hI.1.2.2.1, hI.1.2.2.2⟩, hI.2⟩⟩⟩
set_option maxRecDepth 100000 in
set_option maxHeartbeats 4000000 in
theorem mm_tally (l : Launch) (D : va_G) (ad : Nat → Nat) (M : Sm) (hI : IM M) (p1 : Nat) (hs1 : p1 < 8) (h1 : (coM M).sn p1 = 32) : vM l D yX8_tally cX8_tally 3 none { frames := 2, cells := 0, slots := 0, locals := 52 } [.ref (ad 0), .int (nI p1)] (MW D ad M) (fun r ws' => ∃ M' : Sm, ws' = MW D ad M' ∧ r = none ∧ R_out (coM M) 16 (talF ((coM M).sb p1) (coM M).tt (coM M).tn) (coM M') ∧ M'.f_thrown = 0 ∧ IM M') := by
  refine vM.lift (m_tal l D (ad 0) p1 M.f_thrown (ad 1) M.f_taped (ad 2) M.f_outs (ad 3) (ad 4) (ad 5) (ad 6) (ad 7) (ad 8) (ad 9) (ad 10) (ad 11) (ad 12) (ad 13) (ad 14) (ad 15) (ad 16) (ad 17) (ad 18) (ad 19) (ad 20) M.f_texts (ad 21) M.f_infos (ad 22) (ad 23) (ad 24) (ad 25) (ad 26) (ad 27) (ad 28) (ad 29) (ad 30) (ad 31) (ad 32) M.f_a M.f_r M.f_product M.f_tag M.f_sealed M.f_tape M.f_out M.f_slots M.f_kept hs1 hI.1.1 h1) (ws := MW D ad M) (wr := [mw5 D ad M, mw6 D ad M, mw7 D ad M, mw8 D ad M, mw9 D ad M, mw10 D ad M, mw11 D ad M, mw12 D ad M, mw13 D ad M, mw14 D ad M, mw15 D ad M, mw16 D ad M, mw17 D ad M, mw18 D ad M, mw19 D ad M, mw20 D ad M, mw21 D ad M, mw22 D ad M, mw23 D ad M, mw24 D ad M, mw25 D ad M, mw26 D ad M, mw27 D ad M]) [0, 28, 29, 30, 31, 32, 1, 2, 3, 4] [5, 6, 7, 8, 9, 10, 11, 12, 13, 14, 15, 16, 17, 18, 19, 20, 21, 22, 23, 24, 25, 26, 27] rfl rfl (by decide) rfl (by decide) (by decide) (fun r wo h => ?_)
  obtain ⟨ta, tr, tq, tg, sl, ot, rfl, rfl, hr⟩ := h
  exact ⟨[23, 29, 30, 31, 32, 0, 1, 2, 3, 4, 5, 6, 7, 8, 9, 10, 11, 12, 13, 14, 15, 16, 17, 18, 19, 20, 21, 22, 24, 25, 26, 27, 28], MW D ad ({ M with f_thrown := 0, f_taped := 0, f_outs := 16, f_a := ta, f_r := tr, f_product := tq, f_tag := tg, f_sealed := sl, f_out := ot }), by decide, rfl, rfl, ⟨{ M with f_thrown := 0, f_taped := 0, f_outs := 16, f_a := ta, f_r := tr, f_product := tq, f_tag := tg, f_sealed := sl, f_out := ot }, rfl, rfl, ⟨⟨rfl, rfl, hr⟩, ⟨rfl, rfl⟩, ⟨rfl, rfl, rfl, rfl, rfl⟩⟩, rfl, ⟨⟨Nat.zero_le _, (show 16 ≤ 2064 by decide), hI.1.2.2.1, hI.1.2.2.2⟩, hI.2⟩⟩⟩
