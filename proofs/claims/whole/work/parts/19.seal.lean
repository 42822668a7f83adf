/-! the tally of head, text and sizes; sealing and opening -/
def szF (h n : Nat) : Nat → By := wb (wb (fun _ => 0#8) 0 8 (BitVec.ofNat 64 h)) 8 8 (BitVec.ofNat 64 n)
def tagA (kb t : Nat → By) (h n : Nat) : Nat := po_it (po_R kb) (szF h n) 0 16 1 (po_it (po_R kb) t h n 1 (po_it (po_R kb) t 0 h 1 0 ((h + 15) / 16)) ((n + 15) / 16)) ((16 + 15) / 16)
def tagS (kb : Nat → By) : Nat := (le4 kb 16).toNat + (le4 kb 20).toNat * 2 ^ 32 + (le4 kb 24).toNat * 2 ^ 64 + (le4 kb 28).toNat * 2 ^ 96
def tagF (kb t : Nat → By) (h n : Nat) : Nat → By := fun j => BitVec.ofNat 8 ((tagA kb t h n + tagS kb) / 256 ^ j)
def sealF (key iv : Nat → By) (x : BitVec 64) (t : Nat → By) (h n : Nat) : Nat → By := fun j => if j < n then covF key (nonF iv x) t h n j else tagF (ccF key (nonF iv x) 0#32) (covF key (nonF iv x) t h n) h (n - h) (j - n)
def openOk (key iv : Nat → By) (x : BitVec 64) (t : Nat → By) (h m : Nat) : Prop := ∀ j, j < 16 → t (m + j) = tagF (ccF key (nonF iv x) 0#32) t h (m - h) j
theorem po_pc_congr {t t' : Nat → By} {o n pad i : Nat} (h : ∀ j, o ≤ j → j < o + n → t j = t' j) : po_pc t o n pad i = po_pc t' o n pad i := by
  unfold po_pc
  rw [leN_congr (min 16 (n - 16 * i)) (b := fun j => t (o + 16 * i + j)) (b' := fun j => t' (o + 16 * i + j)) (fun j hj => h _ (by omega) (by omega))]
theorem po_it_congr {R : Nat} {t t' : Nat → By} {o n pad acc : Nat} (h : ∀ j, o ≤ j → j < o + n → t j = t' j) : ∀ i, po_it R t o n pad acc i = po_it R t' o n pad acc i := by
  intro i
  induction i with
  | zero => rfl
  | succ i ih => simp only [po_it]; rw [ih, po_pc_congr h]
theorem po_R_congr {k k' : Nat → By} (h : ∀ j, j < 32 → k j = k' j) : po_R k = po_R k' := by
  unfold po_R
  exact leN_congr 16 (fun j hj => by rw [h j (by omega)])
theorem tagS_congr {k k' : Nat → By} (h : ∀ j, j < 32 → k j = k' j) : tagS k = tagS k' := by
  unfold tagS
  rw [le4_congr (a := 16) (fun j hj => h _ (by omega)), le4_congr (a := 20) (fun j hj => h _ (by omega)), le4_congr (a := 24) (fun j hj => h _ (by omega)), le4_congr (a := 28) (fun j hj => h _ (by omega))]
theorem tagF_congr {k k' t t' : Nat → By} {h n : Nat} (hk : ∀ j, j < 32 → k j = k' j) (ht : ∀ j, j < h + n → t j = t' j) : tagF k t h n = tagF k' t' h n := by
  funext j
  unfold tagF tagA
  rw [tagS_congr hk, po_R_congr hk, po_it_congr (o := 0) (t := t) (t' := t') (fun q _ hq => ht q (by omega)), po_it_congr (o := h) (t := t) (t' := t') (fun q _ hq => ht q hq)]
theorem sz_eq (t : Nat → By) (h n : Nat) : ∀ j, 0 ≤ j → j < 0 + 16 → wb (wb t 0 8 (BitVec.ofNat 64 h)) 8 8 (BitVec.ofNat 64 n) j = szF h n j := by
  intro j _ hj
  unfold szF
  by_cases e : 8 ≤ j
  · rw [wb_in e (by omega), wb_in e (by omega)]
  · rw [wb_out (o := 8) (by omega), wb_out (o := 8) (by omega), wb_in (o := 0) (by omega) (by omega), wb_in (o := 0) (by omega) (by omega)]
theorem tag_fin {ya kb t tz : Nat → By} {sa : Nat → Nat} {V X h n : Nat} (ha : ∀ j, j < 64 → ya j = kb j) (hR : V = po_R ya) (hS : ∀ i, i < 4 → sa i = (le4 ya (16 + 4 * i)).toNat) (hA : X = po_it V (wb (wb tz 0 8 (BitVec.ofNat 64 h)) 8 8 (BitVec.ofNat 64 n)) 0 16 1 (po_it V t h n 1 (po_it V t 0 h 1 0 ((h + 15) / 16)) ((n + 15) / 16)) ((16 + 15) / 16)) (j : Nat) :
    BitVec.ofNat 8 ((X + (sa 0 + sa 1 * 2 ^ 32 + sa 2 * 2 ^ 64 + sa 3 * 2 ^ 96)) / 256 ^ j) = tagF kb t h n j := by
  have h32 : ∀ j, j < 32 → ya j = kb j := fun j hj => ha j (by omega)
  rw [← tagF_congr (t := t) (t' := t) h32 (fun _ _ => rfl)]
  unfold tagF tagA tagS
  rw [hA, hR, po_it_congr (sz_eq tz h n), hS 0 (by decide), hS 1 (by decide), hS 2 (by decide), hS 3 (by decide)]
theorem or_x0 {w : Wd} {a b : By} : (w ||| (a.signExtend 32 ^^^ b.signExtend 32)) = 0#32 ↔ w = 0#32 ∧ a = b := by
  rw [BitVec.or_eq_zero_iff, BitVec.xor_eq_zero_iff]
  exact and_congr_right (fun _ => ⟨fun h => by rw [← sx8 a, ← sx8 b, h], fun h => by rw [h]⟩)
theorem st_s {w : Wd} {t m : Nat → By} {o i : Nat} (h : w = 0#32 ↔ ∀ j, j < i → t (o + j) = m j) : (w ||| ((t (o + i)).signExtend 32 ^^^ (m i).signExtend 32)) = 0#32 ↔ ∀ j, j < i + 1 → t (o + j) = m j := by
  rw [or_x0, h]
  constructor
  · intro ⟨h1, h2⟩ j hj
    by_cases e : j = i
    · rw [e]; exact h2
    · exact h1 j (by omega)
  · intro h1
    exact ⟨fun j hj => h1 j (by omega), h1 i (by omega)⟩
theorem wI_z {w : Wd} (h : wI w = 0) : w = 0#32 := wI_inj (h.trans rfl)
theorem cov_congr {key n1 n2 t t' : Nat → By} {h n : Nat} (hn : ∀ j, j < 12 → n1 j = n2 j) {j : Nat} (ht : t j = t' j) : covF key n1 t h n j = covF key n2 t' h n j := by
  unfold covF
  rw [ht, ccF_congr (fun _ _ => rfl) hn ((j - h) % 64) (Nat.mod_lt _ (by decide))]
theorem seal_end {key iv n1 t t5 mt t' : Nat → By} {x : BitVec 64} {h n : Nat} (hn : ∀ j, j < 12 → n1 j = nonF iv x j) (hm : ∀ j, j < 16 → mt j = tagF (ccF key n1 0#32) (covF key n1 (va_cpy t t5 0 0 n) h n) h (n - h) j) (hh : h ≤ n) (ht : t' = va_cpy mt (covF key n1 (va_cpy t t5 0 0 n) h n) 0 n 16) : ∀ j, j < n + 16 → t' j = sealF key iv x t h n j := by
  have c : ∀ j, j < n → covF key n1 (va_cpy t t5 0 0 n) h n j = covF key (nonF iv x) t h n j := fun j hj => cov_congr hn (by rw [pk_cpy_in (by omega) (by omega), Nat.zero_add, Nat.sub_zero])
  intro j hj
  unfold sealF
  rw [ht]
  by_cases e : j < n
  · rw [if_pos e, pk_cpy_out (by omega), c j e]
  · rw [if_neg e, pk_cpy_in (by omega) (by omega), Nat.zero_add, hm _ (by omega)]
    exact congrFun (tagF_congr (fun q hq => ccF_congr (fun _ _ => rfl) hn q (by omega)) (fun q hq => c q (by omega))) _
theorem open_iff {key iv n1 t mt : Nat → By} {x : BitVec 64} {h m : Nat} (hn : ∀ j, j < 12 → n1 j = nonF iv x j) (hm : ∀ j, j < 16 → mt j = tagF (ccF key n1 0#32) t h (m - h) j) : (∀ j, j < 16 → t (m + j) = mt j) ↔ openOk key iv x t h m := by
  have e : tagF (ccF key n1 0#32) t h (m - h) = tagF (ccF key (nonF iv x) 0#32) t h (m - h) := tagF_congr (fun q hq => ccF_congr (fun _ _ => rfl) hn q (by omega)) (fun _ _ => rfl)
  unfold openOk
  rw [← e]
  exact ⟨fun q j hj => (q j hj).trans (hm j hj), fun q j hj => (q j hj).trans (hm j hj).symm⟩
theorem dX5_makeTally_0 : decode cX5_makeTally 0 = .ok (.aload_n 0, 1) := by decide +kernel
theorem dX5_makeTally_1 : decode cX5_makeTally 1 = .ok (.getfield 21, 3) := by decide +kernel
theorem dX5_makeTally_4 : decode cX5_makeTally 4 = .ok (.aload_n 1, 1) := by decide +kernel
theorem dX5_makeTally_5 : decode cX5_makeTally 5 = .ok (.getfield 84, 3) := by decide +kernel
theorem dX5_makeTally_8 : decode cX5_makeTally 8 = .ok (.getfield 43, 3) := by decide +kernel
theorem dX5_makeTally_11 : decode cX5_makeTally 11 = .ok (.aload_n 0, 1) := by decide +kernel
theorem dX5_makeTally_12 : decode cX5_makeTally 12 = .ok (.getfield 9, 3) := by decide +kernel
theorem dX5_makeTally_15 : decode cX5_makeTally 15 = .ok (.iconst 0, 1) := by decide +kernel
theorem dX5_makeTally_16 : decode cX5_makeTally 16 = .ok (.invokevirtual 74, 3) := by decide +kernel
theorem dX5_makeTally_19 : decode cX5_makeTally 19 = .ok (.aload_n 0, 1) := by decide +kernel
theorem dX5_makeTally_20 : decode cX5_makeTally 20 = .ok (.getfield 25, 3) := by decide +kernel
theorem dX5_makeTally_23 : decode cX5_makeTally 23 = .ok (.aload_n 0, 1) := by decide +kernel
theorem dX5_makeTally_24 : decode cX5_makeTally 24 = .ok (.getfield 21, 3) := by decide +kernel
theorem dX5_makeTally_27 : decode cX5_makeTally 27 = .ok (.getfield 80, 3) := by decide +kernel
theorem dX5_makeTally_30 : decode cX5_makeTally 30 = .ok (.invokevirtual 93, 3) := by decide +kernel
theorem dX5_makeTally_33 : decode cX5_makeTally 33 = .ok (.aload_n 0, 1) := by decide +kernel
theorem dX5_makeTally_34 : decode cX5_makeTally 34 = .ok (.getfield 25, 3) := by decide +kernel
theorem dX5_makeTally_37 : decode cX5_makeTally 37 = .ok (.aload_n 2, 1) := by decide +kernel
theorem dX5_makeTally_38 : decode cX5_makeTally 38 = .ok (.iconst 0, 1) := by decide +kernel
theorem dX5_makeTally_39 : decode cX5_makeTally 39 = .ok (.iload_n 3, 1) := by decide +kernel
theorem dX5_makeTally_40 : decode cX5_makeTally 40 = .ok (.iconst 1, 1) := by decide +kernel
theorem dX5_makeTally_41 : decode cX5_makeTally 41 = .ok (.invokevirtual 99, 3) := by decide +kernel
theorem dX5_makeTally_44 : decode cX5_makeTally 44 = .ok (.aload_n 0, 1) := by decide +kernel
theorem dX5_makeTally_45 : decode cX5_makeTally 45 = .ok (.getfield 25, 3) := by decide +kernel
theorem dX5_makeTally_48 : decode cX5_makeTally 48 = .ok (.aload_n 2, 1) := by decide +kernel
theorem dX5_makeTally_49 : decode cX5_makeTally 49 = .ok (.iload_n 3, 1) := by decide +kernel
theorem dX5_makeTally_50 : decode cX5_makeTally 50 = .ok (.iload 4, 2) := by decide +kernel
theorem dX5_makeTally_52 : decode cX5_makeTally 52 = .ok (.iload_n 3, 1) := by decide +kernel
theorem dX5_makeTally_53 : decode cX5_makeTally 53 = .ok (.isub, 1) := by decide +kernel
theorem dX5_makeTally_54 : decode cX5_makeTally 54 = .ok (.iconst 1, 1) := by decide +kernel
theorem dX5_makeTally_55 : decode cX5_makeTally 55 = .ok (.invokevirtual 99, 3) := by decide +kernel
theorem dX5_makeTally_58 : decode cX5_makeTally 58 = .ok (.aload_n 0, 1) := by decide +kernel
theorem dX5_makeTally_59 : decode cX5_makeTally 59 = .ok (.getfield 15, 3) := by decide +kernel
theorem dX5_makeTally_62 : decode cX5_makeTally 62 = .ok (.iconst 0, 1) := by decide +kernel
theorem dX5_makeTally_63 : decode cX5_makeTally 63 = .ok (.bipush 8, 2) := by decide +kernel
theorem dX5_makeTally_65 : decode cX5_makeTally 65 = .ok (.iload_n 3, 1) := by decide +kernel
theorem dX5_makeTally_66 : decode cX5_makeTally 66 = .ok (.i2l, 1) := by decide +kernel
theorem dX5_makeTally_67 : decode cX5_makeTally 67 = .ok (.invokestatic 103, 3) := by decide +kernel
theorem dX5_makeTally_70 : decode cX5_makeTally 70 = .ok (.aload_n 0, 1) := by decide +kernel
theorem dX5_makeTally_71 : decode cX5_makeTally 71 = .ok (.getfield 15, 3) := by decide +kernel
theorem dX5_makeTally_74 : decode cX5_makeTally 74 = .ok (.bipush 8, 2) := by decide +kernel
theorem dX5_makeTally_76 : decode cX5_makeTally 76 = .ok (.bipush 8, 2) := by decide +kernel
theorem dX5_makeTally_78 : decode cX5_makeTally 78 = .ok (.iload 4, 2) := by decide +kernel
theorem dX5_makeTally_80 : decode cX5_makeTally 80 = .ok (.iload_n 3, 1) := by decide +kernel
theorem dX5_makeTally_81 : decode cX5_makeTally 81 = .ok (.isub, 1) := by decide +kernel
theorem dX5_makeTally_82 : decode cX5_makeTally 82 = .ok (.i2l, 1) := by decide +kernel
theorem dX5_makeTally_83 : decode cX5_makeTally 83 = .ok (.invokestatic 103, 3) := by decide +kernel
theorem dX5_makeTally_86 : decode cX5_makeTally 86 = .ok (.aload_n 0, 1) := by decide +kernel
theorem dX5_makeTally_87 : decode cX5_makeTally 87 = .ok (.getfield 25, 3) := by decide +kernel
theorem dX5_makeTally_90 : decode cX5_makeTally 90 = .ok (.aload_n 0, 1) := by decide +kernel
theorem dX5_makeTally_91 : decode cX5_makeTally 91 = .ok (.getfield 15, 3) := by decide +kernel
theorem dX5_makeTally_94 : decode cX5_makeTally 94 = .ok (.iconst 0, 1) := by decide +kernel
theorem dX5_makeTally_95 : decode cX5_makeTally 95 = .ok (.aload_n 0, 1) := by decide +kernel
theorem dX5_makeTally_96 : decode cX5_makeTally 96 = .ok (.getfield 15, 3) := by decide +kernel
theorem dX5_makeTally_99 : decode cX5_makeTally 99 = .ok (.arraylength, 1) := by decide +kernel
theorem dX5_makeTally_100 : decode cX5_makeTally 100 = .ok (.iconst 1, 1) := by decide +kernel
theorem dX5_makeTally_101 : decode cX5_makeTally 101 = .ok (.invokevirtual 99, 3) := by decide +kernel
theorem dX5_makeTally_104 : decode cX5_makeTally 104 = .ok (.aload_n 0, 1) := by decide +kernel
theorem dX5_makeTally_105 : decode cX5_makeTally 105 = .ok (.getfield 25, 3) := by decide +kernel
theorem dX5_makeTally_108 : decode cX5_makeTally 108 = .ok (.aload_n 0, 1) := by decide +kernel
theorem dX5_makeTally_109 : decode cX5_makeTally 109 = .ok (.getfield 18, 3) := by decide +kernel
theorem dX5_makeTally_112 : decode cX5_makeTally 112 = .ok (.invokevirtual 107, 3) := by decide +kernel
theorem dX5_makeTally_115 : decode cX5_makeTally 115 = .ok (.return_, 1) := by decide +kernel
theorem dX5_tallyStandsAt_0 : decode cX5_tallyStandsAt 0 = .ok (.iconst 0, 1) := by decide +kernel
theorem dX5_tallyStandsAt_1 : decode cX5_tallyStandsAt 1 = .ok (.istore_n 3, 1) := by decide +kernel
theorem dX5_tallyStandsAt_2 : decode cX5_tallyStandsAt 2 = .ok (.iconst 0, 1) := by decide +kernel
theorem dX5_tallyStandsAt_3 : decode cX5_tallyStandsAt 3 = .ok (.istore 4, 2) := by decide +kernel
theorem dX5_tallyStandsAt_5 : decode cX5_tallyStandsAt 5 = .ok (.iload 4, 2) := by decide +kernel
theorem dX5_tallyStandsAt_7 : decode cX5_tallyStandsAt 7 = .ok (.bipush 16, 2) := by decide +kernel
theorem dX5_tallyStandsAt_9 : decode cX5_tallyStandsAt 9 = .ok (.if_icmp .ge 26, 3) := by decide +kernel
theorem dX5_tallyStandsAt_12 : decode cX5_tallyStandsAt 12 = .ok (.iload_n 3, 1) := by decide +kernel
theorem dX5_tallyStandsAt_13 : decode cX5_tallyStandsAt 13 = .ok (.aload_n 1, 1) := by decide +kernel
theorem dX5_tallyStandsAt_14 : decode cX5_tallyStandsAt 14 = .ok (.iload_n 2, 1) := by decide +kernel
theorem dX5_tallyStandsAt_15 : decode cX5_tallyStandsAt 15 = .ok (.iload 4, 2) := by decide +kernel
theorem dX5_tallyStandsAt_17 : decode cX5_tallyStandsAt 17 = .ok (.iadd, 1) := by decide +kernel
theorem dX5_tallyStandsAt_18 : decode cX5_tallyStandsAt 18 = .ok (.baload, 1) := by decide +kernel
theorem dX5_tallyStandsAt_19 : decode cX5_tallyStandsAt 19 = .ok (.aload_n 0, 1) := by decide +kernel
theorem dX5_tallyStandsAt_20 : decode cX5_tallyStandsAt 20 = .ok (.getfield 18, 3) := by decide +kernel
theorem dX5_tallyStandsAt_23 : decode cX5_tallyStandsAt 23 = .ok (.iload 4, 2) := by decide +kernel
theorem dX5_tallyStandsAt_25 : decode cX5_tallyStandsAt 25 = .ok (.baload, 1) := by decide +kernel
theorem dX5_tallyStandsAt_26 : decode cX5_tallyStandsAt 26 = .ok (.ixor, 1) := by decide +kernel
theorem dX5_tallyStandsAt_27 : decode cX5_tallyStandsAt 27 = .ok (.ior, 1) := by decide +kernel
theorem dX5_tallyStandsAt_28 : decode cX5_tallyStandsAt 28 = .ok (.istore_n 3, 1) := by decide +kernel
theorem dX5_tallyStandsAt_29 : decode cX5_tallyStandsAt 29 = .ok (.iinc 4 1, 3) := by decide +kernel
theorem dX5_tallyStandsAt_32 : decode cX5_tallyStandsAt 32 = .ok (.goto (-27), 3) := by decide +kernel
theorem dX5_tallyStandsAt_35 : decode cX5_tallyStandsAt 35 = .ok (.iload_n 3, 1) := by decide +kernel
theorem dX5_tallyStandsAt_36 : decode cX5_tallyStandsAt 36 = .ok (.ifCond .ne 7, 3) := by decide +kernel
theorem dX5_tallyStandsAt_39 : decode cX5_tallyStandsAt 39 = .ok (.iconst 1, 1) := by decide +kernel
theorem dX5_tallyStandsAt_40 : decode cX5_tallyStandsAt 40 = .ok (.goto 4, 3) := by decide +kernel
theorem dX5_tallyStandsAt_43 : decode cX5_tallyStandsAt 43 = .ok (.iconst 0, 1) := by decide +kernel
theorem dX5_tallyStandsAt_44 : decode cX5_tallyStandsAt 44 = .ok (.ireturn, 1) := by decide +kernel
set_option maxHeartbeats 4000000 in
set_option maxRecDepth 100000 in
theorem c_SL_tally (l : Launch) (D : va_G) (a0 : Nat) (a1 : Nat) (a2 : Nat) (p3 : Nat) (p4 : Nat) (a0_keyStream : Nat) (a0_tallier : Nat) (a0_nonce : Nat) (a0_sizes : Nat) (a0_madeTally : Nat) (a0_keyStream_first : Nat) (a0_keyStream_x : Nat) (a0_keyStream_bytes : Nat) (t_a0_keyStream_first : Nat → Wd) (t_a0_keyStream_x : Nat → Wd) (t_a0_keyStream_bytes : Nat → By) (a0_tallier_a : Nat) (a0_tallier_r : Nat) (a0_tallier_product : Nat) (a0_tallier_s : Nat) (a0_tallier_piece : Nat) (t_a0_tallier_s : Nat → Nat) (t_a0_tallier_piece : Nat → By) (t_a0_nonce : Nat → By) (t_a0_sizes : Nat → By) (t_a0_madeTally : Nat → By) (a1_secret : Nat) (a1_key : Nat) (a1_iv : Nat) (a1_hide : Nat) (v_a1_phase : Int32) (a1_key_bytes : Nat) (v_a1_key_count : Nat) (t_a1_key_bytes : Nat → By) (n2 : Nat) (t_a2 : Nat → By) (x0 x1 x2 x3 x4 r0 r1 r2 r3 r4 q0 q1 q2 q3 q4 : Nat) (h1 : p3 ≤ p4) (h2 : p4 ≤ n2) (hn : n2 < 2 ^ 30) : vM l D yX5_makeTally cX5_makeTally 5 none { frames := 4, cells := 0, slots := 0, locals := 93 } [.ref a0, .ref a1, .ref a2, .int (nI p3), .int (nI p4)] [(a0, .inr (5, [.ref a0_keyStream, .ref a0_tallier, .ref a0_nonce, .ref a0_sizes, .ref a0_madeTally])), (a0_keyStream, .inr (3, [.ref a0_keyStream_first, .ref a0_keyStream_x, .ref a0_keyStream_bytes])), (a0_keyStream_first, aW D 16 t_a0_keyStream_first), (a0_keyStream_x, aW D 16 t_a0_keyStream_x), (a0_keyStream_bytes, aB D 64 t_a0_keyStream_bytes), (a0_tallier, .inr (6, [.ref a0_tallier_a, .ref a0_tallier_r, .ref a0_tallier_product, .ref a0_tallier_s, .ref a0_tallier_piece])), (a0_tallier_a, aL D 5 (v5 x0 x1 x2 x3 x4)), (a0_tallier_r, aL D 5 (v5 r0 r1 r2 r3 r4)), (a0_tallier_product, aL D 5 (v5 q0 q1 q2 q3 q4)), (a0_tallier_s, aL D 4 t_a0_tallier_s), (a0_tallier_piece, aB D 17 t_a0_tallier_piece), (a0_nonce, aB D 12 t_a0_nonce), (a0_sizes, aB D 16 t_a0_sizes), (a0_madeTally, aB D 16 t_a0_madeTally), (a1, .inr (1, [.ref a1_secret, .ref a1_key, .ref a1_iv, .ref a1_hide, .int v_a1_phase])), (a1_key, .inr (4, [.ref a1_key_bytes, .int (nI v_a1_key_count)])), (a1_key_bytes, aB D 32 t_a1_key_bytes), (a2, aB D n2 t_a2)] (fun r wo => ∃ (kf : Nat → Wd) (kx : Nat → Wd) (kb : Nat → By) (z0 : Nat) (z1 : Nat) (z2 : Nat) (z3 : Nat) (z4 : Nat) (y0 : Nat) (y1 : Nat) (y2 : Nat) (y3 : Nat) (y4 : Nat) (u0 : Nat) (u1 : Nat) (u2 : Nat) (u3 : Nat) (u4 : Nat) (ss : Nat → Nat) (pp : Nat → By) (zz : Nat → By) (mt : Nat → By), r = none ∧ wo = [(a0, .inr (5, [.ref a0_keyStream, .ref a0_tallier, .ref a0_nonce, .ref a0_sizes, .ref a0_madeTally])), (a0_keyStream, .inr (3, [.ref a0_keyStream_first, .ref a0_keyStream_x, .ref a0_keyStream_bytes])), (a0_keyStream_first, aW D 16 kf), (a0_keyStream_x, aW D 16 kx), (a0_keyStream_bytes, aB D 64 kb), (a0_tallier, .inr (6, [.ref a0_tallier_a, .ref a0_tallier_r, .ref a0_tallier_product, .ref a0_tallier_s, .ref a0_tallier_piece])), (a0_tallier_a, aL D 5 (v5 z0 z1 z2 z3 z4)), (a0_tallier_r, aL D 5 (v5 y0 y1 y2 y3 y4)), (a0_tallier_product, aL D 5 (v5 u0 u1 u2 u3 u4)), (a0_tallier_s, aL D 4 ss), (a0_tallier_piece, aB D 17 pp), (a0_nonce, aB D 12 t_a0_nonce), (a0_sizes, aB D 16 zz), (a0_madeTally, aB D 16 mt), (a1, .inr (1, [.ref a1_secret, .ref a1_key, .ref a1_iv, .ref a1_hide, .int v_a1_phase])), (a1_key, .inr (4, [.ref a1_key_bytes, .int (nI v_a1_key_count)])), (a1_key_bytes, aB D 32 t_a1_key_bytes), (a2, aB D n2 t_a2)] ∧ (∀ j, j < 16 → mt j = tagF (ccF t_a1_key_bytes t_a0_nonce 0#32) t_a2 p3 (p4 - p3) j)) := by
  refine vM.of (by decide) (Nat.le_of_ble_eq_true rfl) (fun C hCl hCD g R => ?_)
  subst hCl; subst hCD
  show VJ C 0 0 0 [(0, .ref a0), (1, .ref a1), (2, .ref a2), (3, .int (nI p3)), (4, .int (nI p4))] [] [(a0, .inr (5, [.ref a0_keyStream, .ref a0_tallier, .ref a0_nonce, .ref a0_sizes, .ref a0_madeTally])), (a0_keyStream, .inr (3, [.ref a0_keyStream_first, .ref a0_keyStream_x, .ref a0_keyStream_bytes])), (a0_keyStream_first, aW C.D 16 t_a0_keyStream_first), (a0_keyStream_x, aW C.D 16 t_a0_keyStream_x), (a0_keyStream_bytes, aB C.D 64 t_a0_keyStream_bytes), (a0_tallier, .inr (6, [.ref a0_tallier_a, .ref a0_tallier_r, .ref a0_tallier_product, .ref a0_tallier_s, .ref a0_tallier_piece])), (a0_tallier_a, aL C.D 5 (v5 x0 x1 x2 x3 x4)), (a0_tallier_r, aL C.D 5 (v5 r0 r1 r2 r3 r4)), (a0_tallier_product, aL C.D 5 (v5 q0 q1 q2 q3 q4)), (a0_tallier_s, aL C.D 4 t_a0_tallier_s), (a0_tallier_piece, aB C.D 17 t_a0_tallier_piece), (a0_nonce, aB C.D 12 t_a0_nonce), (a0_sizes, aB C.D 16 t_a0_sizes), (a0_madeTally, aB C.D 16 t_a0_madeTally), (a1, .inr (1, [.ref a1_secret, .ref a1_key, .ref a1_iv, .ref a1_hide, .int v_a1_phase])), (a1_key, .inr (4, [.ref a1_key_bytes, .int (nI v_a1_key_count)])), (a1_key_bytes, aB C.D 32 t_a1_key_bytes), (a2, aB C.D n2 t_a2)]
  refine v_aload_n g dX5_makeTally_0 0 rfl 0 rfl ?_
  refine gf_X5_21 g dX5_makeTally_1 0 rfl rfl ?_
  refine v_aload_n g dX5_makeTally_4 1 rfl 1 rfl ?_
  refine gf_X5_84 g dX5_makeTally_5 14 rfl rfl ?_
  refine gf_X5_43 g dX5_makeTally_8 15 rfl rfl ?_
  refine v_aload_n g dX5_makeTally_11 0 rfl 0 rfl ?_
  refine gf_X5_9 g dX5_makeTally_12 0 rfl rfl ?_
  refine v_iconst g dX5_makeTally_15 (v := nI 0) (by decide +kernel) ?_
  refine v_callV (As := [.ref a1_key_bytes, .ref a0_nonce, .int (nI 0)]) (rest := []) (wr := [(a0, .inr (5, [.ref a0_keyStream, .ref a0_tallier, .ref a0_nonce, .ref a0_sizes, .ref a0_madeTally])), (a0_tallier, .inr (6, [.ref a0_tallier_a, .ref a0_tallier_r, .ref a0_tallier_product, .ref a0_tallier_s, .ref a0_tallier_piece])), (a0_tallier_a, aL C.D 5 (v5 x0 x1 x2 x3 x4)), (a0_tallier_r, aL C.D 5 (v5 r0 r1 r2 r3 r4)), (a0_tallier_product, aL C.D 5 (v5 q0 q1 q2 q3 q4)), (a0_tallier_s, aL C.D 4 t_a0_tallier_s), (a0_tallier_piece, aB C.D 17 t_a0_tallier_piece), (a0_sizes, aB C.D 16 t_a0_sizes), (a0_madeTally, aB C.D 16 t_a0_madeTally), (a1, .inr (1, [.ref a1_secret, .ref a1_key, .ref a1_iv, .ref a1_hide, .int v_a1_phase])), (a1_key, .inr (4, [.ref a1_key_bytes, .int (nI v_a1_key_count)])), (a2, aB C.D n2 t_a2)]) cw_X5_74 (hy_X3_make) g (c_KS_make C.l C.D a0_keyStream a1_key_bytes a0_nonce 0#32 a0_keyStream_first a0_keyStream_x a0_keyStream_bytes t_a0_keyStream_first t_a0_keyStream_x t_a0_keyStream_bytes 32 t_a1_key_bytes 12 t_a0_nonce (by omega) (by omega) (by omega) (by omega)) dX5_makeTally_16 1 rfl rfl rfl (by decide) (by decide) (Nat.le_of_ble_eq_true rfl) [1, 2, 3, 4, 16, 11] [0, 5, 6, 7, 8, 9, 10, 12, 13, 14, 15, 17] rfl rfl (by decide) rfl (by decide) (by decide) _ rfl (fun r wo hp1 => ?_)
  obtain ⟨fa, xa, ya, rfl, rfl, ha⟩ := hp1
  refine v_perm [0, 12, 13, 14, 15, 1, 2, 3, 4, 5, 6, 17, 7, 8, 9, 10, 16, 11] [(a0, .inr (5, [.ref a0_keyStream, .ref a0_tallier, .ref a0_nonce, .ref a0_sizes, .ref a0_madeTally])), (a0_keyStream, .inr (3, [.ref a0_keyStream_first, .ref a0_keyStream_x, .ref a0_keyStream_bytes])), (a0_keyStream_first, aW C.D 16 fa), (a0_keyStream_x, aW C.D 16 xa), (a0_keyStream_bytes, aB C.D 64 ya), (a0_tallier, .inr (6, [.ref a0_tallier_a, .ref a0_tallier_r, .ref a0_tallier_product, .ref a0_tallier_s, .ref a0_tallier_piece])), (a0_tallier_a, aL C.D 5 (v5 x0 x1 x2 x3 x4)), (a0_tallier_r, aL C.D 5 (v5 r0 r1 r2 r3 r4)), (a0_tallier_product, aL C.D 5 (v5 q0 q1 q2 q3 q4)), (a0_tallier_s, aL C.D 4 t_a0_tallier_s), (a0_tallier_piece, aB C.D 17 t_a0_tallier_piece), (a0_nonce, aB C.D 12 t_a0_nonce), (a0_sizes, aB C.D 16 t_a0_sizes), (a0_madeTally, aB C.D 16 t_a0_madeTally), (a1, .inr (1, [.ref a1_secret, .ref a1_key, .ref a1_iv, .ref a1_hide, .int v_a1_phase])), (a1_key, .inr (4, [.ref a1_key_bytes, .int (nI v_a1_key_count)])), (a1_key_bytes, aB C.D 32 t_a1_key_bytes), (a2, aB C.D n2 t_a2)] (by decide) rfl rfl ?_
  show VJ C 0 0 19 [(0, .ref a0), (1, .ref a1), (2, .ref a2), (3, .int (nI p3)), (4, .int (nI p4))] [] [(a0, .inr (5, [.ref a0_keyStream, .ref a0_tallier, .ref a0_nonce, .ref a0_sizes, .ref a0_madeTally])), (a0_keyStream, .inr (3, [.ref a0_keyStream_first, .ref a0_keyStream_x, .ref a0_keyStream_bytes])), (a0_keyStream_first, aW C.D 16 fa), (a0_keyStream_x, aW C.D 16 xa), (a0_keyStream_bytes, aB C.D 64 ya), (a0_tallier, .inr (6, [.ref a0_tallier_a, .ref a0_tallier_r, .ref a0_tallier_product, .ref a0_tallier_s, .ref a0_tallier_piece])), (a0_tallier_a, aL C.D 5 (v5 x0 x1 x2 x3 x4)), (a0_tallier_r, aL C.D 5 (v5 r0 r1 r2 r3 r4)), (a0_tallier_product, aL C.D 5 (v5 q0 q1 q2 q3 q4)), (a0_tallier_s, aL C.D 4 t_a0_tallier_s), (a0_tallier_piece, aB C.D 17 t_a0_tallier_piece), (a0_nonce, aB C.D 12 t_a0_nonce), (a0_sizes, aB C.D 16 t_a0_sizes), (a0_madeTally, aB C.D 16 t_a0_madeTally), (a1, .inr (1, [.ref a1_secret, .ref a1_key, .ref a1_iv, .ref a1_hide, .int v_a1_phase])), (a1_key, .inr (4, [.ref a1_key_bytes, .int (nI v_a1_key_count)])), (a1_key_bytes, aB C.D 32 t_a1_key_bytes), (a2, aB C.D n2 t_a2)]
  refine v_aload_n g dX5_makeTally_19 0 rfl 0 rfl ?_
  refine gf_X5_25 g dX5_makeTally_20 0 rfl rfl ?_
  refine v_aload_n g dX5_makeTally_23 0 rfl 0 rfl ?_
  refine gf_X5_21 g dX5_makeTally_24 0 rfl rfl ?_
  refine gf_X5_80 g dX5_makeTally_27 1 rfl rfl ?_
  refine v_callV (As := [.ref a0_keyStream_bytes]) (rest := []) (wr := [(a0, .inr (5, [.ref a0_keyStream, .ref a0_tallier, .ref a0_nonce, .ref a0_sizes, .ref a0_madeTally])), (a0_keyStream, .inr (3, [.ref a0_keyStream_first, .ref a0_keyStream_x, .ref a0_keyStream_bytes])), (a0_keyStream_first, aW C.D 16 fa), (a0_keyStream_x, aW C.D 16 xa), (a0_tallier_product, aL C.D 5 (v5 q0 q1 q2 q3 q4)), (a0_nonce, aB C.D 12 t_a0_nonce), (a0_sizes, aB C.D 16 t_a0_sizes), (a0_madeTally, aB C.D 16 t_a0_madeTally), (a1, .inr (1, [.ref a1_secret, .ref a1_key, .ref a1_iv, .ref a1_hide, .int v_a1_phase])), (a1_key, .inr (4, [.ref a1_key_bytes, .int (nI v_a1_key_count)])), (a1_key_bytes, aB C.D 32 t_a1_key_bytes), (a2, aB C.D n2 t_a2)]) cw_X5_93 (hy_X6_start) g (c_TL_start C.l C.D a0_tallier a0_keyStream_bytes a0_tallier_a a0_tallier_r a0_tallier_product a0_tallier_s a0_tallier_piece t_a0_tallier_s t_a0_tallier_piece 64 ya x0 x1 x2 x3 x4 r0 r1 r2 r3 r4 (by omega) (by omega)) dX5_makeTally_30 5 rfl rfl rfl (by decide) (by decide) (Nat.le_of_ble_eq_true rfl) [5, 6, 7, 9, 10, 4] [0, 1, 2, 3, 8, 11, 12, 13, 14, 15, 16, 17] rfl rfl (by decide) rfl (by decide) (by decide) _ rfl (fun r wo hp2 => ?_)
  obtain ⟨y0, y1, y2, y3, y4, sa, ba, rfl, rfl, hy0, hy1, hy2, hy3, hy4, hR, hS⟩ := hp2
  refine v_perm [0, 1, 2, 3, 17, 12, 13, 14, 4, 15, 16, 5, 6, 7, 8, 9, 10, 11] [(a0, .inr (5, [.ref a0_keyStream, .ref a0_tallier, .ref a0_nonce, .ref a0_sizes, .ref a0_madeTally])), (a0_keyStream, .inr (3, [.ref a0_keyStream_first, .ref a0_keyStream_x, .ref a0_keyStream_bytes])), (a0_keyStream_first, aW C.D 16 fa), (a0_keyStream_x, aW C.D 16 xa), (a0_keyStream_bytes, aB C.D 64 ya), (a0_tallier, .inr (6, [.ref a0_tallier_a, .ref a0_tallier_r, .ref a0_tallier_product, .ref a0_tallier_s, .ref a0_tallier_piece])), (a0_tallier_a, aL C.D 5 (v5 0 0 0 0 0)), (a0_tallier_r, aL C.D 5 (v5 y0 y1 y2 y3 y4)), (a0_tallier_product, aL C.D 5 (v5 q0 q1 q2 q3 q4)), (a0_tallier_s, aL C.D 4 sa), (a0_tallier_piece, aB C.D 17 ba), (a0_nonce, aB C.D 12 t_a0_nonce), (a0_sizes, aB C.D 16 t_a0_sizes), (a0_madeTally, aB C.D 16 t_a0_madeTally), (a1, .inr (1, [.ref a1_secret, .ref a1_key, .ref a1_iv, .ref a1_hide, .int v_a1_phase])), (a1_key, .inr (4, [.ref a1_key_bytes, .int (nI v_a1_key_count)])), (a1_key_bytes, aB C.D 32 t_a1_key_bytes), (a2, aB C.D n2 t_a2)] (by decide) rfl rfl ?_
  show VJ C 0 0 33 [(0, .ref a0), (1, .ref a1), (2, .ref a2), (3, .int (nI p3)), (4, .int (nI p4))] [] [(a0, .inr (5, [.ref a0_keyStream, .ref a0_tallier, .ref a0_nonce, .ref a0_sizes, .ref a0_madeTally])), (a0_keyStream, .inr (3, [.ref a0_keyStream_first, .ref a0_keyStream_x, .ref a0_keyStream_bytes])), (a0_keyStream_first, aW C.D 16 fa), (a0_keyStream_x, aW C.D 16 xa), (a0_keyStream_bytes, aB C.D 64 ya), (a0_tallier, .inr (6, [.ref a0_tallier_a, .ref a0_tallier_r, .ref a0_tallier_product, .ref a0_tallier_s, .ref a0_tallier_piece])), (a0_tallier_a, aL C.D 5 (v5 0 0 0 0 0)), (a0_tallier_r, aL C.D 5 (v5 y0 y1 y2 y3 y4)), (a0_tallier_product, aL C.D 5 (v5 q0 q1 q2 q3 q4)), (a0_tallier_s, aL C.D 4 sa), (a0_tallier_piece, aB C.D 17 ba), (a0_nonce, aB C.D 12 t_a0_nonce), (a0_sizes, aB C.D 16 t_a0_sizes), (a0_madeTally, aB C.D 16 t_a0_madeTally), (a1, .inr (1, [.ref a1_secret, .ref a1_key, .ref a1_iv, .ref a1_hide, .int v_a1_phase])), (a1_key, .inr (4, [.ref a1_key_bytes, .int (nI v_a1_key_count)])), (a1_key_bytes, aB C.D 32 t_a1_key_bytes), (a2, aB C.D n2 t_a2)]
  refine v_aload_n g dX5_makeTally_33 0 rfl 0 rfl ?_
  refine gf_X5_25 g dX5_makeTally_34 0 rfl rfl ?_
  refine v_aload_n g dX5_makeTally_37 2 rfl 2 rfl ?_
  refine v_iconst g dX5_makeTally_38 (v := nI 0) (by decide +kernel) ?_
  refine v_iload_n g dX5_makeTally_39 3 rfl 3 rfl ?_
  refine v_iconst g dX5_makeTally_40 (v := nI 1) (by decide +kernel) ?_
  refine v_callV (As := [.ref a2, .int (nI 0), .int (nI p3), .int (nI 1)]) (rest := []) (wr := [(a0, .inr (5, [.ref a0_keyStream, .ref a0_tallier, .ref a0_nonce, .ref a0_sizes, .ref a0_madeTally])), (a0_keyStream, .inr (3, [.ref a0_keyStream_first, .ref a0_keyStream_x, .ref a0_keyStream_bytes])), (a0_keyStream_first, aW C.D 16 fa), (a0_keyStream_x, aW C.D 16 xa), (a0_keyStream_bytes, aB C.D 64 ya), (a0_tallier_s, aL C.D 4 sa), (a0_nonce, aB C.D 12 t_a0_nonce), (a0_sizes, aB C.D 16 t_a0_sizes), (a0_madeTally, aB C.D 16 t_a0_madeTally), (a1, .inr (1, [.ref a1_secret, .ref a1_key, .ref a1_iv, .ref a1_hide, .int v_a1_phase])), (a1_key, .inr (4, [.ref a1_key_bytes, .int (nI v_a1_key_count)])), (a1_key_bytes, aB C.D 32 t_a1_key_bytes)]) cw_X5_99 (hy_X6_put) g (c_TL_put C.l C.D a0_tallier a2 0 p3 1 a0_tallier_a a0_tallier_r a0_tallier_product a0_tallier_s a0_tallier_piece ba n2 t_a2 0 0 0 0 0 y0 y1 y2 y3 y4 q0 q1 q2 q3 q4 0 (by decide) (by decide) (by decide) (by decide) (by decide) hy0 hy1 hy2 hy3 hy4 (by decide +kernel) (by omega) (by decide) (by omega)) dX5_makeTally_41 5 rfl rfl rfl (by decide) (by decide) (Nat.le_of_ble_eq_true rfl) [5, 6, 7, 8, 10, 17] [0, 1, 2, 3, 4, 9, 11, 12, 13, 14, 15, 16] rfl rfl (by decide) rfl (by decide) (by decide) _ rfl (fun r wo hp3 => ?_)
  obtain ⟨za0, za1, za2, za3, za4, ua0, ua1, ua2, ua3, ua4, bb, rfl, rfl, hza0, hza1, hza2, hza3, hza4, hA1⟩ := hp3
  refine v_perm [0, 1, 2, 3, 4, 12, 13, 14, 15, 5, 16, 6, 7, 8, 9, 10, 11, 17] [(a0, .inr (5, [.ref a0_keyStream, .ref a0_tallier, .ref a0_nonce, .ref a0_sizes, .ref a0_madeTally])), (a0_keyStream, .inr (3, [.ref a0_keyStream_first, .ref a0_keyStream_x, .ref a0_keyStream_bytes])), (a0_keyStream_first, aW C.D 16 fa), (a0_keyStream_x, aW C.D 16 xa), (a0_keyStream_bytes, aB C.D 64 ya), (a0_tallier, .inr (6, [.ref a0_tallier_a, .ref a0_tallier_r, .ref a0_tallier_product, .ref a0_tallier_s, .ref a0_tallier_piece])), (a0_tallier_a, aL C.D 5 (v5 za0 za1 za2 za3 za4)), (a0_tallier_r, aL C.D 5 (v5 y0 y1 y2 y3 y4)), (a0_tallier_product, aL C.D 5 (v5 ua0 ua1 ua2 ua3 ua4)), (a0_tallier_s, aL C.D 4 sa), (a0_tallier_piece, aB C.D 17 bb), (a0_nonce, aB C.D 12 t_a0_nonce), (a0_sizes, aB C.D 16 t_a0_sizes), (a0_madeTally, aB C.D 16 t_a0_madeTally), (a1, .inr (1, [.ref a1_secret, .ref a1_key, .ref a1_iv, .ref a1_hide, .int v_a1_phase])), (a1_key, .inr (4, [.ref a1_key_bytes, .int (nI v_a1_key_count)])), (a1_key_bytes, aB C.D 32 t_a1_key_bytes), (a2, aB C.D n2 t_a2)] (by decide) rfl rfl ?_
  show VJ C 0 0 44 [(0, .ref a0), (1, .ref a1), (2, .ref a2), (3, .int (nI p3)), (4, .int (nI p4))] [] [(a0, .inr (5, [.ref a0_keyStream, .ref a0_tallier, .ref a0_nonce, .ref a0_sizes, .ref a0_madeTally])), (a0_keyStream, .inr (3, [.ref a0_keyStream_first, .ref a0_keyStream_x, .ref a0_keyStream_bytes])), (a0_keyStream_first, aW C.D 16 fa), (a0_keyStream_x, aW C.D 16 xa), (a0_keyStream_bytes, aB C.D 64 ya), (a0_tallier, .inr (6, [.ref a0_tallier_a, .ref a0_tallier_r, .ref a0_tallier_product, .ref a0_tallier_s, .ref a0_tallier_piece])), (a0_tallier_a, aL C.D 5 (v5 za0 za1 za2 za3 za4)), (a0_tallier_r, aL C.D 5 (v5 y0 y1 y2 y3 y4)), (a0_tallier_product, aL C.D 5 (v5 ua0 ua1 ua2 ua3 ua4)), (a0_tallier_s, aL C.D 4 sa), (a0_tallier_piece, aB C.D 17 bb), (a0_nonce, aB C.D 12 t_a0_nonce), (a0_sizes, aB C.D 16 t_a0_sizes), (a0_madeTally, aB C.D 16 t_a0_madeTally), (a1, .inr (1, [.ref a1_secret, .ref a1_key, .ref a1_iv, .ref a1_hide, .int v_a1_phase])), (a1_key, .inr (4, [.ref a1_key_bytes, .int (nI v_a1_key_count)])), (a1_key_bytes, aB C.D 32 t_a1_key_bytes), (a2, aB C.D n2 t_a2)]
  refine v_aload_n g dX5_makeTally_44 0 rfl 0 rfl ?_
  refine gf_X5_25 g dX5_makeTally_45 0 rfl rfl ?_
  refine v_aload_n g dX5_makeTally_48 2 rfl 2 rfl ?_
  refine v_iload_n g dX5_makeTally_49 3 rfl 3 rfl ?_
  refine v_iload g dX5_makeTally_50 4 rfl ?_
  refine v_iload_n g dX5_makeTally_52 3 rfl 3 rfl ?_
  refine v_isubN g dX5_makeTally_53 (by omega) ?_
  refine v_iconst g dX5_makeTally_54 (v := nI 1) (by decide +kernel) ?_
  refine v_callV (As := [.ref a2, .int (nI p3), .int (nI (p4 - p3)), .int (nI 1)]) (rest := []) (wr := [(a0, .inr (5, [.ref a0_keyStream, .ref a0_tallier, .ref a0_nonce, .ref a0_sizes, .ref a0_madeTally])), (a0_keyStream, .inr (3, [.ref a0_keyStream_first, .ref a0_keyStream_x, .ref a0_keyStream_bytes])), (a0_keyStream_first, aW C.D 16 fa), (a0_keyStream_x, aW C.D 16 xa), (a0_keyStream_bytes, aB C.D 64 ya), (a0_tallier_s, aL C.D 4 sa), (a0_nonce, aB C.D 12 t_a0_nonce), (a0_sizes, aB C.D 16 t_a0_sizes), (a0_madeTally, aB C.D 16 t_a0_madeTally), (a1, .inr (1, [.ref a1_secret, .ref a1_key, .ref a1_iv, .ref a1_hide, .int v_a1_phase])), (a1_key, .inr (4, [.ref a1_key_bytes, .int (nI v_a1_key_count)])), (a1_key_bytes, aB C.D 32 t_a1_key_bytes)]) cw_X5_99 (hy_X6_put) g (c_TL_put C.l C.D a0_tallier a2 p3 (p4 - p3) 1 a0_tallier_a a0_tallier_r a0_tallier_product a0_tallier_s a0_tallier_piece bb n2 t_a2 za0 za1 za2 za3 za4 y0 y1 y2 y3 y4 ua0 ua1 ua2 ua3 ua4 (po_it (val5 y0 y1 y2 y3 y4) t_a2 0 p3 1 0 ((p3 + 15) / 16)) hza0 hza1 hza2 hza3 hza4 hy0 hy1 hy2 hy3 hy4 hA1 (by omega) (by decide) (by omega)) dX5_makeTally_55 5 rfl rfl rfl (by decide) (by decide) (Nat.le_of_ble_eq_true rfl) [5, 6, 7, 8, 10, 17] [0, 1, 2, 3, 4, 9, 11, 12, 13, 14, 15, 16] rfl rfl (by decide) rfl (by decide) (by decide) _ rfl (fun r wo hp4 => ?_)
  obtain ⟨zb0, zb1, zb2, zb3, zb4, ub0, ub1, ub2, ub3, ub4, bc, rfl, rfl, hzb0, hzb1, hzb2, hzb3, hzb4, hA2⟩ := hp4
  refine v_perm [0, 1, 2, 3, 4, 12, 13, 14, 15, 5, 16, 6, 7, 8, 9, 10, 11, 17] [(a0, .inr (5, [.ref a0_keyStream, .ref a0_tallier, .ref a0_nonce, .ref a0_sizes, .ref a0_madeTally])), (a0_keyStream, .inr (3, [.ref a0_keyStream_first, .ref a0_keyStream_x, .ref a0_keyStream_bytes])), (a0_keyStream_first, aW C.D 16 fa), (a0_keyStream_x, aW C.D 16 xa), (a0_keyStream_bytes, aB C.D 64 ya), (a0_tallier, .inr (6, [.ref a0_tallier_a, .ref a0_tallier_r, .ref a0_tallier_product, .ref a0_tallier_s, .ref a0_tallier_piece])), (a0_tallier_a, aL C.D 5 (v5 zb0 zb1 zb2 zb3 zb4)), (a0_tallier_r, aL C.D 5 (v5 y0 y1 y2 y3 y4)), (a0_tallier_product, aL C.D 5 (v5 ub0 ub1 ub2 ub3 ub4)), (a0_tallier_s, aL C.D 4 sa), (a0_tallier_piece, aB C.D 17 bc), (a0_nonce, aB C.D 12 t_a0_nonce), (a0_sizes, aB C.D 16 t_a0_sizes), (a0_madeTally, aB C.D 16 t_a0_madeTally), (a1, .inr (1, [.ref a1_secret, .ref a1_key, .ref a1_iv, .ref a1_hide, .int v_a1_phase])), (a1_key, .inr (4, [.ref a1_key_bytes, .int (nI v_a1_key_count)])), (a1_key_bytes, aB C.D 32 t_a1_key_bytes), (a2, aB C.D n2 t_a2)] (by decide) rfl rfl ?_
  show VJ C 0 0 58 [(0, .ref a0), (1, .ref a1), (2, .ref a2), (3, .int (nI p3)), (4, .int (nI p4))] [] [(a0, .inr (5, [.ref a0_keyStream, .ref a0_tallier, .ref a0_nonce, .ref a0_sizes, .ref a0_madeTally])), (a0_keyStream, .inr (3, [.ref a0_keyStream_first, .ref a0_keyStream_x, .ref a0_keyStream_bytes])), (a0_keyStream_first, aW C.D 16 fa), (a0_keyStream_x, aW C.D 16 xa), (a0_keyStream_bytes, aB C.D 64 ya), (a0_tallier, .inr (6, [.ref a0_tallier_a, .ref a0_tallier_r, .ref a0_tallier_product, .ref a0_tallier_s, .ref a0_tallier_piece])), (a0_tallier_a, aL C.D 5 (v5 zb0 zb1 zb2 zb3 zb4)), (a0_tallier_r, aL C.D 5 (v5 y0 y1 y2 y3 y4)), (a0_tallier_product, aL C.D 5 (v5 ub0 ub1 ub2 ub3 ub4)), (a0_tallier_s, aL C.D 4 sa), (a0_tallier_piece, aB C.D 17 bc), (a0_nonce, aB C.D 12 t_a0_nonce), (a0_sizes, aB C.D 16 t_a0_sizes), (a0_madeTally, aB C.D 16 t_a0_madeTally), (a1, .inr (1, [.ref a1_secret, .ref a1_key, .ref a1_iv, .ref a1_hide, .int v_a1_phase])), (a1_key, .inr (4, [.ref a1_key_bytes, .int (nI v_a1_key_count)])), (a1_key_bytes, aB C.D 32 t_a1_key_bytes), (a2, aB C.D n2 t_a2)]
  refine v_aload_n g dX5_makeTally_58 0 rfl 0 rfl ?_
  refine gf_X5_15 g dX5_makeTally_59 0 rfl rfl ?_
  refine v_iconst g dX5_makeTally_62 (v := nI 0) (by decide +kernel) ?_
  refine v_bipush g dX5_makeTally_63 (v := nI 8) (by decide +kernel) ?_
  refine v_iload_n g dX5_makeTally_65 3 rfl 3 rfl ?_
  refine v_i2lN g (by omega) dX5_makeTally_66 ?_
  refine v_callSN (As := [.ref a0_sizes, .int (nI 0), .int (nI 8), .long (lN p3)]) (rest := []) (wr := [(a0, .inr (5, [.ref a0_keyStream, .ref a0_tallier, .ref a0_nonce, .ref a0_sizes, .ref a0_madeTally])), (a0_keyStream, .inr (3, [.ref a0_keyStream_first, .ref a0_keyStream_x, .ref a0_keyStream_bytes])), (a0_keyStream_first, aW C.D 16 fa), (a0_keyStream_x, aW C.D 16 xa), (a0_keyStream_bytes, aB C.D 64 ya), (a0_tallier, .inr (6, [.ref a0_tallier_a, .ref a0_tallier_r, .ref a0_tallier_product, .ref a0_tallier_s, .ref a0_tallier_piece])), (a0_tallier_a, aL C.D 5 (v5 zb0 zb1 zb2 zb3 zb4)), (a0_tallier_r, aL C.D 5 (v5 y0 y1 y2 y3 y4)), (a0_tallier_product, aL C.D 5 (v5 ub0 ub1 ub2 ub3 ub4)), (a0_tallier_s, aL C.D 4 sa), (a0_tallier_piece, aB C.D 17 bc), (a0_nonce, aB C.D 12 t_a0_nonce), (a0_madeTally, aB C.D 16 t_a0_madeTally), (a1, .inr (1, [.ref a1_secret, .ref a1_key, .ref a1_iv, .ref a1_hide, .int v_a1_phase])), (a1_key, .inr (4, [.ref a1_key_bytes, .int (nI v_a1_key_count)])), (a1_key_bytes, aB C.D 32 t_a1_key_bytes), (a2, aB C.D n2 t_a2)]) cw_X5_103 cl_X5_103 (hy_X7_writeBytes) g (c_writeBytes C.l C.D a0_sizes 0 8 (BitVec.ofNat 64 p3) 16 t_a0_sizes (by decide) (by decide) (by decide)) dX5_makeTally_67 rfl (by decide) (by decide) (Nat.le_of_ble_eq_true rfl) [12] [0, 1, 2, 3, 4, 5, 6, 7, 8, 9, 10, 11, 13, 14, 15, 16, 17] rfl rfl (by decide) rfl (by decide) (by decide) _ rfl (fun r wo hp5 => ?_)
  obtain ⟨rfl, rfl⟩ := hp5
  refine v_perm [0, 1, 2, 3, 4, 5, 6, 7, 8, 9, 10, 11, 17, 12, 13, 14, 15, 16] [(a0, .inr (5, [.ref a0_keyStream, .ref a0_tallier, .ref a0_nonce, .ref a0_sizes, .ref a0_madeTally])), (a0_keyStream, .inr (3, [.ref a0_keyStream_first, .ref a0_keyStream_x, .ref a0_keyStream_bytes])), (a0_keyStream_first, aW C.D 16 fa), (a0_keyStream_x, aW C.D 16 xa), (a0_keyStream_bytes, aB C.D 64 ya), (a0_tallier, .inr (6, [.ref a0_tallier_a, .ref a0_tallier_r, .ref a0_tallier_product, .ref a0_tallier_s, .ref a0_tallier_piece])), (a0_tallier_a, aL C.D 5 (v5 zb0 zb1 zb2 zb3 zb4)), (a0_tallier_r, aL C.D 5 (v5 y0 y1 y2 y3 y4)), (a0_tallier_product, aL C.D 5 (v5 ub0 ub1 ub2 ub3 ub4)), (a0_tallier_s, aL C.D 4 sa), (a0_tallier_piece, aB C.D 17 bc), (a0_nonce, aB C.D 12 t_a0_nonce), (a0_sizes, aB C.D 16 (wb t_a0_sizes 0 8 (BitVec.ofNat 64 p3))), (a0_madeTally, aB C.D 16 t_a0_madeTally), (a1, .inr (1, [.ref a1_secret, .ref a1_key, .ref a1_iv, .ref a1_hide, .int v_a1_phase])), (a1_key, .inr (4, [.ref a1_key_bytes, .int (nI v_a1_key_count)])), (a1_key_bytes, aB C.D 32 t_a1_key_bytes), (a2, aB C.D n2 t_a2)] (by decide) rfl rfl ?_
  show VJ C 0 0 70 [(0, .ref a0), (1, .ref a1), (2, .ref a2), (3, .int (nI p3)), (4, .int (nI p4))] [] [(a0, .inr (5, [.ref a0_keyStream, .ref a0_tallier, .ref a0_nonce, .ref a0_sizes, .ref a0_madeTally])), (a0_keyStream, .inr (3, [.ref a0_keyStream_first, .ref a0_keyStream_x, .ref a0_keyStream_bytes])), (a0_keyStream_first, aW C.D 16 fa), (a0_keyStream_x, aW C.D 16 xa), (a0_keyStream_bytes, aB C.D 64 ya), (a0_tallier, .inr (6, [.ref a0_tallier_a, .ref a0_tallier_r, .ref a0_tallier_product, .ref a0_tallier_s, .ref a0_tallier_piece])), (a0_tallier_a, aL C.D 5 (v5 zb0 zb1 zb2 zb3 zb4)), (a0_tallier_r, aL C.D 5 (v5 y0 y1 y2 y3 y4)), (a0_tallier_product, aL C.D 5 (v5 ub0 ub1 ub2 ub3 ub4)), (a0_tallier_s, aL C.D 4 sa), (a0_tallier_piece, aB C.D 17 bc), (a0_nonce, aB C.D 12 t_a0_nonce), (a0_sizes, aB C.D 16 (wb t_a0_sizes 0 8 (BitVec.ofNat 64 p3))), (a0_madeTally, aB C.D 16 t_a0_madeTally), (a1, .inr (1, [.ref a1_secret, .ref a1_key, .ref a1_iv, .ref a1_hide, .int v_a1_phase])), (a1_key, .inr (4, [.ref a1_key_bytes, .int (nI v_a1_key_count)])), (a1_key_bytes, aB C.D 32 t_a1_key_bytes), (a2, aB C.D n2 t_a2)]
  refine v_aload_n g dX5_makeTally_70 0 rfl 0 rfl ?_
  refine gf_X5_15 g dX5_makeTally_71 0 rfl rfl ?_
  refine v_bipush g dX5_makeTally_74 (v := nI 8) (by decide +kernel) ?_
  refine v_bipush g dX5_makeTally_76 (v := nI 8) (by decide +kernel) ?_
  refine v_iload g dX5_makeTally_78 4 rfl ?_
  refine v_iload_n g dX5_makeTally_80 3 rfl 3 rfl ?_
  refine v_isubN g dX5_makeTally_81 (by omega) ?_
  refine v_i2lN g (by omega) dX5_makeTally_82 ?_
  refine v_callSN (As := [.ref a0_sizes, .int (nI 8), .int (nI 8), .long (lN (p4 - p3))]) (rest := []) (wr := [(a0, .inr (5, [.ref a0_keyStream, .ref a0_tallier, .ref a0_nonce, .ref a0_sizes, .ref a0_madeTally])), (a0_keyStream, .inr (3, [.ref a0_keyStream_first, .ref a0_keyStream_x, .ref a0_keyStream_bytes])), (a0_keyStream_first, aW C.D 16 fa), (a0_keyStream_x, aW C.D 16 xa), (a0_keyStream_bytes, aB C.D 64 ya), (a0_tallier, .inr (6, [.ref a0_tallier_a, .ref a0_tallier_r, .ref a0_tallier_product, .ref a0_tallier_s, .ref a0_tallier_piece])), (a0_tallier_a, aL C.D 5 (v5 zb0 zb1 zb2 zb3 zb4)), (a0_tallier_r, aL C.D 5 (v5 y0 y1 y2 y3 y4)), (a0_tallier_product, aL C.D 5 (v5 ub0 ub1 ub2 ub3 ub4)), (a0_tallier_s, aL C.D 4 sa), (a0_tallier_piece, aB C.D 17 bc), (a0_nonce, aB C.D 12 t_a0_nonce), (a0_madeTally, aB C.D 16 t_a0_madeTally), (a1, .inr (1, [.ref a1_secret, .ref a1_key, .ref a1_iv, .ref a1_hide, .int v_a1_phase])), (a1_key, .inr (4, [.ref a1_key_bytes, .int (nI v_a1_key_count)])), (a1_key_bytes, aB C.D 32 t_a1_key_bytes), (a2, aB C.D n2 t_a2)]) cw_X5_103 cl_X5_103 (hy_X7_writeBytes) g (c_writeBytes C.l C.D a0_sizes 8 8 (BitVec.ofNat 64 (p4 - p3)) 16 (wb t_a0_sizes 0 8 (BitVec.ofNat 64 p3)) (by decide) (by decide) (by decide)) dX5_makeTally_83 rfl (by decide) (by decide) (Nat.le_of_ble_eq_true rfl) [12] [0, 1, 2, 3, 4, 5, 6, 7, 8, 9, 10, 11, 13, 14, 15, 16, 17] rfl rfl (by decide) rfl (by decide) (by decide) _ rfl (fun r wo hp6 => ?_)
  obtain ⟨rfl, rfl⟩ := hp6
  refine v_perm [0, 1, 2, 3, 4, 5, 6, 7, 8, 9, 10, 11, 17, 12, 13, 14, 15, 16] [(a0, .inr (5, [.ref a0_keyStream, .ref a0_tallier, .ref a0_nonce, .ref a0_sizes, .ref a0_madeTally])), (a0_keyStream, .inr (3, [.ref a0_keyStream_first, .ref a0_keyStream_x, .ref a0_keyStream_bytes])), (a0_keyStream_first, aW C.D 16 fa), (a0_keyStream_x, aW C.D 16 xa), (a0_keyStream_bytes, aB C.D 64 ya), (a0_tallier, .inr (6, [.ref a0_tallier_a, .ref a0_tallier_r, .ref a0_tallier_product, .ref a0_tallier_s, .ref a0_tallier_piece])), (a0_tallier_a, aL C.D 5 (v5 zb0 zb1 zb2 zb3 zb4)), (a0_tallier_r, aL C.D 5 (v5 y0 y1 y2 y3 y4)), (a0_tallier_product, aL C.D 5 (v5 ub0 ub1 ub2 ub3 ub4)), (a0_tallier_s, aL C.D 4 sa), (a0_tallier_piece, aB C.D 17 bc), (a0_nonce, aB C.D 12 t_a0_nonce), (a0_sizes, aB C.D 16 (wb (wb t_a0_sizes 0 8 (BitVec.ofNat 64 p3)) 8 8 (BitVec.ofNat 64 (p4 - p3)))), (a0_madeTally, aB C.D 16 t_a0_madeTally), (a1, .inr (1, [.ref a1_secret, .ref a1_key, .ref a1_iv, .ref a1_hide, .int v_a1_phase])), (a1_key, .inr (4, [.ref a1_key_bytes, .int (nI v_a1_key_count)])), (a1_key_bytes, aB C.D 32 t_a1_key_bytes), (a2, aB C.D n2 t_a2)] (by decide) rfl rfl ?_
  show VJ C 0 0 86 [(0, .ref a0), (1, .ref a1), (2, .ref a2), (3, .int (nI p3)), (4, .int (nI p4))] [] [(a0, .inr (5, [.ref a0_keyStream, .ref a0_tallier, .ref a0_nonce, .ref a0_sizes, .ref a0_madeTally])), (a0_keyStream, .inr (3, [.ref a0_keyStream_first, .ref a0_keyStream_x, .ref a0_keyStream_bytes])), (a0_keyStream_first, aW C.D 16 fa), (a0_keyStream_x, aW C.D 16 xa), (a0_keyStream_bytes, aB C.D 64 ya), (a0_tallier, .inr (6, [.ref a0_tallier_a, .ref a0_tallier_r, .ref a0_tallier_product, .ref a0_tallier_s, .ref a0_tallier_piece])), (a0_tallier_a, aL C.D 5 (v5 zb0 zb1 zb2 zb3 zb4)), (a0_tallier_r, aL C.D 5 (v5 y0 y1 y2 y3 y4)), (a0_tallier_product, aL C.D 5 (v5 ub0 ub1 ub2 ub3 ub4)), (a0_tallier_s, aL C.D 4 sa), (a0_tallier_piece, aB C.D 17 bc), (a0_nonce, aB C.D 12 t_a0_nonce), (a0_sizes, aB C.D 16 (wb (wb t_a0_sizes 0 8 (BitVec.ofNat 64 p3)) 8 8 (BitVec.ofNat 64 (p4 - p3)))), (a0_madeTally, aB C.D 16 t_a0_madeTally), (a1, .inr (1, [.ref a1_secret, .ref a1_key, .ref a1_iv, .ref a1_hide, .int v_a1_phase])), (a1_key, .inr (4, [.ref a1_key_bytes, .int (nI v_a1_key_count)])), (a1_key_bytes, aB C.D 32 t_a1_key_bytes), (a2, aB C.D n2 t_a2)]
  refine v_aload_n g dX5_makeTally_86 0 rfl 0 rfl ?_
  refine gf_X5_25 g dX5_makeTally_87 0 rfl rfl ?_
  refine v_aload_n g dX5_makeTally_90 0 rfl 0 rfl ?_
  refine gf_X5_15 g dX5_makeTally_91 0 rfl rfl ?_
  refine v_iconst g dX5_makeTally_94 (v := nI 0) (by decide +kernel) ?_
  refine v_aload_n g dX5_makeTally_95 0 rfl 0 rfl ?_
  refine gf_X5_15 g dX5_makeTally_96 0 rfl rfl ?_
  refine v_alen g 12 0 rfl rfl dX5_makeTally_99 ?_
  refine v_iconst g dX5_makeTally_100 (v := nI 1) (by decide +kernel) ?_
  refine v_callV (As := [.ref a0_sizes, .int (nI 0), .int (nI 16), .int (nI 1)]) (rest := []) (wr := [(a0, .inr (5, [.ref a0_keyStream, .ref a0_tallier, .ref a0_nonce, .ref a0_sizes, .ref a0_madeTally])), (a0_keyStream, .inr (3, [.ref a0_keyStream_first, .ref a0_keyStream_x, .ref a0_keyStream_bytes])), (a0_keyStream_first, aW C.D 16 fa), (a0_keyStream_x, aW C.D 16 xa), (a0_keyStream_bytes, aB C.D 64 ya), (a0_tallier_s, aL C.D 4 sa), (a0_nonce, aB C.D 12 t_a0_nonce), (a0_madeTally, aB C.D 16 t_a0_madeTally), (a1, .inr (1, [.ref a1_secret, .ref a1_key, .ref a1_iv, .ref a1_hide, .int v_a1_phase])), (a1_key, .inr (4, [.ref a1_key_bytes, .int (nI v_a1_key_count)])), (a1_key_bytes, aB C.D 32 t_a1_key_bytes), (a2, aB C.D n2 t_a2)]) cw_X5_99 (hy_X6_put) g (c_TL_put C.l C.D a0_tallier a0_sizes 0 16 1 a0_tallier_a a0_tallier_r a0_tallier_product a0_tallier_s a0_tallier_piece bc 16 (wb (wb t_a0_sizes 0 8 (BitVec.ofNat 64 p3)) 8 8 (BitVec.ofNat 64 (p4 - p3))) zb0 zb1 zb2 zb3 zb4 y0 y1 y2 y3 y4 ub0 ub1 ub2 ub3 ub4 (po_it (val5 y0 y1 y2 y3 y4) t_a2 p3 (p4 - p3) 1 (po_it (val5 y0 y1 y2 y3 y4) t_a2 0 p3 1 0 ((p3 + 15) / 16)) ((p4 - p3 + 15) / 16)) hzb0 hzb1 hzb2 hzb3 hzb4 hy0 hy1 hy2 hy3 hy4 hA2 (by decide) (by decide) (by decide)) dX5_makeTally_101 5 rfl rfl rfl (by decide) (by decide) (Nat.le_of_ble_eq_true rfl) [5, 6, 7, 8, 10, 12] [0, 1, 2, 3, 4, 9, 11, 13, 14, 15, 16, 17] rfl rfl (by decide) rfl (by decide) (by decide) _ rfl (fun r wo hp7 => ?_)
  obtain ⟨zc0, zc1, zc2, zc3, zc4, uc0, uc1, uc2, uc3, uc4, bd, rfl, rfl, hzc0, hzc1, hzc2, hzc3, hzc4, hA3⟩ := hp7
  refine v_perm [0, 1, 2, 3, 4, 12, 13, 14, 15, 5, 16, 6, 17, 7, 8, 9, 10, 11] [(a0, .inr (5, [.ref a0_keyStream, .ref a0_tallier, .ref a0_nonce, .ref a0_sizes, .ref a0_madeTally])), (a0_keyStream, .inr (3, [.ref a0_keyStream_first, .ref a0_keyStream_x, .ref a0_keyStream_bytes])), (a0_keyStream_first, aW C.D 16 fa), (a0_keyStream_x, aW C.D 16 xa), (a0_keyStream_bytes, aB C.D 64 ya), (a0_tallier, .inr (6, [.ref a0_tallier_a, .ref a0_tallier_r, .ref a0_tallier_product, .ref a0_tallier_s, .ref a0_tallier_piece])), (a0_tallier_a, aL C.D 5 (v5 zc0 zc1 zc2 zc3 zc4)), (a0_tallier_r, aL C.D 5 (v5 y0 y1 y2 y3 y4)), (a0_tallier_product, aL C.D 5 (v5 uc0 uc1 uc2 uc3 uc4)), (a0_tallier_s, aL C.D 4 sa), (a0_tallier_piece, aB C.D 17 bd), (a0_nonce, aB C.D 12 t_a0_nonce), (a0_sizes, aB C.D 16 (wb (wb t_a0_sizes 0 8 (BitVec.ofNat 64 p3)) 8 8 (BitVec.ofNat 64 (p4 - p3)))), (a0_madeTally, aB C.D 16 t_a0_madeTally), (a1, .inr (1, [.ref a1_secret, .ref a1_key, .ref a1_iv, .ref a1_hide, .int v_a1_phase])), (a1_key, .inr (4, [.ref a1_key_bytes, .int (nI v_a1_key_count)])), (a1_key_bytes, aB C.D 32 t_a1_key_bytes), (a2, aB C.D n2 t_a2)] (by decide) rfl rfl ?_
  show VJ C 0 0 104 [(0, .ref a0), (1, .ref a1), (2, .ref a2), (3, .int (nI p3)), (4, .int (nI p4))] [] [(a0, .inr (5, [.ref a0_keyStream, .ref a0_tallier, .ref a0_nonce, .ref a0_sizes, .ref a0_madeTally])), (a0_keyStream, .inr (3, [.ref a0_keyStream_first, .ref a0_keyStream_x, .ref a0_keyStream_bytes])), (a0_keyStream_first, aW C.D 16 fa), (a0_keyStream_x, aW C.D 16 xa), (a0_keyStream_bytes, aB C.D 64 ya), (a0_tallier, .inr (6, [.ref a0_tallier_a, .ref a0_tallier_r, .ref a0_tallier_product, .ref a0_tallier_s, .ref a0_tallier_piece])), (a0_tallier_a, aL C.D 5 (v5 zc0 zc1 zc2 zc3 zc4)), (a0_tallier_r, aL C.D 5 (v5 y0 y1 y2 y3 y4)), (a0_tallier_product, aL C.D 5 (v5 uc0 uc1 uc2 uc3 uc4)), (a0_tallier_s, aL C.D 4 sa), (a0_tallier_piece, aB C.D 17 bd), (a0_nonce, aB C.D 12 t_a0_nonce), (a0_sizes, aB C.D 16 (wb (wb t_a0_sizes 0 8 (BitVec.ofNat 64 p3)) 8 8 (BitVec.ofNat 64 (p4 - p3)))), (a0_madeTally, aB C.D 16 t_a0_madeTally), (a1, .inr (1, [.ref a1_secret, .ref a1_key, .ref a1_iv, .ref a1_hide, .int v_a1_phase])), (a1_key, .inr (4, [.ref a1_key_bytes, .int (nI v_a1_key_count)])), (a1_key_bytes, aB C.D 32 t_a1_key_bytes), (a2, aB C.D n2 t_a2)]
  refine v_aload_n g dX5_makeTally_104 0 rfl 0 rfl ?_
  refine gf_X5_25 g dX5_makeTally_105 0 rfl rfl ?_
  refine v_aload_n g dX5_makeTally_108 0 rfl 0 rfl ?_
  refine gf_X5_18 g dX5_makeTally_109 0 rfl rfl ?_
  refine v_callV (As := [.ref a0_madeTally]) (rest := []) (wr := [(a0, .inr (5, [.ref a0_keyStream, .ref a0_tallier, .ref a0_nonce, .ref a0_sizes, .ref a0_madeTally])), (a0_keyStream, .inr (3, [.ref a0_keyStream_first, .ref a0_keyStream_x, .ref a0_keyStream_bytes])), (a0_keyStream_first, aW C.D 16 fa), (a0_keyStream_x, aW C.D 16 xa), (a0_keyStream_bytes, aB C.D 64 ya), (a0_tallier_r, aL C.D 5 (v5 y0 y1 y2 y3 y4)), (a0_tallier_product, aL C.D 5 (v5 uc0 uc1 uc2 uc3 uc4)), (a0_tallier_piece, aB C.D 17 bd), (a0_nonce, aB C.D 12 t_a0_nonce), (a0_sizes, aB C.D 16 (wb (wb t_a0_sizes 0 8 (BitVec.ofNat 64 p3)) 8 8 (BitVec.ofNat 64 (p4 - p3)))), (a1, .inr (1, [.ref a1_secret, .ref a1_key, .ref a1_iv, .ref a1_hide, .int v_a1_phase])), (a1_key, .inr (4, [.ref a1_key_bytes, .int (nI v_a1_key_count)])), (a1_key_bytes, aB C.D 32 t_a1_key_bytes), (a2, aB C.D n2 t_a2)]) cw_X5_107 (hy_X6_finish) g (c_TL_fin C.l C.D a0_tallier a0_madeTally a0_tallier_a a0_tallier_r a0_tallier_product a0_tallier_s a0_tallier_piece sa 16 t_a0_madeTally zc0 zc1 zc2 zc3 zc4 hzc0 hzc1 hzc2 hzc3 hzc4 (by rw [hS 0 (by decide)]; exact (le4 _ _).isLt) (by rw [hS 1 (by decide)]; exact (le4 _ _).isLt) (by rw [hS 2 (by decide)]; exact (le4 _ _).isLt) (by rw [hS 3 (by decide)]; exact (le4 _ _).isLt) (by decide) (by decide)) dX5_makeTally_112 5 rfl rfl rfl (by decide) (by decide) (Nat.le_of_ble_eq_true rfl) [5, 6, 9, 13] [0, 1, 2, 3, 4, 7, 8, 10, 11, 12, 14, 15, 16, 17] rfl rfl (by decide) rfl (by decide) (by decide) _ rfl (fun r wo hp8 => ?_)
  obtain ⟨zd0, zd1, zd2, zd3, zd4, rr, rfl, rfl, hr1, hr2⟩ := hp8
  refine v_perm [0, 1, 2, 3, 4, 14, 15, 5, 6, 16, 7, 8, 9, 17, 10, 11, 12, 13] [(a0, .inr (5, [.ref a0_keyStream, .ref a0_tallier, .ref a0_nonce, .ref a0_sizes, .ref a0_madeTally])), (a0_keyStream, .inr (3, [.ref a0_keyStream_first, .ref a0_keyStream_x, .ref a0_keyStream_bytes])), (a0_keyStream_first, aW C.D 16 fa), (a0_keyStream_x, aW C.D 16 xa), (a0_keyStream_bytes, aB C.D 64 ya), (a0_tallier, .inr (6, [.ref a0_tallier_a, .ref a0_tallier_r, .ref a0_tallier_product, .ref a0_tallier_s, .ref a0_tallier_piece])), (a0_tallier_a, aL C.D 5 (v5 zd0 zd1 zd2 zd3 zd4)), (a0_tallier_r, aL C.D 5 (v5 y0 y1 y2 y3 y4)), (a0_tallier_product, aL C.D 5 (v5 uc0 uc1 uc2 uc3 uc4)), (a0_tallier_s, aL C.D 4 sa), (a0_tallier_piece, aB C.D 17 bd), (a0_nonce, aB C.D 12 t_a0_nonce), (a0_sizes, aB C.D 16 (wb (wb t_a0_sizes 0 8 (BitVec.ofNat 64 p3)) 8 8 (BitVec.ofNat 64 (p4 - p3)))), (a0_madeTally, aB C.D 16 rr), (a1, .inr (1, [.ref a1_secret, .ref a1_key, .ref a1_iv, .ref a1_hide, .int v_a1_phase])), (a1_key, .inr (4, [.ref a1_key_bytes, .int (nI v_a1_key_count)])), (a1_key_bytes, aB C.D 32 t_a1_key_bytes), (a2, aB C.D n2 t_a2)] (by decide) rfl rfl ?_
  show VJ C 0 0 115 [(0, .ref a0), (1, .ref a1), (2, .ref a2), (3, .int (nI p3)), (4, .int (nI p4))] [] [(a0, .inr (5, [.ref a0_keyStream, .ref a0_tallier, .ref a0_nonce, .ref a0_sizes, .ref a0_madeTally])), (a0_keyStream, .inr (3, [.ref a0_keyStream_first, .ref a0_keyStream_x, .ref a0_keyStream_bytes])), (a0_keyStream_first, aW C.D 16 fa), (a0_keyStream_x, aW C.D 16 xa), (a0_keyStream_bytes, aB C.D 64 ya), (a0_tallier, .inr (6, [.ref a0_tallier_a, .ref a0_tallier_r, .ref a0_tallier_product, .ref a0_tallier_s, .ref a0_tallier_piece])), (a0_tallier_a, aL C.D 5 (v5 zd0 zd1 zd2 zd3 zd4)), (a0_tallier_r, aL C.D 5 (v5 y0 y1 y2 y3 y4)), (a0_tallier_product, aL C.D 5 (v5 uc0 uc1 uc2 uc3 uc4)), (a0_tallier_s, aL C.D 4 sa), (a0_tallier_piece, aB C.D 17 bd), (a0_nonce, aB C.D 12 t_a0_nonce), (a0_sizes, aB C.D 16 (wb (wb t_a0_sizes 0 8 (BitVec.ofNat 64 p3)) 8 8 (BitVec.ofNat 64 (p4 - p3)))), (a0_madeTally, aB C.D 16 rr), (a1, .inr (1, [.ref a1_secret, .ref a1_key, .ref a1_iv, .ref a1_hide, .int v_a1_phase])), (a1_key, .inr (4, [.ref a1_key_bytes, .int (nI v_a1_key_count)])), (a1_key_bytes, aB C.D 32 t_a1_key_bytes), (a2, aB C.D n2 t_a2)]
  exact v_ret g R dX5_makeTally_115 (by decide) (by decide) ⟨fa, xa, ya, zd0, zd1, zd2, zd3, zd4, y0, y1, y2, y3, y4, uc0, uc1, uc2, uc3, uc4, sa, bd, _, rr, rfl, rfl, (fun j hj => (hr1 j hj).trans (tag_fin ha hR hS hA3 j))⟩
set_option maxHeartbeats 4000000 in
set_option maxRecDepth 100000 in
theorem c_SL_stands (l : Launch) (D : va_G) (a0 : Nat) (a1 : Nat) (p2 : Nat) (a0_keyStream : Nat) (a0_tallier : Nat) (a0_nonce : Nat) (a0_sizes : Nat) (a0_madeTally : Nat) (t_a0_madeTally : Nat → By) (n1 : Nat) (t_a1 : Nat → By)  (h1 : p2 + 16 ≤ n1) (hn : n1 < 2 ^ 31) : vM l D yX5_tallyStandsAt cX5_tallyStandsAt 5 (some .boolean) { frames := 0, cells := 0, slots := 0, locals := 0 } [.ref a0, .ref a1, .int (nI p2)] [(a0, .inr (5, [.ref a0_keyStream, .ref a0_tallier, .ref a0_nonce, .ref a0_sizes, .ref a0_madeTally])), (a0_madeTally, aB D 16 t_a0_madeTally), (a1, aB D n1 t_a1)] (fun r wo => ∃ (rr : Nat), r = some (.int (nI rr)) ∧ wo = [(a0, .inr (5, [.ref a0_keyStream, .ref a0_tallier, .ref a0_nonce, .ref a0_sizes, .ref a0_madeTally])), (a0_madeTally, aB D 16 t_a0_madeTally), (a1, aB D n1 t_a1)] ∧ (rr = 1 ∧ (∀ j, j < 16 → t_a1 (p2 + j) = t_a0_madeTally j) ∨ rr = 0 ∧ ¬ (∀ j, j < 16 → t_a1 (p2 + j) = t_a0_madeTally j))) := by
  refine vM.of (by decide) (Nat.le_of_ble_eq_true rfl) (fun C hCl hCD g R => ?_)
  subst hCl; subst hCD
  show VJ C 0 0 0 [(0, .ref a0), (1, .ref a1), (2, .int (nI p2))] [] [(a0, .inr (5, [.ref a0_keyStream, .ref a0_tallier, .ref a0_nonce, .ref a0_sizes, .ref a0_madeTally])), (a0_madeTally, aB C.D 16 t_a0_madeTally), (a1, aB C.D n1 t_a1)]
  refine v_iconst g dX5_tallyStandsAt_0 (v := nI 0) (by decide +kernel) ?_
  refine v_toi (wI 0#32) (rfl) ?_
  refine v_istore_n g [(3, .int (wI 0#32)), (0, .ref a0), (1, .ref a1), (2, .int (nI p2))] dX5_tallyStandsAt_1 3 rfl (by decide) rfl ?_
  refine v_iconst g dX5_tallyStandsAt_2 (v := nI 0) (by decide +kernel) ?_
  refine v_istore g [(4, .int (nI 0)), (3, .int (wI 0#32)), (0, .ref a0), (1, .ref a1), (2, .int (nI p2))] dX5_tallyStandsAt_3 (by decide) rfl ?_
  have L5_0 : ∀ i : Nat, i ≤ 16 → ∀ (wr : Wd), (wr = 0#32 ↔ ∀ j, j < i → t_a1 (p2 + j) = t_a0_madeTally j) → VJ C 0 0 5 [(4, .int (nI i)), (3, .int (wI wr)), (0, .ref a0), (1, .ref a1), (2, .int (nI p2))] [] [(a0, .inr (5, [.ref a0_keyStream, .ref a0_tallier, .ref a0_nonce, .ref a0_sizes, .ref a0_madeTally])), (a0_madeTally, aB C.D 16 t_a0_madeTally), (a1, aB C.D n1 t_a1)] := by
    refine v_for (16) ?_ ?_
    · skip
      intro i hii ih wr hv0
      refine v_iload g dX5_tallyStandsAt_5 0 rfl ?_
      refine v_bipush g dX5_tallyStandsAt_7 (v := nI 16) (by decide +kernel) ?_
      refine v_icmp_geN g 35 dX5_tallyStandsAt_9 (by decide) (by omega) (by omega) (fun h1 => ?_) (fun h1 => ?_)
      · skip
        exact absurd h1 (by omega)
      · skip
        refine v_iload_n g dX5_tallyStandsAt_12 3 rfl 1 rfl ?_
        refine v_aload_n g dX5_tallyStandsAt_13 1 rfl 3 rfl ?_
        refine v_iload_n g dX5_tallyStandsAt_14 2 rfl 4 rfl ?_
        refine v_iload g dX5_tallyStandsAt_15 0 rfl ?_
        refine v_iaddN g dX5_tallyStandsAt_17 ?_
        refine v_baldB g 2 rfl (by omega) (by omega) dX5_tallyStandsAt_18 ?_
        refine v_aload_n g dX5_tallyStandsAt_19 0 rfl 2 rfl ?_
        refine gf_X5_18 g dX5_tallyStandsAt_20 0 rfl rfl ?_
        refine v_iload g dX5_tallyStandsAt_23 0 rfl ?_
        refine v_baldB g 1 rfl (by omega) (by decide) dX5_tallyStandsAt_25 ?_
        refine v_ixorW g ((t_a1 (p2 + i)).signExtend 32) ((t_a0_madeTally i).signExtend 32) (bI_w (t_a1 (p2 + i))) (bI_w (t_a0_madeTally i)) dX5_tallyStandsAt_26 ?_
        refine v_iorW g (wr) (((t_a1 (p2 + i)).signExtend 32) ^^^ ((t_a0_madeTally i).signExtend 32)) rfl rfl dX5_tallyStandsAt_27 ?_
        refine v_istore_n g [(3, .int (wI (wr ||| (((t_a1 (p2 + i)).signExtend 32) ^^^ ((t_a0_madeTally i).signExtend 32))))), (4, .int (nI i)), (0, .ref a0), (1, .ref a1), (2, .int (nI p2))] dX5_tallyStandsAt_28 3 rfl (by decide) rfl ?_
        refine v_iincN g 1 [(4, .int (nI (i + 1))), (3, .int (wI (wr ||| (((t_a1 (p2 + i)).signExtend 32) ^^^ ((t_a0_madeTally i).signExtend 32))))), (0, .ref a0), (1, .ref a1), (2, .int (nI p2))] dX5_tallyStandsAt_29 1 rfl (by decide +kernel) (by decide) rfl ?_
        refine v_goto g 5 dX5_tallyStandsAt_32 (by decide) ?_
        exact ih (wr ||| (((t_a1 (p2 + i)).signExtend 32) ^^^ ((t_a0_madeTally i).signExtend 32))) (st_s hv0)
    · skip
      intro wr hv0
      refine v_iload g dX5_tallyStandsAt_5 0 rfl ?_
      refine v_bipush g dX5_tallyStandsAt_7 (v := nI 16) (by decide +kernel) ?_
      refine v_icmp_geN g 35 dX5_tallyStandsAt_9 (by decide) (by omega) (by omega) (fun h2 => ?_) (fun h2 => ?_)
      · skip
        refine v_iload_n g dX5_tallyStandsAt_35 3 rfl 1 rfl ?_
        refine v_if_ne g 43 dX5_tallyStandsAt_36 (by decide) (fun h3 => ?_) (fun h3 => ?_)
        · skip
          refine v_iconst g dX5_tallyStandsAt_43 (v := nI 0) (by decide +kernel) ?_
          exact v_zret g R dX5_tallyStandsAt_44 rfl (by decide) (by decide) ⟨0, rfl, rfl, (Or.inr ⟨rfl, fun q => h3 (congrArg wI (hv0.mpr q))⟩)⟩
        · skip
          refine v_iconst g dX5_tallyStandsAt_39 (v := nI 1) (by decide +kernel) ?_
          refine v_goto g 44 dX5_tallyStandsAt_40 (by decide) ?_
          exact v_zret g R dX5_tallyStandsAt_44 rfl (by decide) (by decide) ⟨1, rfl, rfl, (Or.inl ⟨rfl, hv0.mp (wI_z h3)⟩)⟩
      · skip
        exact absurd h2 (by omega)
  exact L5_0 0 (by omega) 0#32 (⟨fun _ j hj => absurd hj (by omega), fun _ => rfl⟩)
