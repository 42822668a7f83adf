/-! the reference's own methods -/
def cpo (t : Nat → By) (o n : Nat) (S : Nat → By) : Nat → By := fun j => if o ≤ j ∧ j < o + n then S (j - o) else t j
theorem cpo_0 (t : Nat → By) (o : Nat) (S : Nat → By) : cpo t o 0 S = t := by
  funext j
  unfold cpo
  rw [if_neg (by omega)]
theorem cpo_s (t : Nat → By) (o i : Nat) (S : Nat → By) : va_up (cpo t o i S) (o + i) (S i) = cpo t o (i + 1) S := by
  funext j
  unfold va_up cpo
  by_cases h : j = o + i
  · rw [if_pos h, if_pos (by omega), show j - o = i by omega]
  · rw [if_neg h]
    by_cases h2 : o ≤ j ∧ j < o + i
    · rw [if_pos h2, if_pos (by omega)]
    · rw [if_neg h2, if_neg (by omega)]
theorem cpo_i {t : Nat → By} {o n : Nat} {S : Nat → By} {j : Nat} (h : j < n) : cpo t o n S (o + j) = S j := by
  unfold cpo
  rw [if_pos (by omega), show o + j - o = j by omega]
theorem cpo_z {t : Nat → By} {n : Nat} {S : Nat → By} {j : Nat} (h : j < n) : cpo t 0 n S j = S j := by
  unfold cpo
  rw [if_pos (by omega), Nat.sub_zero]
theorem cpo_o {t : Nat → By} {o n : Nat} {S : Nat → By} {j : Nat} (h : j < o ∨ o + n ≤ j) : cpo t o n S j = t j := by
  unfold cpo
  rw [if_neg (by omega)]
theorem sb8 (x : BitVec 64) {s : Nat} (hs : s ≤ 56) : wI (((x.sshiftRight s) &&& 255#64).setWidth 32) = nI ((x >>> s).setWidth 8).toNat := by
  have e : ((x.sshiftRight s) &&& 255#64).setWidth 32 = ((x >>> s).setWidth 8).setWidth 32 := by
    ext i hi
    simp only [BitVec.getElem_setWidth, BitVec.getLsbD_and, BitVec.getLsbD_setWidth]
    by_cases h : i < 8
    · have h1 : (255#64).getLsbD i = true := by
        have : ∀ k : Fin 8, (255#64).getLsbD k.val = true := by decide
        exact this ⟨i, h⟩
      rw [h1, BitVec.getLsbD_sshiftRight, BitVec.getLsbD_ushiftRight]
      simp [show ¬ 64 ≤ i by omega, show s + i < 64 by omega, h]
    · have h1 : (255#64).getLsbD i = false := by
        have : ∀ k : Fin 32, 8 ≤ k.val → (255#64).getLsbD k.val = false := by decide
        exact this ⟨i, by omega⟩ (by simpa using h)
      rw [h1]
      simp [h]
  rw [e]
  exact b_255 _
theorem dX8_beyond_0 : decode cX8_beyond 0 = .ok (.iload_n 0, 1) := by decide +kernel
theorem dX8_beyond_1 : decode cX8_beyond 1 = .ok (.ifCond .lt 8, 3) := by decide +kernel
theorem dX8_beyond_4 : decode cX8_beyond 4 = .ok (.iload_n 0, 1) := by decide +kernel
theorem dX8_beyond_5 : decode cX8_beyond 5 = .ok (.iload_n 1, 1) := by decide +kernel
theorem dX8_beyond_6 : decode cX8_beyond 6 = .ok (.if_icmp .lt 7, 3) := by decide +kernel
theorem dX8_beyond_9 : decode cX8_beyond 9 = .ok (.iconst 1, 1) := by decide +kernel
theorem dX8_beyond_10 : decode cX8_beyond 10 = .ok (.goto 4, 3) := by decide +kernel
theorem dX8_beyond_13 : decode cX8_beyond 13 = .ok (.iconst 0, 1) := by decide +kernel
theorem dX8_beyond_14 : decode cX8_beyond 14 = .ok (.ireturn, 1) := by decide +kernel
theorem dX8_fails_0 : decode cX8_fails 0 = .ok (.aload_n 0, 1) := by decide +kernel
theorem dX8_fails_1 : decode cX8_fails 1 = .ok (.iload_n 1, 1) := by decide +kernel
theorem dX8_fails_2 : decode cX8_fails 2 = .ok (.ifCond .eq 7, 3) := by decide +kernel
theorem dX8_fails_5 : decode cX8_fails 5 = .ok (.iload_n 2, 1) := by decide +kernel
theorem dX8_fails_6 : decode cX8_fails 6 = .ok (.goto 4, 3) := by decide +kernel
theorem dX8_fails_9 : decode cX8_fails 9 = .ok (.iconst 0, 1) := by decide +kernel
theorem dX8_fails_10 : decode cX8_fails 10 = .ok (.putfield 115, 3) := by decide +kernel
theorem dX8_fails_13 : decode cX8_fails 13 = .ok (.iload_n 1, 1) := by decide +kernel
theorem dX8_fails_14 : decode cX8_fails 14 = .ok (.ireturn, 1) := by decide +kernel
theorem dX8_thrown_0 : decode cX8_thrown 0 = .ok (.aload_n 0, 1) := by decide +kernel
theorem dX8_thrown_1 : decode cX8_thrown 1 = .ok (.getfield 115, 3) := by decide +kernel
theorem dX8_thrown_4 : decode cX8_thrown 4 = .ok (.ireturn, 1) := by decide +kernel
theorem dX8_answer_0 : decode cX8_answer 0 = .ok (.iconst 0, 1) := by decide +kernel
theorem dX8_answer_1 : decode cX8_answer 1 = .ok (.istore_n 3, 1) := by decide +kernel
theorem dX8_answer_2 : decode cX8_answer 2 = .ok (.iload_n 3, 1) := by decide +kernel
theorem dX8_answer_3 : decode cX8_answer 3 = .ok (.iload_n 2, 1) := by decide +kernel
theorem dX8_answer_4 : decode cX8_answer 4 = .ok (.if_icmp .ge 18, 3) := by decide +kernel
theorem dX8_answer_7 : decode cX8_answer 7 = .ok (.aload_n 0, 1) := by decide +kernel
theorem dX8_answer_8 : decode cX8_answer 8 = .ok (.getfield 13, 3) := by decide +kernel
theorem dX8_answer_11 : decode cX8_answer 11 = .ok (.iload_n 3, 1) := by decide +kernel
theorem dX8_answer_12 : decode cX8_answer 12 = .ok (.aload_n 1, 1) := by decide +kernel
theorem dX8_answer_13 : decode cX8_answer 13 = .ok (.iload_n 3, 1) := by decide +kernel
theorem dX8_answer_14 : decode cX8_answer 14 = .ok (.iaload, 1) := by decide +kernel
theorem dX8_answer_15 : decode cX8_answer 15 = .ok (.iastore, 1) := by decide +kernel
theorem dX8_answer_16 : decode cX8_answer 16 = .ok (.iinc 3 1, 3) := by decide +kernel
theorem dX8_answer_19 : decode cX8_answer 19 = .ok (.goto (-17), 3) := by decide +kernel
theorem dX8_answer_22 : decode cX8_answer 22 = .ok (.aload_n 0, 1) := by decide +kernel
theorem dX8_answer_23 : decode cX8_answer 23 = .ok (.iload_n 2, 1) := by decide +kernel
theorem dX8_answer_24 : decode cX8_answer 24 = .ok (.putfield 218, 3) := by decide +kernel
theorem dX8_answer_27 : decode cX8_answer 27 = .ok (.aload_n 0, 1) := by decide +kernel
theorem dX8_answer_28 : decode cX8_answer 28 = .ok (.iconst 0, 1) := by decide +kernel
theorem dX8_answer_29 : decode cX8_answer 29 = .ok (.putfield 215, 3) := by decide +kernel
theorem dX8_answer_32 : decode cX8_answer 32 = .ok (.return_, 1) := by decide +kernel
theorem dX8_feed_0 : decode cX8_feed 0 = .ok (.aload_n 0, 1) := by decide +kernel
theorem dX8_feed_1 : decode cX8_feed 1 = .ok (.iload_n 1, 1) := by decide +kernel
theorem dX8_feed_2 : decode cX8_feed 2 = .ok (.iconst 1, 1) := by decide +kernel
theorem dX8_feed_3 : decode cX8_feed 3 = .ok (.if_icmp .lt 9, 3) := by decide +kernel
theorem dX8_feed_6 : decode cX8_feed 6 = .ok (.iload_n 1, 1) := by decide +kernel
theorem dX8_feed_7 : decode cX8_feed 7 = .ok (.bipush 8, 2) := by decide +kernel
theorem dX8_feed_9 : decode cX8_feed 9 = .ok (.if_icmp .le 7, 3) := by decide +kernel
theorem dX8_feed_12 : decode cX8_feed 12 = .ok (.iconst 1, 1) := by decide +kernel
theorem dX8_feed_13 : decode cX8_feed 13 = .ok (.goto 4, 3) := by decide +kernel
theorem dX8_feed_16 : decode cX8_feed 16 = .ok (.iconst 0, 1) := by decide +kernel
theorem dX8_feed_17 : decode cX8_feed 17 = .ok (.iconst 1, 1) := by decide +kernel
theorem dX8_feed_18 : decode cX8_feed 18 = .ok (.invokevirtual 211, 3) := by decide +kernel
theorem dX8_feed_21 : decode cX8_feed 21 = .ok (.ifCond .ne 28, 3) := by decide +kernel
theorem dX8_feed_24 : decode cX8_feed 24 = .ok (.aload_n 0, 1) := by decide +kernel
theorem dX8_feed_25 : decode cX8_feed 25 = .ok (.aload_n 0, 1) := by decide +kernel
theorem dX8_feed_26 : decode cX8_feed 26 = .ok (.getfield 215, 3) := by decide +kernel
theorem dX8_feed_29 : decode cX8_feed 29 = .ok (.iload_n 1, 1) := by decide +kernel
theorem dX8_feed_30 : decode cX8_feed 30 = .ok (.iadd, 1) := by decide +kernel
theorem dX8_feed_31 : decode cX8_feed 31 = .ok (.sipush 2048, 3) := by decide +kernel
theorem dX8_feed_34 : decode cX8_feed 34 = .ok (.if_icmp .le 7, 3) := by decide +kernel
theorem dX8_feed_37 : decode cX8_feed 37 = .ok (.iconst 1, 1) := by decide +kernel
theorem dX8_feed_38 : decode cX8_feed 38 = .ok (.goto 4, 3) := by decide +kernel
theorem dX8_feed_41 : decode cX8_feed 41 = .ok (.iconst 0, 1) := by decide +kernel
theorem dX8_feed_42 : decode cX8_feed 42 = .ok (.iconst 2, 1) := by decide +kernel
theorem dX8_feed_43 : decode cX8_feed 43 = .ok (.invokevirtual 211, 3) := by decide +kernel
theorem dX8_feed_46 : decode cX8_feed 46 = .ok (.ifCond .eq 5, 3) := by decide +kernel
theorem dX8_feed_49 : decode cX8_feed 49 = .ok (.iconst 0, 1) := by decide +kernel
theorem dX8_feed_50 : decode cX8_feed 50 = .ok (.ireturn, 1) := by decide +kernel
theorem dX8_feed_51 : decode cX8_feed 51 = .ok (.iconst 0, 1) := by decide +kernel
theorem dX8_feed_52 : decode cX8_feed 52 = .ok (.istore 4, 2) := by decide +kernel
theorem dX8_feed_54 : decode cX8_feed 54 = .ok (.iload 4, 2) := by decide +kernel
theorem dX8_feed_56 : decode cX8_feed 56 = .ok (.iload_n 1, 1) := by decide +kernel
theorem dX8_feed_57 : decode cX8_feed 57 = .ok (.if_icmp .ge 33, 3) := by decide +kernel
theorem dX8_feed_60 : decode cX8_feed 60 = .ok (.aload_n 0, 1) := by decide +kernel
theorem dX8_feed_61 : decode cX8_feed 61 = .ok (.getfield 7, 3) := by decide +kernel
theorem dX8_feed_64 : decode cX8_feed 64 = .ok (.aload_n 0, 1) := by decide +kernel
theorem dX8_feed_65 : decode cX8_feed 65 = .ok (.getfield 215, 3) := by decide +kernel
theorem dX8_feed_68 : decode cX8_feed 68 = .ok (.iload 4, 2) := by decide +kernel
theorem dX8_feed_70 : decode cX8_feed 70 = .ok (.iadd, 1) := by decide +kernel
theorem dX8_feed_71 : decode cX8_feed 71 = .ok (.lload_n 2, 1) := by decide +kernel
theorem dX8_feed_72 : decode cX8_feed 72 = .ok (.bipush 8, 2) := by decide +kernel
theorem dX8_feed_74 : decode cX8_feed 74 = .ok (.iload 4, 2) := by decide +kernel
theorem dX8_feed_76 : decode cX8_feed 76 = .ok (.imul, 1) := by decide +kernel
theorem dX8_feed_77 : decode cX8_feed 77 = .ok (.lshr, 1) := by decide +kernel
theorem dX8_feed_78 : decode cX8_feed 78 = .ok (.ldc2_w 134, 3) := by decide +kernel
theorem dX8_feed_81 : decode cX8_feed 81 = .ok (.land, 1) := by decide +kernel
theorem dX8_feed_82 : decode cX8_feed 82 = .ok (.l2i, 1) := by decide +kernel
theorem dX8_feed_83 : decode cX8_feed 83 = .ok (.iastore, 1) := by decide +kernel
theorem dX8_feed_84 : decode cX8_feed 84 = .ok (.iinc 4 1, 3) := by decide +kernel
theorem dX8_feed_87 : decode cX8_feed 87 = .ok (.goto (-33), 3) := by decide +kernel
theorem dX8_feed_90 : decode cX8_feed 90 = .ok (.aload_n 0, 1) := by decide +kernel
theorem dX8_feed_91 : decode cX8_feed 91 = .ok (.dup, 1) := by decide +kernel
theorem dX8_feed_92 : decode cX8_feed 92 = .ok (.getfield 215, 3) := by decide +kernel
theorem dX8_feed_95 : decode cX8_feed 95 = .ok (.iload_n 1, 1) := by decide +kernel
theorem dX8_feed_96 : decode cX8_feed 96 = .ok (.iadd, 1) := by decide +kernel
theorem dX8_feed_97 : decode cX8_feed 97 = .ok (.putfield 215, 3) := by decide +kernel
theorem dX8_feed_100 : decode cX8_feed 100 = .ok (.aload_n 0, 1) := by decide +kernel
theorem dX8_feed_101 : decode cX8_feed 101 = .ok (.getfield 215, 3) := by decide +kernel
theorem dX8_feed_104 : decode cX8_feed 104 = .ok (.ireturn, 1) := by decide +kernel
theorem dX8_wipe_0 : decode cX8_wipe 0 = .ok (.aload_n 0, 1) := by decide +kernel
theorem dX8_wipe_1 : decode cX8_wipe 1 = .ok (.iconst 0, 1) := by decide +kernel
theorem dX8_wipe_2 : decode cX8_wipe 2 = .ok (.putfield 115, 3) := by decide +kernel
theorem dX8_wipe_5 : decode cX8_wipe 5 = .ok (.aload_n 0, 1) := by decide +kernel
theorem dX8_wipe_6 : decode cX8_wipe 6 = .ok (.getfield 215, 3) := by decide +kernel
theorem dX8_wipe_9 : decode cX8_wipe 9 = .ok (.istore_n 1, 1) := by decide +kernel
theorem dX8_wipe_10 : decode cX8_wipe 10 = .ok (.aload_n 0, 1) := by decide +kernel
theorem dX8_wipe_11 : decode cX8_wipe 11 = .ok (.iconst 0, 1) := by decide +kernel
theorem dX8_wipe_12 : decode cX8_wipe 12 = .ok (.putfield 215, 3) := by decide +kernel
theorem dX8_wipe_15 : decode cX8_wipe 15 = .ok (.iload_n 1, 1) := by decide +kernel
theorem dX8_wipe_16 : decode cX8_wipe 16 = .ok (.ireturn, 1) := by decide +kernel
theorem dX8_keep_0 : decode cX8_keep 0 = .ok (.iload_n 2, 1) := by decide +kernel
theorem dX8_keep_1 : decode cX8_keep 1 = .ok (.ifCond .eq 10, 3) := by decide +kernel
theorem dX8_keep_4 : decode cX8_keep 4 = .ok (.aload_n 0, 1) := by decide +kernel
theorem dX8_keep_5 : decode cX8_keep 5 = .ok (.getfield 218, 3) := by decide +kernel
theorem dX8_keep_8 : decode cX8_keep 8 = .ok (.goto 7, 3) := by decide +kernel
theorem dX8_keep_11 : decode cX8_keep 11 = .ok (.aload_n 0, 1) := by decide +kernel
theorem dX8_keep_12 : decode cX8_keep 12 = .ok (.getfield 215, 3) := by decide +kernel
theorem dX8_keep_15 : decode cX8_keep 15 = .ok (.istore_n 3, 1) := by decide +kernel
theorem dX8_keep_16 : decode cX8_keep 16 = .ok (.aload_n 0, 1) := by decide +kernel
theorem dX8_keep_17 : decode cX8_keep 17 = .ok (.iload_n 1, 1) := by decide +kernel
theorem dX8_keep_18 : decode cX8_keep 18 = .ok (.bipush 8, 2) := by decide +kernel
theorem dX8_keep_20 : decode cX8_keep 20 = .ok (.invokestatic 221, 3) := by decide +kernel
theorem dX8_keep_23 : decode cX8_keep 23 = .ok (.iconst 1, 1) := by decide +kernel
theorem dX8_keep_24 : decode cX8_keep 24 = .ok (.invokevirtual 211, 3) := by decide +kernel
theorem dX8_keep_27 : decode cX8_keep 27 = .ok (.ifCond .ne 23, 3) := by decide +kernel
theorem dX8_keep_30 : decode cX8_keep 30 = .ok (.aload_n 0, 1) := by decide +kernel
theorem dX8_keep_31 : decode cX8_keep 31 = .ok (.iload_n 3, 1) := by decide +kernel
theorem dX8_keep_32 : decode cX8_keep 32 = .ok (.sipush 128, 3) := by decide +kernel
theorem dX8_keep_35 : decode cX8_keep 35 = .ok (.if_icmp .le 7, 3) := by decide +kernel
theorem dX8_keep_38 : decode cX8_keep 38 = .ok (.iconst 1, 1) := by decide +kernel
theorem dX8_keep_39 : decode cX8_keep 39 = .ok (.goto 4, 3) := by decide +kernel
theorem dX8_keep_42 : decode cX8_keep 42 = .ok (.iconst 0, 1) := by decide +kernel
theorem dX8_keep_43 : decode cX8_keep 43 = .ok (.iconst 2, 1) := by decide +kernel
theorem dX8_keep_44 : decode cX8_keep 44 = .ok (.invokevirtual 211, 3) := by decide +kernel
theorem dX8_keep_47 : decode cX8_keep 47 = .ok (.ifCond .eq 5, 3) := by decide +kernel
theorem dX8_keep_50 : decode cX8_keep 50 = .ok (.iconst 0, 1) := by decide +kernel
theorem dX8_keep_51 : decode cX8_keep 51 = .ok (.ireturn, 1) := by decide +kernel
theorem dX8_keep_52 : decode cX8_keep 52 = .ok (.iconst 0, 1) := by decide +kernel
theorem dX8_keep_53 : decode cX8_keep 53 = .ok (.istore 4, 2) := by decide +kernel
theorem dX8_keep_55 : decode cX8_keep 55 = .ok (.iload 4, 2) := by decide +kernel
theorem dX8_keep_57 : decode cX8_keep 57 = .ok (.iload_n 3, 1) := by decide +kernel
theorem dX8_keep_58 : decode cX8_keep 58 = .ok (.if_icmp .ge 43, 3) := by decide +kernel
theorem dX8_keep_61 : decode cX8_keep 61 = .ok (.aload_n 0, 1) := by decide +kernel
theorem dX8_keep_62 : decode cX8_keep 62 = .ok (.getfield 16, 3) := by decide +kernel
theorem dX8_keep_65 : decode cX8_keep 65 = .ok (.sipush 128, 3) := by decide +kernel
theorem dX8_keep_68 : decode cX8_keep 68 = .ok (.iload_n 1, 1) := by decide +kernel
theorem dX8_keep_69 : decode cX8_keep 69 = .ok (.imul, 1) := by decide +kernel
theorem dX8_keep_70 : decode cX8_keep 70 = .ok (.iload 4, 2) := by decide +kernel
theorem dX8_keep_72 : decode cX8_keep 72 = .ok (.iadd, 1) := by decide +kernel
theorem dX8_keep_73 : decode cX8_keep 73 = .ok (.iload_n 2, 1) := by decide +kernel
theorem dX8_keep_74 : decode cX8_keep 74 = .ok (.ifCond .eq 13, 3) := by decide +kernel
theorem dX8_keep_77 : decode cX8_keep 77 = .ok (.aload_n 0, 1) := by decide +kernel
theorem dX8_keep_78 : decode cX8_keep 78 = .ok (.getfield 13, 3) := by decide +kernel
theorem dX8_keep_81 : decode cX8_keep 81 = .ok (.iload 4, 2) := by decide +kernel
theorem dX8_keep_83 : decode cX8_keep 83 = .ok (.iaload, 1) := by decide +kernel
theorem dX8_keep_84 : decode cX8_keep 84 = .ok (.goto 10, 3) := by decide +kernel
theorem dX8_keep_87 : decode cX8_keep 87 = .ok (.aload_n 0, 1) := by decide +kernel
theorem dX8_keep_88 : decode cX8_keep 88 = .ok (.getfield 7, 3) := by decide +kernel
theorem dX8_keep_91 : decode cX8_keep 91 = .ok (.iload 4, 2) := by decide +kernel
theorem dX8_keep_93 : decode cX8_keep 93 = .ok (.iaload, 1) := by decide +kernel
theorem dX8_keep_94 : decode cX8_keep 94 = .ok (.iastore, 1) := by decide +kernel
theorem dX8_keep_95 : decode cX8_keep 95 = .ok (.iinc 4 1, 3) := by decide +kernel
theorem dX8_keep_98 : decode cX8_keep 98 = .ok (.goto (-43), 3) := by decide +kernel
theorem dX8_keep_101 : decode cX8_keep 101 = .ok (.aload_n 0, 1) := by decide +kernel
theorem dX8_keep_102 : decode cX8_keep 102 = .ok (.getfield 19, 3) := by decide +kernel
theorem dX8_keep_105 : decode cX8_keep 105 = .ok (.iload_n 1, 1) := by decide +kernel
theorem dX8_keep_106 : decode cX8_keep 106 = .ok (.iload_n 3, 1) := by decide +kernel
theorem dX8_keep_107 : decode cX8_keep 107 = .ok (.iastore, 1) := by decide +kernel
theorem dX8_keep_108 : decode cX8_keep 108 = .ok (.iload_n 2, 1) := by decide +kernel
theorem dX8_keep_109 : decode cX8_keep 109 = .ok (.ifCond .ne 8, 3) := by decide +kernel
theorem dX8_keep_112 : decode cX8_keep 112 = .ok (.aload_n 0, 1) := by decide +kernel
theorem dX8_keep_113 : decode cX8_keep 113 = .ok (.iconst 0, 1) := by decide +kernel
theorem dX8_keep_114 : decode cX8_keep 114 = .ok (.putfield 215, 3) := by decide +kernel
theorem dX8_keep_117 : decode cX8_keep 117 = .ok (.iload_n 3, 1) := by decide +kernel
theorem dX8_keep_118 : decode cX8_keep 118 = .ok (.ireturn, 1) := by decide +kernel
set_option maxHeartbeats 4000000 in
set_option maxRecDepth 100000 in
theorem c_R_bey0 (l : Launch) (D : va_G) (p0 : Nat) (p1 : Nat)  (h0 : p0 < p1) (h1 : p1 < 2 ^ 31) : vM l D yX8_beyond cX8_beyond 2 (some .boolean) { frames := 0, cells := 0, slots := 0, locals := 0 } [.int (nI p0), .int (nI p1)] [] (fun r wo => r = some (.int (nI 0)) ∧ wo = []) := by
  refine vM.of (by decide) (Nat.le_of_ble_eq_true rfl) (fun C hCl hCD g R => ?_)
  subst hCl; subst hCD
  show VJ C 0 0 0 [(0, .int (nI p0)), (1, .int (nI p1))] [] []
  refine v_iload_n g dX8_beyond_0 0 rfl 0 rfl ?_
  refine v_if_ltN g 9 dX8_beyond_1 (by decide) (by omega) (fun h => h.elim) (fun _ => ?_)
  refine v_iload_n g dX8_beyond_4 0 rfl 0 rfl ?_
  refine v_iload_n g dX8_beyond_5 1 rfl 1 rfl ?_
  refine v_icmp_ltN g 13 dX8_beyond_6 (by decide) (by omega) (by omega) (fun _ => ?_) (fun h => absurd h (by omega))
  refine v_iconst g dX8_beyond_13 (v := nI 0) (by decide +kernel) ?_
  exact v_zret g R dX8_beyond_14 (by decide +kernel) (by decide) (by decide) ⟨rfl, rfl⟩
set_option maxHeartbeats 4000000 in
set_option maxRecDepth 100000 in
theorem c_R_bey1 (l : Launch) (D : va_G) (p0 : Int32) (p1 : Nat)  (h0 : p0 < 0 ∨ nI p1 ≤ p0) : vM l D yX8_beyond cX8_beyond 2 (some .boolean) { frames := 0, cells := 0, slots := 0, locals := 0 } [.int p0, .int (nI p1)] [] (fun r wo => r = some (.int (nI 1)) ∧ wo = []) := by
  refine vM.of (by decide) (Nat.le_of_ble_eq_true rfl) (fun C hCl hCD g R => ?_)
  subst hCl; subst hCD
  show VJ C 0 0 0 [(0, .int p0), (1, .int (nI p1))] [] []
  refine v_iload_n g dX8_beyond_0 0 rfl 0 rfl ?_
  refine v_if_lt g 9 dX8_beyond_1 (by decide) (fun h1 => ?_) (fun h1 => ?_)
  · skip
    refine v_iconst g dX8_beyond_9 (v := nI 1) (by decide +kernel) ?_
    refine v_goto g 14 dX8_beyond_10 (by decide) ?_
    exact v_zret g R dX8_beyond_14 (by decide +kernel) (by decide) (by decide) ⟨rfl, rfl⟩
  · skip
    refine v_iload_n g dX8_beyond_4 0 rfl 0 rfl ?_
    refine v_iload_n g dX8_beyond_5 1 rfl 1 rfl ?_
    refine v_icmp_lt g 13 dX8_beyond_6 (by decide) (fun h2 => ?_) (fun h2 => ?_)
    · skip
      exact absurd h2 (h0.elim (fun q => absurd q h1) i_le_nlt)
    · skip
      refine v_iconst g dX8_beyond_9 (v := nI 1) (by decide +kernel) ?_
      refine v_goto g 14 dX8_beyond_10 (by decide) ?_
      exact v_zret g R dX8_beyond_14 (by decide +kernel) (by decide) (by decide) ⟨rfl, rfl⟩
set_option maxHeartbeats 4000000 in
set_option maxRecDepth 100000 in
theorem c_R_fail0 (l : Launch) (D : va_G) (a0 : Nat) (p2 : Nat) (v_a0_thrown : Nat) (a0_tape : Nat) (v_a0_taped : Nat) (a0_out : Nat) (v_a0_outs : Nat) (a0_slots : Nat) (a0_kept : Nat) (a0_phase : Nat) (a0_secret : Nat) (a0_key : Nat) (a0_hide : Nat) (a0_iv : Nat) (a0_begin : Nat) (a0_each : Nat) (a0_root : Nat) (a0_power : Nat) (a0_work : Nat) (a0_w : Nat) (a0_h : Nat) (a0_state : Nat) (a0_sum : Nat) (a0_pad : Nat) (a0_text : Nat) (v_a0_texts : Nat) (a0_info : Nat) (v_a0_infos : Nat) (a0_made : Nat) (a0_blockKey : Nat) (a0_nonce : Nat) (a0_x : Nat) (a0_first : Nat) (a0_block : Nat) (a0_a : Nat) (a0_r : Nat) (a0_product : Nat) (a0_tag : Nat) (a0_sealed : Nat)   : vM l D yX8_fails cX8_fails 3 (some .boolean) { frames := 0, cells := 0, slots := 0, locals := 0 } [.ref a0, .int (nI 0), .int (nI p2)] [(a0, .inr (8, [.int (nI v_a0_thrown), .ref a0_tape, .int (nI v_a0_taped), .ref a0_out, .int (nI v_a0_outs), .ref a0_slots, .ref a0_kept, .ref a0_phase, .ref a0_secret, .ref a0_key, .ref a0_hide, .ref a0_iv, .ref a0_begin, .ref a0_each, .ref a0_root, .ref a0_power, .ref a0_work, .ref a0_w, .ref a0_h, .ref a0_state, .ref a0_sum, .ref a0_pad, .ref a0_text, .int (nI v_a0_texts), .ref a0_info, .int (nI v_a0_infos), .ref a0_made, .ref a0_blockKey, .ref a0_nonce, .ref a0_x, .ref a0_first, .ref a0_block, .ref a0_a, .ref a0_r, .ref a0_product, .ref a0_tag, .ref a0_sealed]))] (fun r wo => r = some (.int (nI 0)) ∧ wo = [(a0, .inr (8, [.int (nI 0), .ref a0_tape, .int (nI v_a0_taped), .ref a0_out, .int (nI v_a0_outs), .ref a0_slots, .ref a0_kept, .ref a0_phase, .ref a0_secret, .ref a0_key, .ref a0_hide, .ref a0_iv, .ref a0_begin, .ref a0_each, .ref a0_root, .ref a0_power, .ref a0_work, .ref a0_w, .ref a0_h, .ref a0_state, .ref a0_sum, .ref a0_pad, .ref a0_text, .int (nI v_a0_texts), .ref a0_info, .int (nI v_a0_infos), .ref a0_made, .ref a0_blockKey, .ref a0_nonce, .ref a0_x, .ref a0_first, .ref a0_block, .ref a0_a, .ref a0_r, .ref a0_product, .ref a0_tag, .ref a0_sealed]))]) := by
  refine vM.of (by decide) (Nat.le_of_ble_eq_true rfl) (fun C hCl hCD g R => ?_)
  subst hCl; subst hCD
  show VJ C 0 0 0 [(0, .ref a0), (1, .int (nI 0)), (2, .int (nI p2))] [] [(a0, .inr (8, [.int (nI v_a0_thrown), .ref a0_tape, .int (nI v_a0_taped), .ref a0_out, .int (nI v_a0_outs), .ref a0_slots, .ref a0_kept, .ref a0_phase, .ref a0_secret, .ref a0_key, .ref a0_hide, .ref a0_iv, .ref a0_begin, .ref a0_each, .ref a0_root, .ref a0_power, .ref a0_work, .ref a0_w, .ref a0_h, .ref a0_state, .ref a0_sum, .ref a0_pad, .ref a0_text, .int (nI v_a0_texts), .ref a0_info, .int (nI v_a0_infos), .ref a0_made, .ref a0_blockKey, .ref a0_nonce, .ref a0_x, .ref a0_first, .ref a0_block, .ref a0_a, .ref a0_r, .ref a0_product, .ref a0_tag, .ref a0_sealed]))]
  refine v_aload_n g dX8_fails_0 0 rfl 0 rfl ?_
  refine v_iload_n g dX8_fails_1 1 rfl 1 rfl ?_
  refine v_if_eqN g 9 dX8_fails_2 (by decide) (by decide) (fun _ => ?_) (fun h => absurd h (by decide))
  refine v_iconst g dX8_fails_9 (v := nI 0) (by decide +kernel) ?_
  refine pf_X8_115 g dX8_fails_10 0 [(a0, .inr (8, [.int (nI 0), .ref a0_tape, .int (nI v_a0_taped), .ref a0_out, .int (nI v_a0_outs), .ref a0_slots, .ref a0_kept, .ref a0_phase, .ref a0_secret, .ref a0_key, .ref a0_hide, .ref a0_iv, .ref a0_begin, .ref a0_each, .ref a0_root, .ref a0_power, .ref a0_work, .ref a0_w, .ref a0_h, .ref a0_state, .ref a0_sum, .ref a0_pad, .ref a0_text, .int (nI v_a0_texts), .ref a0_info, .int (nI v_a0_infos), .ref a0_made, .ref a0_blockKey, .ref a0_nonce, .ref a0_x, .ref a0_first, .ref a0_block, .ref a0_a, .ref a0_r, .ref a0_product, .ref a0_tag, .ref a0_sealed]))] rfl (Nat.le_of_ble_eq_true rfl) rfl ?_
  refine v_iload_n g dX8_fails_13 1 rfl 1 rfl ?_
  exact v_zret g R dX8_fails_14 (by decide +kernel) (by decide) (by decide) ⟨rfl, rfl⟩
set_option maxHeartbeats 4000000 in
set_option maxRecDepth 100000 in
theorem c_R_fail1 (l : Launch) (D : va_G) (a0 : Nat) (p2 : Nat) (v_a0_thrown : Nat) (a0_tape : Nat) (v_a0_taped : Nat) (a0_out : Nat) (v_a0_outs : Nat) (a0_slots : Nat) (a0_kept : Nat) (a0_phase : Nat) (a0_secret : Nat) (a0_key : Nat) (a0_hide : Nat) (a0_iv : Nat) (a0_begin : Nat) (a0_each : Nat) (a0_root : Nat) (a0_power : Nat) (a0_work : Nat) (a0_w : Nat) (a0_h : Nat) (a0_state : Nat) (a0_sum : Nat) (a0_pad : Nat) (a0_text : Nat) (v_a0_texts : Nat) (a0_info : Nat) (v_a0_infos : Nat) (a0_made : Nat) (a0_blockKey : Nat) (a0_nonce : Nat) (a0_x : Nat) (a0_first : Nat) (a0_block : Nat) (a0_a : Nat) (a0_r : Nat) (a0_product : Nat) (a0_tag : Nat) (a0_sealed : Nat)   : vM l D yX8_fails cX8_fails 3 (some .boolean) { frames := 0, cells := 0, slots := 0, locals := 0 } [.ref a0, .int (nI 1), .int (nI p2)] [(a0, .inr (8, [.int (nI v_a0_thrown), .ref a0_tape, .int (nI v_a0_taped), .ref a0_out, .int (nI v_a0_outs), .ref a0_slots, .ref a0_kept, .ref a0_phase, .ref a0_secret, .ref a0_key, .ref a0_hide, .ref a0_iv, .ref a0_begin, .ref a0_each, .ref a0_root, .ref a0_power, .ref a0_work, .ref a0_w, .ref a0_h, .ref a0_state, .ref a0_sum, .ref a0_pad, .ref a0_text, .int (nI v_a0_texts), .ref a0_info, .int (nI v_a0_infos), .ref a0_made, .ref a0_blockKey, .ref a0_nonce, .ref a0_x, .ref a0_first, .ref a0_block, .ref a0_a, .ref a0_r, .ref a0_product, .ref a0_tag, .ref a0_sealed]))] (fun r wo => r = some (.int (nI 1)) ∧ wo = [(a0, .inr (8, [.int (nI p2), .ref a0_tape, .int (nI v_a0_taped), .ref a0_out, .int (nI v_a0_outs), .ref a0_slots, .ref a0_kept, .ref a0_phase, .ref a0_secret, .ref a0_key, .ref a0_hide, .ref a0_iv, .ref a0_begin, .ref a0_each, .ref a0_root, .ref a0_power, .ref a0_work, .ref a0_w, .ref a0_h, .ref a0_state, .ref a0_sum, .ref a0_pad, .ref a0_text, .int (nI v_a0_texts), .ref a0_info, .int (nI v_a0_infos), .ref a0_made, .ref a0_blockKey, .ref a0_nonce, .ref a0_x, .ref a0_first, .ref a0_block, .ref a0_a, .ref a0_r, .ref a0_product, .ref a0_tag, .ref a0_sealed]))]) := by
  refine vM.of (by decide) (Nat.le_of_ble_eq_true rfl) (fun C hCl hCD g R => ?_)
  subst hCl; subst hCD
  show VJ C 0 0 0 [(0, .ref a0), (1, .int (nI 1)), (2, .int (nI p2))] [] [(a0, .inr (8, [.int (nI v_a0_thrown), .ref a0_tape, .int (nI v_a0_taped), .ref a0_out, .int (nI v_a0_outs), .ref a0_slots, .ref a0_kept, .ref a0_phase, .ref a0_secret, .ref a0_key, .ref a0_hide, .ref a0_iv, .ref a0_begin, .ref a0_each, .ref a0_root, .ref a0_power, .ref a0_work, .ref a0_w, .ref a0_h, .ref a0_state, .ref a0_sum, .ref a0_pad, .ref a0_text, .int (nI v_a0_texts), .ref a0_info, .int (nI v_a0_infos), .ref a0_made, .ref a0_blockKey, .ref a0_nonce, .ref a0_x, .ref a0_first, .ref a0_block, .ref a0_a, .ref a0_r, .ref a0_product, .ref a0_tag, .ref a0_sealed]))]
  refine v_aload_n g dX8_fails_0 0 rfl 0 rfl ?_
  refine v_iload_n g dX8_fails_1 1 rfl 1 rfl ?_
  refine v_if_eqN g 9 dX8_fails_2 (by decide) (by decide) (fun h => absurd h (by decide)) (fun _ => ?_)
  refine v_iload_n g dX8_fails_5 2 rfl 2 rfl ?_
  refine v_goto g 10 dX8_fails_6 (by decide) ?_
  refine pf_X8_115 g dX8_fails_10 0 [(a0, .inr (8, [.int (nI p2), .ref a0_tape, .int (nI v_a0_taped), .ref a0_out, .int (nI v_a0_outs), .ref a0_slots, .ref a0_kept, .ref a0_phase, .ref a0_secret, .ref a0_key, .ref a0_hide, .ref a0_iv, .ref a0_begin, .ref a0_each, .ref a0_root, .ref a0_power, .ref a0_work, .ref a0_w, .ref a0_h, .ref a0_state, .ref a0_sum, .ref a0_pad, .ref a0_text, .int (nI v_a0_texts), .ref a0_info, .int (nI v_a0_infos), .ref a0_made, .ref a0_blockKey, .ref a0_nonce, .ref a0_x, .ref a0_first, .ref a0_block, .ref a0_a, .ref a0_r, .ref a0_product, .ref a0_tag, .ref a0_sealed]))] rfl (Nat.le_of_ble_eq_true rfl) rfl ?_
  refine v_iload_n g dX8_fails_13 1 rfl 1 rfl ?_
  exact v_zret g R dX8_fails_14 (by decide +kernel) (by decide) (by decide) ⟨rfl, rfl⟩
set_option maxHeartbeats 4000000 in
set_option maxRecDepth 100000 in
theorem c_R_thrown (l : Launch) (D : va_G) (a0 : Nat) (v_a0_thrown : Nat) (a0_tape : Nat) (v_a0_taped : Nat) (a0_out : Nat) (v_a0_outs : Nat) (a0_slots : Nat) (a0_kept : Nat) (a0_phase : Nat) (a0_secret : Nat) (a0_key : Nat) (a0_hide : Nat) (a0_iv : Nat) (a0_begin : Nat) (a0_each : Nat) (a0_root : Nat) (a0_power : Nat) (a0_work : Nat) (a0_w : Nat) (a0_h : Nat) (a0_state : Nat) (a0_sum : Nat) (a0_pad : Nat) (a0_text : Nat) (v_a0_texts : Nat) (a0_info : Nat) (v_a0_infos : Nat) (a0_made : Nat) (a0_blockKey : Nat) (a0_nonce : Nat) (a0_x : Nat) (a0_first : Nat) (a0_block : Nat) (a0_a : Nat) (a0_r : Nat) (a0_product : Nat) (a0_tag : Nat) (a0_sealed : Nat)   : vM l D yX8_thrown cX8_thrown 1 (some .int) { frames := 0, cells := 0, slots := 0, locals := 0 } [.ref a0] [(a0, .inr (8, [.int (nI v_a0_thrown), .ref a0_tape, .int (nI v_a0_taped), .ref a0_out, .int (nI v_a0_outs), .ref a0_slots, .ref a0_kept, .ref a0_phase, .ref a0_secret, .ref a0_key, .ref a0_hide, .ref a0_iv, .ref a0_begin, .ref a0_each, .ref a0_root, .ref a0_power, .ref a0_work, .ref a0_w, .ref a0_h, .ref a0_state, .ref a0_sum, .ref a0_pad, .ref a0_text, .int (nI v_a0_texts), .ref a0_info, .int (nI v_a0_infos), .ref a0_made, .ref a0_blockKey, .ref a0_nonce, .ref a0_x, .ref a0_first, .ref a0_block, .ref a0_a, .ref a0_r, .ref a0_product, .ref a0_tag, .ref a0_sealed]))] (fun r wo => r = some (.int (nI v_a0_thrown)) ∧ wo = [(a0, .inr (8, [.int (nI v_a0_thrown), .ref a0_tape, .int (nI v_a0_taped), .ref a0_out, .int (nI v_a0_outs), .ref a0_slots, .ref a0_kept, .ref a0_phase, .ref a0_secret, .ref a0_key, .ref a0_hide, .ref a0_iv, .ref a0_begin, .ref a0_each, .ref a0_root, .ref a0_power, .ref a0_work, .ref a0_w, .ref a0_h, .ref a0_state, .ref a0_sum, .ref a0_pad, .ref a0_text, .int (nI v_a0_texts), .ref a0_info, .int (nI v_a0_infos), .ref a0_made, .ref a0_blockKey, .ref a0_nonce, .ref a0_x, .ref a0_first, .ref a0_block, .ref a0_a, .ref a0_r, .ref a0_product, .ref a0_tag, .ref a0_sealed]))]) := by
  refine vM.of (by decide) (Nat.le_of_ble_eq_true rfl) (fun C hCl hCD g R => ?_)
  subst hCl; subst hCD
  show VJ C 0 0 0 [(0, .ref a0)] [] [(a0, .inr (8, [.int (nI v_a0_thrown), .ref a0_tape, .int (nI v_a0_taped), .ref a0_out, .int (nI v_a0_outs), .ref a0_slots, .ref a0_kept, .ref a0_phase, .ref a0_secret, .ref a0_key, .ref a0_hide, .ref a0_iv, .ref a0_begin, .ref a0_each, .ref a0_root, .ref a0_power, .ref a0_work, .ref a0_w, .ref a0_h, .ref a0_state, .ref a0_sum, .ref a0_pad, .ref a0_text, .int (nI v_a0_texts), .ref a0_info, .int (nI v_a0_infos), .ref a0_made, .ref a0_blockKey, .ref a0_nonce, .ref a0_x, .ref a0_first, .ref a0_block, .ref a0_a, .ref a0_r, .ref a0_product, .ref a0_tag, .ref a0_sealed]))]
  refine v_aload_n g dX8_thrown_0 0 rfl 0 rfl ?_
  refine gf_X8_115 g dX8_thrown_1 0 rfl rfl ?_
  exact v_iret g R dX8_thrown_4 (by decide) (by decide) ⟨rfl, rfl⟩
set_option maxHeartbeats 4000000 in
set_option maxRecDepth 100000 in
theorem c_R_ans (l : Launch) (D : va_G) (a0 : Nat) (a1 : Nat) (p2 : Nat) (v_a0_thrown : Nat) (a0_tape : Nat) (v_a0_taped : Nat) (a0_out : Nat) (v_a0_outs : Nat) (a0_slots : Nat) (a0_kept : Nat) (a0_phase : Nat) (a0_secret : Nat) (a0_key : Nat) (a0_hide : Nat) (a0_iv : Nat) (a0_begin : Nat) (a0_each : Nat) (a0_root : Nat) (a0_power : Nat) (a0_work : Nat) (a0_w : Nat) (a0_h : Nat) (a0_state : Nat) (a0_sum : Nat) (a0_pad : Nat) (a0_text : Nat) (v_a0_texts : Nat) (a0_info : Nat) (v_a0_infos : Nat) (a0_made : Nat) (a0_blockKey : Nat) (a0_nonce : Nat) (a0_x : Nat) (a0_first : Nat) (a0_block : Nat) (a0_a : Nat) (a0_r : Nat) (a0_product : Nat) (a0_tag : Nat) (a0_sealed : Nat) (t_a0_out : Nat → By) (n1 : Nat) (t_a1 : Nat → By)  (h1 : p2 ≤ n1) (h2 : p2 ≤ 2064) (hn : n1 < 2 ^ 31) : vM l D yX8_answer cX8_answer 4 none { frames := 0, cells := 0, slots := 0, locals := 0 } [.ref a0, .ref a1, .int (nI p2)] [(a0, .inr (8, [.int (nI v_a0_thrown), .ref a0_tape, .int (nI v_a0_taped), .ref a0_out, .int (nI v_a0_outs), .ref a0_slots, .ref a0_kept, .ref a0_phase, .ref a0_secret, .ref a0_key, .ref a0_hide, .ref a0_iv, .ref a0_begin, .ref a0_each, .ref a0_root, .ref a0_power, .ref a0_work, .ref a0_w, .ref a0_h, .ref a0_state, .ref a0_sum, .ref a0_pad, .ref a0_text, .int (nI v_a0_texts), .ref a0_info, .int (nI v_a0_infos), .ref a0_made, .ref a0_blockKey, .ref a0_nonce, .ref a0_x, .ref a0_first, .ref a0_block, .ref a0_a, .ref a0_r, .ref a0_product, .ref a0_tag, .ref a0_sealed])), (a0_out, aY D 2064 t_a0_out), (a1, aY D n1 t_a1)] (fun r wo => r = none ∧ wo = [(a0, .inr (8, [.int (nI v_a0_thrown), .ref a0_tape, .int (nI 0), .ref a0_out, .int (nI p2), .ref a0_slots, .ref a0_kept, .ref a0_phase, .ref a0_secret, .ref a0_key, .ref a0_hide, .ref a0_iv, .ref a0_begin, .ref a0_each, .ref a0_root, .ref a0_power, .ref a0_work, .ref a0_w, .ref a0_h, .ref a0_state, .ref a0_sum, .ref a0_pad, .ref a0_text, .int (nI v_a0_texts), .ref a0_info, .int (nI v_a0_infos), .ref a0_made, .ref a0_blockKey, .ref a0_nonce, .ref a0_x, .ref a0_first, .ref a0_block, .ref a0_a, .ref a0_r, .ref a0_product, .ref a0_tag, .ref a0_sealed])), (a0_out, aY D 2064 (cpo t_a0_out 0 p2 t_a1)), (a1, aY D n1 t_a1)]) := by
  refine vM.of (by decide) (Nat.le_of_ble_eq_true rfl) (fun C hCl hCD g R => ?_)
  subst hCl; subst hCD
  show VJ C 0 0 0 [(0, .ref a0), (1, .ref a1), (2, .int (nI p2))] [] [(a0, .inr (8, [.int (nI v_a0_thrown), .ref a0_tape, .int (nI v_a0_taped), .ref a0_out, .int (nI v_a0_outs), .ref a0_slots, .ref a0_kept, .ref a0_phase, .ref a0_secret, .ref a0_key, .ref a0_hide, .ref a0_iv, .ref a0_begin, .ref a0_each, .ref a0_root, .ref a0_power, .ref a0_work, .ref a0_w, .ref a0_h, .ref a0_state, .ref a0_sum, .ref a0_pad, .ref a0_text, .int (nI v_a0_texts), .ref a0_info, .int (nI v_a0_infos), .ref a0_made, .ref a0_blockKey, .ref a0_nonce, .ref a0_x, .ref a0_first, .ref a0_block, .ref a0_a, .ref a0_r, .ref a0_product, .ref a0_tag, .ref a0_sealed])), (a0_out, aY C.D 2064 t_a0_out), (a1, aY C.D n1 t_a1)]
  refine v_iconst g dX8_answer_0 (v := nI 0) (by decide +kernel) ?_
  refine v_istore_n g [(3, .int (nI 0)), (0, .ref a0), (1, .ref a1), (2, .int (nI p2))] dX8_answer_1 3 rfl (by decide) rfl ?_
  have L2_0 : ∀ i : Nat, i ≤ p2 → ∀ (tb : Nat → By), (tb = cpo t_a0_out 0 i t_a1) → VJ C 0 0 2 [(3, .int (nI i)), (0, .ref a0), (1, .ref a1), (2, .int (nI p2))] [] [(a0, .inr (8, [.int (nI v_a0_thrown), .ref a0_tape, .int (nI v_a0_taped), .ref a0_out, .int (nI v_a0_outs), .ref a0_slots, .ref a0_kept, .ref a0_phase, .ref a0_secret, .ref a0_key, .ref a0_hide, .ref a0_iv, .ref a0_begin, .ref a0_each, .ref a0_root, .ref a0_power, .ref a0_work, .ref a0_w, .ref a0_h, .ref a0_state, .ref a0_sum, .ref a0_pad, .ref a0_text, .int (nI v_a0_texts), .ref a0_info, .int (nI v_a0_infos), .ref a0_made, .ref a0_blockKey, .ref a0_nonce, .ref a0_x, .ref a0_first, .ref a0_block, .ref a0_a, .ref a0_r, .ref a0_product, .ref a0_tag, .ref a0_sealed])), (a0_out, aY C.D 2064 tb), (a1, aY C.D n1 t_a1)] := by
    refine v_for (p2) ?_ ?_
    · skip
      intro i hii ih tb hv0
      refine v_iload_n g dX8_answer_2 3 rfl 0 rfl ?_
      refine v_iload_n g dX8_answer_3 2 rfl 3 rfl ?_
      refine v_icmp_geN g 22 dX8_answer_4 (by decide) (by omega) (by omega) (fun h3 => ?_) (fun h3 => ?_)
      · skip
        exact absurd h3 (by omega)
      · skip
        refine v_aload_n g dX8_answer_7 0 rfl 1 rfl ?_
        refine gf_X8_13 g dX8_answer_8 0 rfl rfl ?_
        refine v_iload_n g dX8_answer_11 3 rfl 0 rfl ?_
        refine v_aload_n g dX8_answer_12 1 rfl 2 rfl ?_
        refine v_iload_n g dX8_answer_13 3 rfl 0 rfl ?_
        refine v_ialdY g 2 rfl (by omega) (by omega) dX8_answer_14 ?_
        obtain ⟨t4, ht4⟩ : ∃ z : Nat → By, z = va_up tb i (t_a1 i) := ⟨_, rfl⟩
        refine v_iastY g ((t_a1 i)) rfl t4 ht4 1 [(a0, .inr (8, [.int (nI v_a0_thrown), .ref a0_tape, .int (nI v_a0_taped), .ref a0_out, .int (nI v_a0_outs), .ref a0_slots, .ref a0_kept, .ref a0_phase, .ref a0_secret, .ref a0_key, .ref a0_hide, .ref a0_iv, .ref a0_begin, .ref a0_each, .ref a0_root, .ref a0_power, .ref a0_work, .ref a0_w, .ref a0_h, .ref a0_state, .ref a0_sum, .ref a0_pad, .ref a0_text, .int (nI v_a0_texts), .ref a0_info, .int (nI v_a0_infos), .ref a0_made, .ref a0_blockKey, .ref a0_nonce, .ref a0_x, .ref a0_first, .ref a0_block, .ref a0_a, .ref a0_r, .ref a0_product, .ref a0_tag, .ref a0_sealed])), (a0_out, aY C.D 2064 t4), (a1, aY C.D n1 t_a1)] rfl (by omega) (by decide) dX8_answer_15 rfl ?_
        refine v_iincN g 1 [(3, .int (nI (i + 1))), (0, .ref a0), (1, .ref a1), (2, .int (nI p2))] dX8_answer_16 0 rfl (by decide +kernel) (by decide) rfl ?_
        refine v_goto g 2 dX8_answer_19 (by decide) ?_
        exact ih t4 (by show _ = cpo t_a0_out 0 (i + 1) t_a1; rw [ht4, hv0, ← cpo_s t_a0_out 0 i t_a1, Nat.zero_add])
    · skip
      intro tb hv0
      refine v_iload_n g dX8_answer_2 3 rfl 0 rfl ?_
      refine v_iload_n g dX8_answer_3 2 rfl 3 rfl ?_
      refine v_icmp_geN g 22 dX8_answer_4 (by decide) (by omega) (by omega) (fun h5 => ?_) (fun h5 => ?_)
      · skip
        subst hv0
        show VJ C 0 0 22 [(3, .int (nI p2)), (0, .ref a0), (1, .ref a1), (2, .int (nI p2))] [] [(a0, .inr (8, [.int (nI v_a0_thrown), .ref a0_tape, .int (nI v_a0_taped), .ref a0_out, .int (nI v_a0_outs), .ref a0_slots, .ref a0_kept, .ref a0_phase, .ref a0_secret, .ref a0_key, .ref a0_hide, .ref a0_iv, .ref a0_begin, .ref a0_each, .ref a0_root, .ref a0_power, .ref a0_work, .ref a0_w, .ref a0_h, .ref a0_state, .ref a0_sum, .ref a0_pad, .ref a0_text, .int (nI v_a0_texts), .ref a0_info, .int (nI v_a0_infos), .ref a0_made, .ref a0_blockKey, .ref a0_nonce, .ref a0_x, .ref a0_first, .ref a0_block, .ref a0_a, .ref a0_r, .ref a0_product, .ref a0_tag, .ref a0_sealed])), (a0_out, aY C.D 2064 (cpo t_a0_out 0 p2 t_a1)), (a1, aY C.D n1 t_a1)]
        refine v_aload_n g dX8_answer_22 0 rfl 1 rfl ?_
        refine v_iload_n g dX8_answer_23 2 rfl 3 rfl ?_
        refine pf_X8_218 g dX8_answer_24 0 [(a0, .inr (8, [.int (nI v_a0_thrown), .ref a0_tape, .int (nI v_a0_taped), .ref a0_out, .int (nI p2), .ref a0_slots, .ref a0_kept, .ref a0_phase, .ref a0_secret, .ref a0_key, .ref a0_hide, .ref a0_iv, .ref a0_begin, .ref a0_each, .ref a0_root, .ref a0_power, .ref a0_work, .ref a0_w, .ref a0_h, .ref a0_state, .ref a0_sum, .ref a0_pad, .ref a0_text, .int (nI v_a0_texts), .ref a0_info, .int (nI v_a0_infos), .ref a0_made, .ref a0_blockKey, .ref a0_nonce, .ref a0_x, .ref a0_first, .ref a0_block, .ref a0_a, .ref a0_r, .ref a0_product, .ref a0_tag, .ref a0_sealed])), (a0_out, aY C.D 2064 (cpo t_a0_out 0 p2 t_a1)), (a1, aY C.D n1 t_a1)] rfl (Nat.le_of_ble_eq_true rfl) rfl ?_
        refine v_aload_n g dX8_answer_27 0 rfl 1 rfl ?_
        refine v_iconst g dX8_answer_28 (v := nI 0) (by decide +kernel) ?_
        refine pf_X8_215 g dX8_answer_29 0 [(a0, .inr (8, [.int (nI v_a0_thrown), .ref a0_tape, .int (nI 0), .ref a0_out, .int (nI p2), .ref a0_slots, .ref a0_kept, .ref a0_phase, .ref a0_secret, .ref a0_key, .ref a0_hide, .ref a0_iv, .ref a0_begin, .ref a0_each, .ref a0_root, .ref a0_power, .ref a0_work, .ref a0_w, .ref a0_h, .ref a0_state, .ref a0_sum, .ref a0_pad, .ref a0_text, .int (nI v_a0_texts), .ref a0_info, .int (nI v_a0_infos), .ref a0_made, .ref a0_blockKey, .ref a0_nonce, .ref a0_x, .ref a0_first, .ref a0_block, .ref a0_a, .ref a0_r, .ref a0_product, .ref a0_tag, .ref a0_sealed])), (a0_out, aY C.D 2064 (cpo t_a0_out 0 p2 t_a1)), (a1, aY C.D n1 t_a1)] rfl (Nat.le_of_ble_eq_true rfl) rfl ?_
        exact v_ret g R dX8_answer_32 (by decide) (by decide) ⟨rfl, rfl⟩
      · skip
        exact absurd h5 (by omega)
  exact L2_0 0 (by omega) t_a0_out ((cpo_0 _ _ _).symm)
theorem wb_t (t : Nat → By) (o i : Nat) (x : BitVec 64) : va_up (wb t o i x) (o + i) ((x >>> (8 * i)).setWidth 8) = wb t o (i + 1) x := by
  rw [← wb_s, BitVec.setWidth_setWidth_of_le _ (by omega)]
set_option maxHeartbeats 4000000 in
set_option maxRecDepth 100000 in
theorem m_feed (l : Launch) (D : va_G) (a0 : Nat) (p1 : Nat) (p2 : BitVec 64) (v_a0_thrown : Nat) (a0_tape : Nat) (v_a0_taped : Nat) (a0_out : Nat) (v_a0_outs : Nat) (a0_slots : Nat) (a0_kept : Nat) (a0_phase : Nat) (a0_secret : Nat) (a0_key : Nat) (a0_hide : Nat) (a0_iv : Nat) (a0_begin : Nat) (a0_each : Nat) (a0_root : Nat) (a0_power : Nat) (a0_work : Nat) (a0_w : Nat) (a0_h : Nat) (a0_state : Nat) (a0_sum : Nat) (a0_pad : Nat) (a0_text : Nat) (v_a0_texts : Nat) (a0_info : Nat) (v_a0_infos : Nat) (a0_made : Nat) (a0_blockKey : Nat) (a0_nonce : Nat) (a0_x : Nat) (a0_first : Nat) (a0_block : Nat) (a0_a : Nat) (a0_r : Nat) (a0_product : Nat) (a0_tag : Nat) (a0_sealed : Nat) (t_a0_tape : Nat → By)  (h1 : 1 ≤ p1) (h2 : p1 ≤ 8) (h3 : v_a0_taped + p1 ≤ 2048) : vM l D yX8_feed cX8_feed 5 (some .int) { frames := 1, cells := 0, slots := 0, locals := 22 } [.ref a0, .int (nI p1), .long (xL p2)] [(a0, .inr (8, [.int (nI v_a0_thrown), .ref a0_tape, .int (nI v_a0_taped), .ref a0_out, .int (nI v_a0_outs), .ref a0_slots, .ref a0_kept, .ref a0_phase, .ref a0_secret, .ref a0_key, .ref a0_hide, .ref a0_iv, .ref a0_begin, .ref a0_each, .ref a0_root, .ref a0_power, .ref a0_work, .ref a0_w, .ref a0_h, .ref a0_state, .ref a0_sum, .ref a0_pad, .ref a0_text, .int (nI v_a0_texts), .ref a0_info, .int (nI v_a0_infos), .ref a0_made, .ref a0_blockKey, .ref a0_nonce, .ref a0_x, .ref a0_first, .ref a0_block, .ref a0_a, .ref a0_r, .ref a0_product, .ref a0_tag, .ref a0_sealed])), (a0_tape, aY D 2048 t_a0_tape)] (fun r wo => r = some (.int (nI (v_a0_taped + p1))) ∧ wo = [(a0, .inr (8, [.int (nI 0), .ref a0_tape, .int (nI (v_a0_taped + p1)), .ref a0_out, .int (nI v_a0_outs), .ref a0_slots, .ref a0_kept, .ref a0_phase, .ref a0_secret, .ref a0_key, .ref a0_hide, .ref a0_iv, .ref a0_begin, .ref a0_each, .ref a0_root, .ref a0_power, .ref a0_work, .ref a0_w, .ref a0_h, .ref a0_state, .ref a0_sum, .ref a0_pad, .ref a0_text, .int (nI v_a0_texts), .ref a0_info, .int (nI v_a0_infos), .ref a0_made, .ref a0_blockKey, .ref a0_nonce, .ref a0_x, .ref a0_first, .ref a0_block, .ref a0_a, .ref a0_r, .ref a0_product, .ref a0_tag, .ref a0_sealed])), (a0_tape, aY D 2048 (wb t_a0_tape v_a0_taped p1 p2))]) := by
  refine vM.of (by decide) (Nat.le_of_ble_eq_true rfl) (fun C hCl hCD g R => ?_)
  subst hCl; subst hCD
  show VJ C 0 0 0 [(0, .ref a0), (1, .int (nI p1)), (2, .long (xL p2))] [] [(a0, .inr (8, [.int (nI v_a0_thrown), .ref a0_tape, .int (nI v_a0_taped), .ref a0_out, .int (nI v_a0_outs), .ref a0_slots, .ref a0_kept, .ref a0_phase, .ref a0_secret, .ref a0_key, .ref a0_hide, .ref a0_iv, .ref a0_begin, .ref a0_each, .ref a0_root, .ref a0_power, .ref a0_work, .ref a0_w, .ref a0_h, .ref a0_state, .ref a0_sum, .ref a0_pad, .ref a0_text, .int (nI v_a0_texts), .ref a0_info, .int (nI v_a0_infos), .ref a0_made, .ref a0_blockKey, .ref a0_nonce, .ref a0_x, .ref a0_first, .ref a0_block, .ref a0_a, .ref a0_r, .ref a0_product, .ref a0_tag, .ref a0_sealed])), (a0_tape, aY C.D 2048 t_a0_tape)]
  refine v_aload_n g dX8_feed_0 0 rfl 0 rfl ?_
  refine v_iload_n g dX8_feed_1 1 rfl 1 rfl ?_
  refine v_iconst g dX8_feed_2 (v := nI 1) (by decide +kernel) ?_
  refine v_icmp_ltN g 12 dX8_feed_3 (by decide) (by omega) (by omega) (fun h => absurd h (by omega)) (fun _ => ?_)
  refine v_iload_n g dX8_feed_6 1 rfl 1 rfl ?_
  refine v_bipush g dX8_feed_7 (v := nI 8) (by decide +kernel) ?_
  refine v_icmp_leN g 16 dX8_feed_9 (by decide) (by omega) (by omega) (fun _ => ?_) (fun h => absurd h (by omega))
  refine v_iconst g dX8_feed_16 (v := nI 0) (by decide +kernel) ?_
  refine v_iconst g dX8_feed_17 (v := nI 1) (by decide +kernel) ?_
  refine v_callV (As := [.int (nI 0), .int (nI 1)]) (rest := []) (wr := [(a0_tape, aY C.D 2048 t_a0_tape)]) cw_X8_211 (hy_X8_fails) g (c_R_fail0 C.l C.D a0 1 v_a0_thrown a0_tape v_a0_taped a0_out v_a0_outs a0_slots a0_kept a0_phase a0_secret a0_key a0_hide a0_iv a0_begin a0_each a0_root a0_power a0_work a0_w a0_h a0_state a0_sum a0_pad a0_text v_a0_texts a0_info v_a0_infos a0_made a0_blockKey a0_nonce a0_x a0_first a0_block a0_a a0_r a0_product a0_tag a0_sealed ) dX8_feed_18 0 rfl rfl rfl (by decide) (by decide) (Nat.le_of_ble_eq_true rfl) [0] [1] rfl rfl (by decide) rfl (by decide) (by decide) _ rfl (fun r wo hp1 => ?_)
  obtain ⟨rfl, rfl⟩ := hp1
  refine v_perm [1, 0] [(a0, .inr (8, [.int (nI 0), .ref a0_tape, .int (nI v_a0_taped), .ref a0_out, .int (nI v_a0_outs), .ref a0_slots, .ref a0_kept, .ref a0_phase, .ref a0_secret, .ref a0_key, .ref a0_hide, .ref a0_iv, .ref a0_begin, .ref a0_each, .ref a0_root, .ref a0_power, .ref a0_work, .ref a0_w, .ref a0_h, .ref a0_state, .ref a0_sum, .ref a0_pad, .ref a0_text, .int (nI v_a0_texts), .ref a0_info, .int (nI v_a0_infos), .ref a0_made, .ref a0_blockKey, .ref a0_nonce, .ref a0_x, .ref a0_first, .ref a0_block, .ref a0_a, .ref a0_r, .ref a0_product, .ref a0_tag, .ref a0_sealed])), (a0_tape, aY C.D 2048 t_a0_tape)] (by decide) rfl rfl ?_
  show VJ C 0 0 21 [(0, .ref a0), (1, .int (nI p1)), (2, .long (xL p2))] [.int (nI 0)] [(a0, .inr (8, [.int (nI 0), .ref a0_tape, .int (nI v_a0_taped), .ref a0_out, .int (nI v_a0_outs), .ref a0_slots, .ref a0_kept, .ref a0_phase, .ref a0_secret, .ref a0_key, .ref a0_hide, .ref a0_iv, .ref a0_begin, .ref a0_each, .ref a0_root, .ref a0_power, .ref a0_work, .ref a0_w, .ref a0_h, .ref a0_state, .ref a0_sum, .ref a0_pad, .ref a0_text, .int (nI v_a0_texts), .ref a0_info, .int (nI v_a0_infos), .ref a0_made, .ref a0_blockKey, .ref a0_nonce, .ref a0_x, .ref a0_first, .ref a0_block, .ref a0_a, .ref a0_r, .ref a0_product, .ref a0_tag, .ref a0_sealed])), (a0_tape, aY C.D 2048 t_a0_tape)]
  refine v_if_neN g 49 dX8_feed_21 (by decide) (by decide) (fun h => absurd h (by decide)) (fun _ => ?_)
  refine v_aload_n g dX8_feed_24 0 rfl 0 rfl ?_
  refine v_aload_n g dX8_feed_25 0 rfl 0 rfl ?_
  refine gf_X8_215 g dX8_feed_26 0 rfl rfl ?_
  refine v_iload_n g dX8_feed_29 1 rfl 1 rfl ?_
  refine v_iaddN g dX8_feed_30 ?_
  refine v_sipush g dX8_feed_31 (v := nI 2048) (by decide +kernel) ?_
  refine v_icmp_leN g 41 dX8_feed_34 (by decide) (by omega) (by omega) (fun _ => ?_) (fun h => absurd h (by omega))
  refine v_iconst g dX8_feed_41 (v := nI 0) (by decide +kernel) ?_
  refine v_iconst g dX8_feed_42 (v := nI 2) (by decide +kernel) ?_
  refine v_callV (As := [.int (nI 0), .int (nI 2)]) (rest := []) (wr := [(a0_tape, aY C.D 2048 t_a0_tape)]) cw_X8_211 (hy_X8_fails) g (c_R_fail0 C.l C.D a0 2 0 a0_tape v_a0_taped a0_out v_a0_outs a0_slots a0_kept a0_phase a0_secret a0_key a0_hide a0_iv a0_begin a0_each a0_root a0_power a0_work a0_w a0_h a0_state a0_sum a0_pad a0_text v_a0_texts a0_info v_a0_infos a0_made a0_blockKey a0_nonce a0_x a0_first a0_block a0_a a0_r a0_product a0_tag a0_sealed ) dX8_feed_43 0 rfl rfl rfl (by decide) (by decide) (Nat.le_of_ble_eq_true rfl) [0] [1] rfl rfl (by decide) rfl (by decide) (by decide) _ rfl (fun r wo hp2 => ?_)
  obtain ⟨rfl, rfl⟩ := hp2
  refine v_perm [1, 0] [(a0, .inr (8, [.int (nI 0), .ref a0_tape, .int (nI v_a0_taped), .ref a0_out, .int (nI v_a0_outs), .ref a0_slots, .ref a0_kept, .ref a0_phase, .ref a0_secret, .ref a0_key, .ref a0_hide, .ref a0_iv, .ref a0_begin, .ref a0_each, .ref a0_root, .ref a0_power, .ref a0_work, .ref a0_w, .ref a0_h, .ref a0_state, .ref a0_sum, .ref a0_pad, .ref a0_text, .int (nI v_a0_texts), .ref a0_info, .int (nI v_a0_infos), .ref a0_made, .ref a0_blockKey, .ref a0_nonce, .ref a0_x, .ref a0_first, .ref a0_block, .ref a0_a, .ref a0_r, .ref a0_product, .ref a0_tag, .ref a0_sealed])), (a0_tape, aY C.D 2048 t_a0_tape)] (by decide) rfl rfl ?_
  show VJ C 0 0 46 [(0, .ref a0), (1, .int (nI p1)), (2, .long (xL p2))] [.int (nI 0)] [(a0, .inr (8, [.int (nI 0), .ref a0_tape, .int (nI v_a0_taped), .ref a0_out, .int (nI v_a0_outs), .ref a0_slots, .ref a0_kept, .ref a0_phase, .ref a0_secret, .ref a0_key, .ref a0_hide, .ref a0_iv, .ref a0_begin, .ref a0_each, .ref a0_root, .ref a0_power, .ref a0_work, .ref a0_w, .ref a0_h, .ref a0_state, .ref a0_sum, .ref a0_pad, .ref a0_text, .int (nI v_a0_texts), .ref a0_info, .int (nI v_a0_infos), .ref a0_made, .ref a0_blockKey, .ref a0_nonce, .ref a0_x, .ref a0_first, .ref a0_block, .ref a0_a, .ref a0_r, .ref a0_product, .ref a0_tag, .ref a0_sealed])), (a0_tape, aY C.D 2048 t_a0_tape)]
  refine v_if_eqN g 51 dX8_feed_46 (by decide) (by decide) (fun _ => ?_) (fun h => absurd h (by decide))
  refine v_iconst g dX8_feed_51 (v := nI 0) (by decide +kernel) ?_
  refine v_istore g [(4, .int (nI 0)), (0, .ref a0), (1, .int (nI p1)), (2, .long (xL p2))] dX8_feed_52 (by decide) rfl ?_
  have L54_2 : ∀ i : Nat, i ≤ p1 → ∀ (tt : Nat → By), (tt = wb t_a0_tape v_a0_taped i p2) → VJ C 0 0 54 [(4, .int (nI i)), (0, .ref a0), (1, .int (nI p1)), (2, .long (xL p2))] [] [(a0, .inr (8, [.int (nI 0), .ref a0_tape, .int (nI v_a0_taped), .ref a0_out, .int (nI v_a0_outs), .ref a0_slots, .ref a0_kept, .ref a0_phase, .ref a0_secret, .ref a0_key, .ref a0_hide, .ref a0_iv, .ref a0_begin, .ref a0_each, .ref a0_root, .ref a0_power, .ref a0_work, .ref a0_w, .ref a0_h, .ref a0_state, .ref a0_sum, .ref a0_pad, .ref a0_text, .int (nI v_a0_texts), .ref a0_info, .int (nI v_a0_infos), .ref a0_made, .ref a0_blockKey, .ref a0_nonce, .ref a0_x, .ref a0_first, .ref a0_block, .ref a0_a, .ref a0_r, .ref a0_product, .ref a0_tag, .ref a0_sealed])), (a0_tape, aY C.D 2048 tt)] := by
    refine v_for (p1) ?_ ?_
    · skip
      intro i hii ih tt hv0
      refine v_iload g dX8_feed_54 0 rfl ?_
      refine v_iload_n g dX8_feed_56 1 rfl 2 rfl ?_
      refine v_icmp_geN g 90 dX8_feed_57 (by decide) (by omega) (by omega) (fun h4 => ?_) (fun h4 => ?_)
      · skip
        exact absurd h4 (by omega)
      · skip
        refine v_aload_n g dX8_feed_60 0 rfl 1 rfl ?_
        refine gf_X8_7 g dX8_feed_61 0 rfl rfl ?_
        refine v_aload_n g dX8_feed_64 0 rfl 1 rfl ?_
        refine gf_X8_215 g dX8_feed_65 0 rfl rfl ?_
        refine v_iload g dX8_feed_68 0 rfl ?_
        refine v_iaddN g dX8_feed_70 ?_
        refine v_lload_n g dX8_feed_71 2 rfl 3 rfl ?_
        refine v_bipush g dX8_feed_72 (v := nI 8) (by decide +kernel) ?_
        refine v_iload g dX8_feed_74 0 rfl ?_
        refine v_imulN g dX8_feed_76 ?_
        refine v_lshrX g (by omega) dX8_feed_77 ?_
        refine v_ldc2 g dX8_feed_78 kl_X8_134 ?_
        refine v_landX g (p2.sshiftRight (8 * i)) (255#64) rfl (xL_n _) dX8_feed_81 ?_
        refine v_l2iX g dX8_feed_82 ?_
        refine v_toi (nI (((p2 >>> (8 * i)).setWidth 8).toNat)) (sb8 p2 (by omega)) ?_
        obtain ⟨t5, ht5⟩ : ∃ z : Nat → By, z = va_up tt (v_a0_taped + i) ((p2 >>> (8 * i)).setWidth 8) := ⟨_, rfl⟩
        refine v_iastY g (((p2 >>> (8 * i)).setWidth 8)) rfl t5 ht5 1 [(a0, .inr (8, [.int (nI 0), .ref a0_tape, .int (nI v_a0_taped), .ref a0_out, .int (nI v_a0_outs), .ref a0_slots, .ref a0_kept, .ref a0_phase, .ref a0_secret, .ref a0_key, .ref a0_hide, .ref a0_iv, .ref a0_begin, .ref a0_each, .ref a0_root, .ref a0_power, .ref a0_work, .ref a0_w, .ref a0_h, .ref a0_state, .ref a0_sum, .ref a0_pad, .ref a0_text, .int (nI v_a0_texts), .ref a0_info, .int (nI v_a0_infos), .ref a0_made, .ref a0_blockKey, .ref a0_nonce, .ref a0_x, .ref a0_first, .ref a0_block, .ref a0_a, .ref a0_r, .ref a0_product, .ref a0_tag, .ref a0_sealed])), (a0_tape, aY C.D 2048 t5)] rfl (by omega) (by decide) dX8_feed_83 rfl ?_
        refine v_iincN g 1 [(4, .int (nI (i + 1))), (0, .ref a0), (1, .int (nI p1)), (2, .long (xL p2))] dX8_feed_84 0 rfl (by decide +kernel) (by decide) rfl ?_
        refine v_goto g 54 dX8_feed_87 (by decide) ?_
        exact ih t5 (by rw [ht5, hv0]; exact wb_t _ _ _ _)
    · skip
      intro tt hv0
      refine v_iload g dX8_feed_54 0 rfl ?_
      refine v_iload_n g dX8_feed_56 1 rfl 2 rfl ?_
      refine v_icmp_geN g 90 dX8_feed_57 (by decide) (by omega) (by omega) (fun h6 => ?_) (fun h6 => ?_)
      · skip
        subst hv0
        refine v_aload_n g dX8_feed_90 0 rfl 1 rfl ?_
        refine v_dup g dX8_feed_91 rfl ?_
        refine gf_X8_215 g dX8_feed_92 0 rfl rfl ?_
        refine v_iload_n g dX8_feed_95 1 rfl 2 rfl ?_
        refine v_iaddN g dX8_feed_96 ?_
        refine pf_X8_215 g dX8_feed_97 0 [(a0, .inr (8, [.int (nI 0), .ref a0_tape, .int (nI (v_a0_taped + p1)), .ref a0_out, .int (nI v_a0_outs), .ref a0_slots, .ref a0_kept, .ref a0_phase, .ref a0_secret, .ref a0_key, .ref a0_hide, .ref a0_iv, .ref a0_begin, .ref a0_each, .ref a0_root, .ref a0_power, .ref a0_work, .ref a0_w, .ref a0_h, .ref a0_state, .ref a0_sum, .ref a0_pad, .ref a0_text, .int (nI v_a0_texts), .ref a0_info, .int (nI v_a0_infos), .ref a0_made, .ref a0_blockKey, .ref a0_nonce, .ref a0_x, .ref a0_first, .ref a0_block, .ref a0_a, .ref a0_r, .ref a0_product, .ref a0_tag, .ref a0_sealed])), (a0_tape, aY C.D 2048 (wb t_a0_tape v_a0_taped p1 p2))] rfl (Nat.le_of_ble_eq_true rfl) rfl ?_
        refine v_aload_n g dX8_feed_100 0 rfl 1 rfl ?_
        refine gf_X8_215 g dX8_feed_101 0 rfl rfl ?_
        exact v_iret g R dX8_feed_104 (by decide) (by decide) ⟨rfl, rfl⟩
      · skip
        exact absurd h6 (by omega)
  exact L54_2 0 (by omega) t_a0_tape ((wb_0 _ _ _).symm)
set_option maxHeartbeats 4000000 in
set_option maxRecDepth 100000 in
theorem f_feed1 (l : Launch) (D : va_G) (a0 : Nat) (p1 : Int32) (p2 : BitVec 64) (v_a0_thrown : Nat) (a0_tape : Nat) (v_a0_taped : Nat) (a0_out : Nat) (v_a0_outs : Nat) (a0_slots : Nat) (a0_kept : Nat) (a0_phase : Nat) (a0_secret : Nat) (a0_key : Nat) (a0_hide : Nat) (a0_iv : Nat) (a0_begin : Nat) (a0_each : Nat) (a0_root : Nat) (a0_power : Nat) (a0_work : Nat) (a0_w : Nat) (a0_h : Nat) (a0_state : Nat) (a0_sum : Nat) (a0_pad : Nat) (a0_text : Nat) (v_a0_texts : Nat) (a0_info : Nat) (v_a0_infos : Nat) (a0_made : Nat) (a0_blockKey : Nat) (a0_nonce : Nat) (a0_x : Nat) (a0_first : Nat) (a0_block : Nat) (a0_a : Nat) (a0_r : Nat) (a0_product : Nat) (a0_tag : Nat) (a0_sealed : Nat)  (h0 : p1 < nI 1 ∨ nI 8 < p1) : vM l D yX8_feed cX8_feed 5 (some .int) { frames := 1, cells := 0, slots := 0, locals := 22 } [.ref a0, .int p1, .long (xL p2)] [(a0, .inr (8, [.int (nI v_a0_thrown), .ref a0_tape, .int (nI v_a0_taped), .ref a0_out, .int (nI v_a0_outs), .ref a0_slots, .ref a0_kept, .ref a0_phase, .ref a0_secret, .ref a0_key, .ref a0_hide, .ref a0_iv, .ref a0_begin, .ref a0_each, .ref a0_root, .ref a0_power, .ref a0_work, .ref a0_w, .ref a0_h, .ref a0_state, .ref a0_sum, .ref a0_pad, .ref a0_text, .int (nI v_a0_texts), .ref a0_info, .int (nI v_a0_infos), .ref a0_made, .ref a0_blockKey, .ref a0_nonce, .ref a0_x, .ref a0_first, .ref a0_block, .ref a0_a, .ref a0_r, .ref a0_product, .ref a0_tag, .ref a0_sealed]))] (fun r wo => r = some (.int (nI 0)) ∧ wo = [(a0, .inr (8, [.int (nI 1), .ref a0_tape, .int (nI v_a0_taped), .ref a0_out, .int (nI v_a0_outs), .ref a0_slots, .ref a0_kept, .ref a0_phase, .ref a0_secret, .ref a0_key, .ref a0_hide, .ref a0_iv, .ref a0_begin, .ref a0_each, .ref a0_root, .ref a0_power, .ref a0_work, .ref a0_w, .ref a0_h, .ref a0_state, .ref a0_sum, .ref a0_pad, .ref a0_text, .int (nI v_a0_texts), .ref a0_info, .int (nI v_a0_infos), .ref a0_made, .ref a0_blockKey, .ref a0_nonce, .ref a0_x, .ref a0_first, .ref a0_block, .ref a0_a, .ref a0_r, .ref a0_product, .ref a0_tag, .ref a0_sealed]))]) := by
  refine vM.of (by decide) (Nat.le_of_ble_eq_true rfl) (fun C hCl hCD g R => ?_)
  subst hCl; subst hCD
  show VJ C 0 0 0 [(0, .ref a0), (1, .int p1), (2, .long (xL p2))] [] [(a0, .inr (8, [.int (nI v_a0_thrown), .ref a0_tape, .int (nI v_a0_taped), .ref a0_out, .int (nI v_a0_outs), .ref a0_slots, .ref a0_kept, .ref a0_phase, .ref a0_secret, .ref a0_key, .ref a0_hide, .ref a0_iv, .ref a0_begin, .ref a0_each, .ref a0_root, .ref a0_power, .ref a0_work, .ref a0_w, .ref a0_h, .ref a0_state, .ref a0_sum, .ref a0_pad, .ref a0_text, .int (nI v_a0_texts), .ref a0_info, .int (nI v_a0_infos), .ref a0_made, .ref a0_blockKey, .ref a0_nonce, .ref a0_x, .ref a0_first, .ref a0_block, .ref a0_a, .ref a0_r, .ref a0_product, .ref a0_tag, .ref a0_sealed]))]
  refine v_aload_n g dX8_feed_0 0 rfl 0 rfl ?_
  refine v_iload_n g dX8_feed_1 1 rfl 1 rfl ?_
  refine v_iconst g dX8_feed_2 (v := nI 1) (by decide +kernel) ?_
  refine v_icmp_lt g 12 dX8_feed_3 (by decide) (fun h1 => ?_) (fun h1 => ?_)
  · skip
    refine v_iconst g dX8_feed_12 (v := nI 1) (by decide +kernel) ?_
    refine v_goto g 17 dX8_feed_13 (by decide) ?_
    refine v_iconst g dX8_feed_17 (v := nI 1) (by decide +kernel) ?_
    refine v_callV (As := [.int (nI 1), .int (nI 1)]) (rest := []) (wr := []) cw_X8_211 (hy_X8_fails) g (c_R_fail1 C.l C.D a0 1 v_a0_thrown a0_tape v_a0_taped a0_out v_a0_outs a0_slots a0_kept a0_phase a0_secret a0_key a0_hide a0_iv a0_begin a0_each a0_root a0_power a0_work a0_w a0_h a0_state a0_sum a0_pad a0_text v_a0_texts a0_info v_a0_infos a0_made a0_blockKey a0_nonce a0_x a0_first a0_block a0_a a0_r a0_product a0_tag a0_sealed ) dX8_feed_18 0 rfl rfl rfl (by decide) (by decide) (Nat.le_of_ble_eq_true rfl) [0] [] rfl rfl (by decide) rfl (by decide) (by decide) _ rfl (fun r wo hp2 => ?_)
    obtain ⟨rfl, rfl⟩ := hp2
    show VJ C 0 0 21 [(0, .ref a0), (1, .int p1), (2, .long (xL p2))] [.int (nI 1)] [(a0, .inr (8, [.int (nI 1), .ref a0_tape, .int (nI v_a0_taped), .ref a0_out, .int (nI v_a0_outs), .ref a0_slots, .ref a0_kept, .ref a0_phase, .ref a0_secret, .ref a0_key, .ref a0_hide, .ref a0_iv, .ref a0_begin, .ref a0_each, .ref a0_root, .ref a0_power, .ref a0_work, .ref a0_w, .ref a0_h, .ref a0_state, .ref a0_sum, .ref a0_pad, .ref a0_text, .int (nI v_a0_texts), .ref a0_info, .int (nI v_a0_infos), .ref a0_made, .ref a0_blockKey, .ref a0_nonce, .ref a0_x, .ref a0_first, .ref a0_block, .ref a0_a, .ref a0_r, .ref a0_product, .ref a0_tag, .ref a0_sealed]))]
    refine v_if_neN g 49 dX8_feed_21 (by decide) (by decide) (fun _ => ?_) (fun h => absurd h (by decide))
    refine v_iconst g dX8_feed_49 (v := nI 0) (by decide +kernel) ?_
    exact v_iret g R dX8_feed_50 (by decide) (by decide) ⟨rfl, rfl⟩
  · skip
    refine v_iload_n g dX8_feed_6 1 rfl 1 rfl ?_
    refine v_bipush g dX8_feed_7 (v := nI 8) (by decide +kernel) ?_
    refine v_icmp_le g 16 dX8_feed_9 (by decide) (fun h3 => ?_) (fun h3 => ?_)
    · skip
      exact absurd h3 (h0.elim (fun q => absurd q h1) i_lt_nle)
    · skip
      refine v_iconst g dX8_feed_12 (v := nI 1) (by decide +kernel) ?_
      refine v_goto g 17 dX8_feed_13 (by decide) ?_
      refine v_iconst g dX8_feed_17 (v := nI 1) (by decide +kernel) ?_
      refine v_callV (As := [.int (nI 1), .int (nI 1)]) (rest := []) (wr := []) cw_X8_211 (hy_X8_fails) g (c_R_fail1 C.l C.D a0 1 v_a0_thrown a0_tape v_a0_taped a0_out v_a0_outs a0_slots a0_kept a0_phase a0_secret a0_key a0_hide a0_iv a0_begin a0_each a0_root a0_power a0_work a0_w a0_h a0_state a0_sum a0_pad a0_text v_a0_texts a0_info v_a0_infos a0_made a0_blockKey a0_nonce a0_x a0_first a0_block a0_a a0_r a0_product a0_tag a0_sealed ) dX8_feed_18 0 rfl rfl rfl (by decide) (by decide) (Nat.le_of_ble_eq_true rfl) [0] [] rfl rfl (by decide) rfl (by decide) (by decide) _ rfl (fun r wo hp4 => ?_)
      obtain ⟨rfl, rfl⟩ := hp4
      show VJ C 0 0 21 [(0, .ref a0), (1, .int p1), (2, .long (xL p2))] [.int (nI 1)] [(a0, .inr (8, [.int (nI 1), .ref a0_tape, .int (nI v_a0_taped), .ref a0_out, .int (nI v_a0_outs), .ref a0_slots, .ref a0_kept, .ref a0_phase, .ref a0_secret, .ref a0_key, .ref a0_hide, .ref a0_iv, .ref a0_begin, .ref a0_each, .ref a0_root, .ref a0_power, .ref a0_work, .ref a0_w, .ref a0_h, .ref a0_state, .ref a0_sum, .ref a0_pad, .ref a0_text, .int (nI v_a0_texts), .ref a0_info, .int (nI v_a0_infos), .ref a0_made, .ref a0_blockKey, .ref a0_nonce, .ref a0_x, .ref a0_first, .ref a0_block, .ref a0_a, .ref a0_r, .ref a0_product, .ref a0_tag, .ref a0_sealed]))]
      refine v_if_neN g 49 dX8_feed_21 (by decide) (by decide) (fun _ => ?_) (fun h => absurd h (by decide))
      refine v_iconst g dX8_feed_49 (v := nI 0) (by decide +kernel) ?_
      exact v_iret g R dX8_feed_50 (by decide) (by decide) ⟨rfl, rfl⟩
set_option maxHeartbeats 4000000 in
set_option maxRecDepth 100000 in
theorem f_feed2 (l : Launch) (D : va_G) (a0 : Nat) (p1 : Nat) (p2 : BitVec 64) (v_a0_thrown : Nat) (a0_tape : Nat) (v_a0_taped : Nat) (a0_out : Nat) (v_a0_outs : Nat) (a0_slots : Nat) (a0_kept : Nat) (a0_phase : Nat) (a0_secret : Nat) (a0_key : Nat) (a0_hide : Nat) (a0_iv : Nat) (a0_begin : Nat) (a0_each : Nat) (a0_root : Nat) (a0_power : Nat) (a0_work : Nat) (a0_w : Nat) (a0_h : Nat) (a0_state : Nat) (a0_sum : Nat) (a0_pad : Nat) (a0_text : Nat) (v_a0_texts : Nat) (a0_info : Nat) (v_a0_infos : Nat) (a0_made : Nat) (a0_blockKey : Nat) (a0_nonce : Nat) (a0_x : Nat) (a0_first : Nat) (a0_block : Nat) (a0_a : Nat) (a0_r : Nat) (a0_product : Nat) (a0_tag : Nat) (a0_sealed : Nat)  (h1 : 1 ≤ p1) (h2 : p1 ≤ 8) (h3 : 2048 < v_a0_taped + p1) (hT : v_a0_taped ≤ 2048) : vM l D yX8_feed cX8_feed 5 (some .int) { frames := 1, cells := 0, slots := 0, locals := 22 } [.ref a0, .int (nI p1), .long (xL p2)] [(a0, .inr (8, [.int (nI v_a0_thrown), .ref a0_tape, .int (nI v_a0_taped), .ref a0_out, .int (nI v_a0_outs), .ref a0_slots, .ref a0_kept, .ref a0_phase, .ref a0_secret, .ref a0_key, .ref a0_hide, .ref a0_iv, .ref a0_begin, .ref a0_each, .ref a0_root, .ref a0_power, .ref a0_work, .ref a0_w, .ref a0_h, .ref a0_state, .ref a0_sum, .ref a0_pad, .ref a0_text, .int (nI v_a0_texts), .ref a0_info, .int (nI v_a0_infos), .ref a0_made, .ref a0_blockKey, .ref a0_nonce, .ref a0_x, .ref a0_first, .ref a0_block, .ref a0_a, .ref a0_r, .ref a0_product, .ref a0_tag, .ref a0_sealed]))] (fun r wo => r = some (.int (nI 0)) ∧ wo = [(a0, .inr (8, [.int (nI 2), .ref a0_tape, .int (nI v_a0_taped), .ref a0_out, .int (nI v_a0_outs), .ref a0_slots, .ref a0_kept, .ref a0_phase, .ref a0_secret, .ref a0_key, .ref a0_hide, .ref a0_iv, .ref a0_begin, .ref a0_each, .ref a0_root, .ref a0_power, .ref a0_work, .ref a0_w, .ref a0_h, .ref a0_state, .ref a0_sum, .ref a0_pad, .ref a0_text, .int (nI v_a0_texts), .ref a0_info, .int (nI v_a0_infos), .ref a0_made, .ref a0_blockKey, .ref a0_nonce, .ref a0_x, .ref a0_first, .ref a0_block, .ref a0_a, .ref a0_r, .ref a0_product, .ref a0_tag, .ref a0_sealed]))]) := by
  refine vM.of (by decide) (Nat.le_of_ble_eq_true rfl) (fun C hCl hCD g R => ?_)
  subst hCl; subst hCD
  show VJ C 0 0 0 [(0, .ref a0), (1, .int (nI p1)), (2, .long (xL p2))] [] [(a0, .inr (8, [.int (nI v_a0_thrown), .ref a0_tape, .int (nI v_a0_taped), .ref a0_out, .int (nI v_a0_outs), .ref a0_slots, .ref a0_kept, .ref a0_phase, .ref a0_secret, .ref a0_key, .ref a0_hide, .ref a0_iv, .ref a0_begin, .ref a0_each, .ref a0_root, .ref a0_power, .ref a0_work, .ref a0_w, .ref a0_h, .ref a0_state, .ref a0_sum, .ref a0_pad, .ref a0_text, .int (nI v_a0_texts), .ref a0_info, .int (nI v_a0_infos), .ref a0_made, .ref a0_blockKey, .ref a0_nonce, .ref a0_x, .ref a0_first, .ref a0_block, .ref a0_a, .ref a0_r, .ref a0_product, .ref a0_tag, .ref a0_sealed]))]
  refine v_aload_n g dX8_feed_0 0 rfl 0 rfl ?_
  refine v_iload_n g dX8_feed_1 1 rfl 1 rfl ?_
  refine v_iconst g dX8_feed_2 (v := nI 1) (by decide +kernel) ?_
  refine v_icmp_ltN g 12 dX8_feed_3 (by decide) (by omega) (by omega) (fun h => absurd h (by omega)) (fun _ => ?_)
  refine v_iload_n g dX8_feed_6 1 rfl 1 rfl ?_
  refine v_bipush g dX8_feed_7 (v := nI 8) (by decide +kernel) ?_
  refine v_icmp_leN g 16 dX8_feed_9 (by decide) (by omega) (by omega) (fun _ => ?_) (fun h => absurd h (by omega))
  refine v_iconst g dX8_feed_16 (v := nI 0) (by decide +kernel) ?_
  refine v_iconst g dX8_feed_17 (v := nI 1) (by decide +kernel) ?_
  refine v_callV (As := [.int (nI 0), .int (nI 1)]) (rest := []) (wr := []) cw_X8_211 (hy_X8_fails) g (c_R_fail0 C.l C.D a0 1 v_a0_thrown a0_tape v_a0_taped a0_out v_a0_outs a0_slots a0_kept a0_phase a0_secret a0_key a0_hide a0_iv a0_begin a0_each a0_root a0_power a0_work a0_w a0_h a0_state a0_sum a0_pad a0_text v_a0_texts a0_info v_a0_infos a0_made a0_blockKey a0_nonce a0_x a0_first a0_block a0_a a0_r a0_product a0_tag a0_sealed ) dX8_feed_18 0 rfl rfl rfl (by decide) (by decide) (Nat.le_of_ble_eq_true rfl) [0] [] rfl rfl (by decide) rfl (by decide) (by decide) _ rfl (fun r wo hp1 => ?_)
  obtain ⟨rfl, rfl⟩ := hp1
  show VJ C 0 0 21 [(0, .ref a0), (1, .int (nI p1)), (2, .long (xL p2))] [.int (nI 0)] [(a0, .inr (8, [.int (nI 0), .ref a0_tape, .int (nI v_a0_taped), .ref a0_out, .int (nI v_a0_outs), .ref a0_slots, .ref a0_kept, .ref a0_phase, .ref a0_secret, .ref a0_key, .ref a0_hide, .ref a0_iv, .ref a0_begin, .ref a0_each, .ref a0_root, .ref a0_power, .ref a0_work, .ref a0_w, .ref a0_h, .ref a0_state, .ref a0_sum, .ref a0_pad, .ref a0_text, .int (nI v_a0_texts), .ref a0_info, .int (nI v_a0_infos), .ref a0_made, .ref a0_blockKey, .ref a0_nonce, .ref a0_x, .ref a0_first, .ref a0_block, .ref a0_a, .ref a0_r, .ref a0_product, .ref a0_tag, .ref a0_sealed]))]
  refine v_if_neN g 49 dX8_feed_21 (by decide) (by decide) (fun h => absurd h (by decide)) (fun _ => ?_)
  refine v_aload_n g dX8_feed_24 0 rfl 0 rfl ?_
  refine v_aload_n g dX8_feed_25 0 rfl 0 rfl ?_
  refine gf_X8_215 g dX8_feed_26 0 rfl rfl ?_
  refine v_iload_n g dX8_feed_29 1 rfl 1 rfl ?_
  refine v_iaddN g dX8_feed_30 ?_
  refine v_sipush g dX8_feed_31 (v := nI 2048) (by decide +kernel) ?_
  refine v_icmp_leN g 41 dX8_feed_34 (by decide) (by omega) (by omega) (fun h => absurd h (by omega)) (fun _ => ?_)
  refine v_iconst g dX8_feed_37 (v := nI 1) (by decide +kernel) ?_
  refine v_goto g 42 dX8_feed_38 (by decide) ?_
  refine v_iconst g dX8_feed_42 (v := nI 2) (by decide +kernel) ?_
  refine v_callV (As := [.int (nI 1), .int (nI 2)]) (rest := []) (wr := []) cw_X8_211 (hy_X8_fails) g (c_R_fail1 C.l C.D a0 2 0 a0_tape v_a0_taped a0_out v_a0_outs a0_slots a0_kept a0_phase a0_secret a0_key a0_hide a0_iv a0_begin a0_each a0_root a0_power a0_work a0_w a0_h a0_state a0_sum a0_pad a0_text v_a0_texts a0_info v_a0_infos a0_made a0_blockKey a0_nonce a0_x a0_first a0_block a0_a a0_r a0_product a0_tag a0_sealed ) dX8_feed_43 0 rfl rfl rfl (by decide) (by decide) (Nat.le_of_ble_eq_true rfl) [0] [] rfl rfl (by decide) rfl (by decide) (by decide) _ rfl (fun r wo hp2 => ?_)
  obtain ⟨rfl, rfl⟩ := hp2
  show VJ C 0 0 46 [(0, .ref a0), (1, .int (nI p1)), (2, .long (xL p2))] [.int (nI 1)] [(a0, .inr (8, [.int (nI 2), .ref a0_tape, .int (nI v_a0_taped), .ref a0_out, .int (nI v_a0_outs), .ref a0_slots, .ref a0_kept, .ref a0_phase, .ref a0_secret, .ref a0_key, .ref a0_hide, .ref a0_iv, .ref a0_begin, .ref a0_each, .ref a0_root, .ref a0_power, .ref a0_work, .ref a0_w, .ref a0_h, .ref a0_state, .ref a0_sum, .ref a0_pad, .ref a0_text, .int (nI v_a0_texts), .ref a0_info, .int (nI v_a0_infos), .ref a0_made, .ref a0_blockKey, .ref a0_nonce, .ref a0_x, .ref a0_first, .ref a0_block, .ref a0_a, .ref a0_r, .ref a0_product, .ref a0_tag, .ref a0_sealed]))]
  refine v_if_eqN g 51 dX8_feed_46 (by decide) (by decide) (fun h => absurd h (by decide)) (fun _ => ?_)
  refine v_iconst g dX8_feed_49 (v := nI 0) (by decide +kernel) ?_
  exact v_iret g R dX8_feed_50 (by decide) (by decide) ⟨rfl, rfl⟩
set_option maxHeartbeats 4000000 in
set_option maxRecDepth 100000 in
theorem m_wipe (l : Launch) (D : va_G) (a0 : Nat) (v_a0_thrown : Nat) (a0_tape : Nat) (v_a0_taped : Nat) (a0_out : Nat) (v_a0_outs : Nat) (a0_slots : Nat) (a0_kept : Nat) (a0_phase : Nat) (a0_secret : Nat) (a0_key : Nat) (a0_hide : Nat) (a0_iv : Nat) (a0_begin : Nat) (a0_each : Nat) (a0_root : Nat) (a0_power : Nat) (a0_work : Nat) (a0_w : Nat) (a0_h : Nat) (a0_state : Nat) (a0_sum : Nat) (a0_pad : Nat) (a0_text : Nat) (v_a0_texts : Nat) (a0_info : Nat) (v_a0_infos : Nat) (a0_made : Nat) (a0_blockKey : Nat) (a0_nonce : Nat) (a0_x : Nat) (a0_first : Nat) (a0_block : Nat) (a0_a : Nat) (a0_r : Nat) (a0_product : Nat) (a0_tag : Nat) (a0_sealed : Nat)   : vM l D yX8_wipe cX8_wipe 2 (some .int) { frames := 1, cells := 0, slots := 0, locals := 22 } [.ref a0] [(a0, .inr (8, [.int (nI v_a0_thrown), .ref a0_tape, .int (nI v_a0_taped), .ref a0_out, .int (nI v_a0_outs), .ref a0_slots, .ref a0_kept, .ref a0_phase, .ref a0_secret, .ref a0_key, .ref a0_hide, .ref a0_iv, .ref a0_begin, .ref a0_each, .ref a0_root, .ref a0_power, .ref a0_work, .ref a0_w, .ref a0_h, .ref a0_state, .ref a0_sum, .ref a0_pad, .ref a0_text, .int (nI v_a0_texts), .ref a0_info, .int (nI v_a0_infos), .ref a0_made, .ref a0_blockKey, .ref a0_nonce, .ref a0_x, .ref a0_first, .ref a0_block, .ref a0_a, .ref a0_r, .ref a0_product, .ref a0_tag, .ref a0_sealed]))] (fun r wo => r = some (.int (nI v_a0_taped)) ∧ wo = [(a0, .inr (8, [.int (nI 0), .ref a0_tape, .int (nI 0), .ref a0_out, .int (nI v_a0_outs), .ref a0_slots, .ref a0_kept, .ref a0_phase, .ref a0_secret, .ref a0_key, .ref a0_hide, .ref a0_iv, .ref a0_begin, .ref a0_each, .ref a0_root, .ref a0_power, .ref a0_work, .ref a0_w, .ref a0_h, .ref a0_state, .ref a0_sum, .ref a0_pad, .ref a0_text, .int (nI v_a0_texts), .ref a0_info, .int (nI v_a0_infos), .ref a0_made, .ref a0_blockKey, .ref a0_nonce, .ref a0_x, .ref a0_first, .ref a0_block, .ref a0_a, .ref a0_r, .ref a0_product, .ref a0_tag, .ref a0_sealed]))]) := by
  refine vM.of (by decide) (Nat.le_of_ble_eq_true rfl) (fun C hCl hCD g R => ?_)
  subst hCl; subst hCD
  show VJ C 0 0 0 [(0, .ref a0)] [] [(a0, .inr (8, [.int (nI v_a0_thrown), .ref a0_tape, .int (nI v_a0_taped), .ref a0_out, .int (nI v_a0_outs), .ref a0_slots, .ref a0_kept, .ref a0_phase, .ref a0_secret, .ref a0_key, .ref a0_hide, .ref a0_iv, .ref a0_begin, .ref a0_each, .ref a0_root, .ref a0_power, .ref a0_work, .ref a0_w, .ref a0_h, .ref a0_state, .ref a0_sum, .ref a0_pad, .ref a0_text, .int (nI v_a0_texts), .ref a0_info, .int (nI v_a0_infos), .ref a0_made, .ref a0_blockKey, .ref a0_nonce, .ref a0_x, .ref a0_first, .ref a0_block, .ref a0_a, .ref a0_r, .ref a0_product, .ref a0_tag, .ref a0_sealed]))]
  refine v_aload_n g dX8_wipe_0 0 rfl 0 rfl ?_
  refine v_iconst g dX8_wipe_1 (v := nI 0) (by decide +kernel) ?_
  refine pf_X8_115 g dX8_wipe_2 0 [(a0, .inr (8, [.int (nI 0), .ref a0_tape, .int (nI v_a0_taped), .ref a0_out, .int (nI v_a0_outs), .ref a0_slots, .ref a0_kept, .ref a0_phase, .ref a0_secret, .ref a0_key, .ref a0_hide, .ref a0_iv, .ref a0_begin, .ref a0_each, .ref a0_root, .ref a0_power, .ref a0_work, .ref a0_w, .ref a0_h, .ref a0_state, .ref a0_sum, .ref a0_pad, .ref a0_text, .int (nI v_a0_texts), .ref a0_info, .int (nI v_a0_infos), .ref a0_made, .ref a0_blockKey, .ref a0_nonce, .ref a0_x, .ref a0_first, .ref a0_block, .ref a0_a, .ref a0_r, .ref a0_product, .ref a0_tag, .ref a0_sealed]))] rfl (Nat.le_of_ble_eq_true rfl) rfl ?_
  refine v_aload_n g dX8_wipe_5 0 rfl 0 rfl ?_
  refine gf_X8_215 g dX8_wipe_6 0 rfl rfl ?_
  refine v_istore_n g [(1, .int (nI v_a0_taped)), (0, .ref a0)] dX8_wipe_9 1 rfl (by decide) rfl ?_
  refine v_aload_n g dX8_wipe_10 0 rfl 1 rfl ?_
  refine v_iconst g dX8_wipe_11 (v := nI 0) (by decide +kernel) ?_
  refine pf_X8_215 g dX8_wipe_12 0 [(a0, .inr (8, [.int (nI 0), .ref a0_tape, .int (nI 0), .ref a0_out, .int (nI v_a0_outs), .ref a0_slots, .ref a0_kept, .ref a0_phase, .ref a0_secret, .ref a0_key, .ref a0_hide, .ref a0_iv, .ref a0_begin, .ref a0_each, .ref a0_root, .ref a0_power, .ref a0_work, .ref a0_w, .ref a0_h, .ref a0_state, .ref a0_sum, .ref a0_pad, .ref a0_text, .int (nI v_a0_texts), .ref a0_info, .int (nI v_a0_infos), .ref a0_made, .ref a0_blockKey, .ref a0_nonce, .ref a0_x, .ref a0_first, .ref a0_block, .ref a0_a, .ref a0_r, .ref a0_product, .ref a0_tag, .ref a0_sealed]))] rfl (Nat.le_of_ble_eq_true rfl) rfl ?_
  refine v_iload_n g dX8_wipe_15 1 rfl 0 rfl ?_
  exact v_iret g R dX8_wipe_16 (by decide) (by decide) ⟨rfl, rfl⟩
set_option maxHeartbeats 4000000 in
set_option maxRecDepth 100000 in
theorem m_keep0 (l : Launch) (D : va_G) (a0 : Nat) (p1 : Nat) (v_a0_thrown : Nat) (a0_tape : Nat) (v_a0_taped : Nat) (a0_out : Nat) (v_a0_outs : Nat) (a0_slots : Nat) (a0_kept : Nat) (a0_phase : Nat) (a0_secret : Nat) (a0_key : Nat) (a0_hide : Nat) (a0_iv : Nat) (a0_begin : Nat) (a0_each : Nat) (a0_root : Nat) (a0_power : Nat) (a0_work : Nat) (a0_w : Nat) (a0_h : Nat) (a0_state : Nat) (a0_sum : Nat) (a0_pad : Nat) (a0_text : Nat) (v_a0_texts : Nat) (a0_info : Nat) (v_a0_infos : Nat) (a0_made : Nat) (a0_blockKey : Nat) (a0_nonce : Nat) (a0_x : Nat) (a0_first : Nat) (a0_block : Nat) (a0_a : Nat) (a0_r : Nat) (a0_product : Nat) (a0_tag : Nat) (a0_sealed : Nat) (t_a0_tape : Nat → By) (t_a0_slots : Nat → By) (t_a0_kept : Nat → Nat)  (hs1 : p1 < 8) (h1 : v_a0_taped ≤ 128) : vM l D yX8_keep cX8_keep 5 (some .int) { frames := 1, cells := 0, slots := 0, locals := 22 } [.ref a0, .int (nI p1), .int (nI 0)] [(a0, .inr (8, [.int (nI v_a0_thrown), .ref a0_tape, .int (nI v_a0_taped), .ref a0_out, .int (nI v_a0_outs), .ref a0_slots, .ref a0_kept, .ref a0_phase, .ref a0_secret, .ref a0_key, .ref a0_hide, .ref a0_iv, .ref a0_begin, .ref a0_each, .ref a0_root, .ref a0_power, .ref a0_work, .ref a0_w, .ref a0_h, .ref a0_state, .ref a0_sum, .ref a0_pad, .ref a0_text, .int (nI v_a0_texts), .ref a0_info, .int (nI v_a0_infos), .ref a0_made, .ref a0_blockKey, .ref a0_nonce, .ref a0_x, .ref a0_first, .ref a0_block, .ref a0_a, .ref a0_r, .ref a0_product, .ref a0_tag, .ref a0_sealed])), (a0_tape, aY D 2048 t_a0_tape), (a0_slots, aY D 1024 t_a0_slots), (a0_kept, aN D 8 t_a0_kept)] (fun r wo => r = some (.int (nI v_a0_taped)) ∧ wo = [(a0, .inr (8, [.int (nI 0), .ref a0_tape, .int (nI 0), .ref a0_out, .int (nI v_a0_outs), .ref a0_slots, .ref a0_kept, .ref a0_phase, .ref a0_secret, .ref a0_key, .ref a0_hide, .ref a0_iv, .ref a0_begin, .ref a0_each, .ref a0_root, .ref a0_power, .ref a0_work, .ref a0_w, .ref a0_h, .ref a0_state, .ref a0_sum, .ref a0_pad, .ref a0_text, .int (nI v_a0_texts), .ref a0_info, .int (nI v_a0_infos), .ref a0_made, .ref a0_blockKey, .ref a0_nonce, .ref a0_x, .ref a0_first, .ref a0_block, .ref a0_a, .ref a0_r, .ref a0_product, .ref a0_tag, .ref a0_sealed])), (a0_tape, aY D 2048 t_a0_tape), (a0_slots, aY D 1024 (cpo t_a0_slots (128 * p1) v_a0_taped t_a0_tape)), (a0_kept, aN D 8 (va_up t_a0_kept p1 v_a0_taped))]) := by
  refine vM.of (by decide) (Nat.le_of_ble_eq_true rfl) (fun C hCl hCD g R => ?_)
  subst hCl; subst hCD
  show VJ C 0 0 0 [(0, .ref a0), (1, .int (nI p1)), (2, .int (nI 0))] [] [(a0, .inr (8, [.int (nI v_a0_thrown), .ref a0_tape, .int (nI v_a0_taped), .ref a0_out, .int (nI v_a0_outs), .ref a0_slots, .ref a0_kept, .ref a0_phase, .ref a0_secret, .ref a0_key, .ref a0_hide, .ref a0_iv, .ref a0_begin, .ref a0_each, .ref a0_root, .ref a0_power, .ref a0_work, .ref a0_w, .ref a0_h, .ref a0_state, .ref a0_sum, .ref a0_pad, .ref a0_text, .int (nI v_a0_texts), .ref a0_info, .int (nI v_a0_infos), .ref a0_made, .ref a0_blockKey, .ref a0_nonce, .ref a0_x, .ref a0_first, .ref a0_block, .ref a0_a, .ref a0_r, .ref a0_product, .ref a0_tag, .ref a0_sealed])), (a0_tape, aY C.D 2048 t_a0_tape), (a0_slots, aY C.D 1024 t_a0_slots), (a0_kept, aN C.D 8 t_a0_kept)]
  refine v_iload_n g dX8_keep_0 2 rfl 2 rfl ?_
  refine v_if_eqN g 11 dX8_keep_1 (by decide) (by decide) (fun _ => ?_) (fun h => absurd h (by decide))
  refine v_aload_n g dX8_keep_11 0 rfl 0 rfl ?_
  refine gf_X8_215 g dX8_keep_12 0 rfl rfl ?_
  refine v_istore_n g [(3, .int (nI v_a0_taped)), (0, .ref a0), (1, .int (nI p1)), (2, .int (nI 0))] dX8_keep_15 3 rfl (by decide) rfl ?_
  refine v_aload_n g dX8_keep_16 0 rfl 1 rfl ?_
  refine v_iload_n g dX8_keep_17 1 rfl 2 rfl ?_
  refine v_bipush g dX8_keep_18 (v := nI 8) (by decide +kernel) ?_
  refine v_callS (As := [.int (nI p1), .int (nI 8)]) (rest := [.ref a0]) (wr := [(a0, .inr (8, [.int (nI v_a0_thrown), .ref a0_tape, .int (nI v_a0_taped), .ref a0_out, .int (nI v_a0_outs), .ref a0_slots, .ref a0_kept, .ref a0_phase, .ref a0_secret, .ref a0_key, .ref a0_hide, .ref a0_iv, .ref a0_begin, .ref a0_each, .ref a0_root, .ref a0_power, .ref a0_work, .ref a0_w, .ref a0_h, .ref a0_state, .ref a0_sum, .ref a0_pad, .ref a0_text, .int (nI v_a0_texts), .ref a0_info, .int (nI v_a0_infos), .ref a0_made, .ref a0_blockKey, .ref a0_nonce, .ref a0_x, .ref a0_first, .ref a0_block, .ref a0_a, .ref a0_r, .ref a0_product, .ref a0_tag, .ref a0_sealed])), (a0_tape, aY C.D 2048 t_a0_tape), (a0_slots, aY C.D 1024 t_a0_slots), (a0_kept, aN C.D 8 t_a0_kept)]) cw_X8_221 (hy_X8_beyond) g (c_R_bey0 C.l C.D p1 8 (by omega) (by omega)) dX8_keep_20 rfl (by decide) (by decide) (Nat.le_of_ble_eq_true rfl) [] [0, 1, 2, 3] rfl rfl (by decide) rfl (by decide) (by decide) _ rfl (fun r wo hp1 => ?_)
  obtain ⟨rfl, rfl⟩ := hp1
  show VJ C 0 0 23 [(3, .int (nI v_a0_taped)), (0, .ref a0), (1, .int (nI p1)), (2, .int (nI 0))] [.int (nI 0), .ref a0] [(a0, .inr (8, [.int (nI v_a0_thrown), .ref a0_tape, .int (nI v_a0_taped), .ref a0_out, .int (nI v_a0_outs), .ref a0_slots, .ref a0_kept, .ref a0_phase, .ref a0_secret, .ref a0_key, .ref a0_hide, .ref a0_iv, .ref a0_begin, .ref a0_each, .ref a0_root, .ref a0_power, .ref a0_work, .ref a0_w, .ref a0_h, .ref a0_state, .ref a0_sum, .ref a0_pad, .ref a0_text, .int (nI v_a0_texts), .ref a0_info, .int (nI v_a0_infos), .ref a0_made, .ref a0_blockKey, .ref a0_nonce, .ref a0_x, .ref a0_first, .ref a0_block, .ref a0_a, .ref a0_r, .ref a0_product, .ref a0_tag, .ref a0_sealed])), (a0_tape, aY C.D 2048 t_a0_tape), (a0_slots, aY C.D 1024 t_a0_slots), (a0_kept, aN C.D 8 t_a0_kept)]
  refine v_iconst g dX8_keep_23 (v := nI 1) (by decide +kernel) ?_
  refine v_callV (As := [.int (nI 0), .int (nI 1)]) (rest := []) (wr := [(a0_tape, aY C.D 2048 t_a0_tape), (a0_slots, aY C.D 1024 t_a0_slots), (a0_kept, aN C.D 8 t_a0_kept)]) cw_X8_211 (hy_X8_fails) g (c_R_fail0 C.l C.D a0 1 v_a0_thrown a0_tape v_a0_taped a0_out v_a0_outs a0_slots a0_kept a0_phase a0_secret a0_key a0_hide a0_iv a0_begin a0_each a0_root a0_power a0_work a0_w a0_h a0_state a0_sum a0_pad a0_text v_a0_texts a0_info v_a0_infos a0_made a0_blockKey a0_nonce a0_x a0_first a0_block a0_a a0_r a0_product a0_tag a0_sealed ) dX8_keep_24 0 rfl rfl rfl (by decide) (by decide) (Nat.le_of_ble_eq_true rfl) [0] [1, 2, 3] rfl rfl (by decide) rfl (by decide) (by decide) _ rfl (fun r wo hp2 => ?_)
  obtain ⟨rfl, rfl⟩ := hp2
  refine v_perm [3, 0, 1, 2] [(a0, .inr (8, [.int (nI 0), .ref a0_tape, .int (nI v_a0_taped), .ref a0_out, .int (nI v_a0_outs), .ref a0_slots, .ref a0_kept, .ref a0_phase, .ref a0_secret, .ref a0_key, .ref a0_hide, .ref a0_iv, .ref a0_begin, .ref a0_each, .ref a0_root, .ref a0_power, .ref a0_work, .ref a0_w, .ref a0_h, .ref a0_state, .ref a0_sum, .ref a0_pad, .ref a0_text, .int (nI v_a0_texts), .ref a0_info, .int (nI v_a0_infos), .ref a0_made, .ref a0_blockKey, .ref a0_nonce, .ref a0_x, .ref a0_first, .ref a0_block, .ref a0_a, .ref a0_r, .ref a0_product, .ref a0_tag, .ref a0_sealed])), (a0_tape, aY C.D 2048 t_a0_tape), (a0_slots, aY C.D 1024 t_a0_slots), (a0_kept, aN C.D 8 t_a0_kept)] (by decide) rfl rfl ?_
  show VJ C 0 0 27 [(3, .int (nI v_a0_taped)), (0, .ref a0), (1, .int (nI p1)), (2, .int (nI 0))] [.int (nI 0)] [(a0, .inr (8, [.int (nI 0), .ref a0_tape, .int (nI v_a0_taped), .ref a0_out, .int (nI v_a0_outs), .ref a0_slots, .ref a0_kept, .ref a0_phase, .ref a0_secret, .ref a0_key, .ref a0_hide, .ref a0_iv, .ref a0_begin, .ref a0_each, .ref a0_root, .ref a0_power, .ref a0_work, .ref a0_w, .ref a0_h, .ref a0_state, .ref a0_sum, .ref a0_pad, .ref a0_text, .int (nI v_a0_texts), .ref a0_info, .int (nI v_a0_infos), .ref a0_made, .ref a0_blockKey, .ref a0_nonce, .ref a0_x, .ref a0_first, .ref a0_block, .ref a0_a, .ref a0_r, .ref a0_product, .ref a0_tag, .ref a0_sealed])), (a0_tape, aY C.D 2048 t_a0_tape), (a0_slots, aY C.D 1024 t_a0_slots), (a0_kept, aN C.D 8 t_a0_kept)]
  refine v_if_neN g 50 dX8_keep_27 (by decide) (by decide) (fun h => absurd h (by decide)) (fun _ => ?_)
  refine v_aload_n g dX8_keep_30 0 rfl 1 rfl ?_
  refine v_iload_n g dX8_keep_31 3 rfl 0 rfl ?_
  refine v_sipush g dX8_keep_32 (v := nI 128) (by decide +kernel) ?_
  refine v_icmp_leN g 42 dX8_keep_35 (by decide) (by omega) (by omega) (fun _ => ?_) (fun h => absurd h (by omega))
  refine v_iconst g dX8_keep_42 (v := nI 0) (by decide +kernel) ?_
  refine v_iconst g dX8_keep_43 (v := nI 2) (by decide +kernel) ?_
  refine v_callV (As := [.int (nI 0), .int (nI 2)]) (rest := []) (wr := [(a0_tape, aY C.D 2048 t_a0_tape), (a0_slots, aY C.D 1024 t_a0_slots), (a0_kept, aN C.D 8 t_a0_kept)]) cw_X8_211 (hy_X8_fails) g (c_R_fail0 C.l C.D a0 2 0 a0_tape v_a0_taped a0_out v_a0_outs a0_slots a0_kept a0_phase a0_secret a0_key a0_hide a0_iv a0_begin a0_each a0_root a0_power a0_work a0_w a0_h a0_state a0_sum a0_pad a0_text v_a0_texts a0_info v_a0_infos a0_made a0_blockKey a0_nonce a0_x a0_first a0_block a0_a a0_r a0_product a0_tag a0_sealed ) dX8_keep_44 0 rfl rfl rfl (by decide) (by decide) (Nat.le_of_ble_eq_true rfl) [0] [1, 2, 3] rfl rfl (by decide) rfl (by decide) (by decide) _ rfl (fun r wo hp3 => ?_)
  obtain ⟨rfl, rfl⟩ := hp3
  refine v_perm [3, 0, 1, 2] [(a0, .inr (8, [.int (nI 0), .ref a0_tape, .int (nI v_a0_taped), .ref a0_out, .int (nI v_a0_outs), .ref a0_slots, .ref a0_kept, .ref a0_phase, .ref a0_secret, .ref a0_key, .ref a0_hide, .ref a0_iv, .ref a0_begin, .ref a0_each, .ref a0_root, .ref a0_power, .ref a0_work, .ref a0_w, .ref a0_h, .ref a0_state, .ref a0_sum, .ref a0_pad, .ref a0_text, .int (nI v_a0_texts), .ref a0_info, .int (nI v_a0_infos), .ref a0_made, .ref a0_blockKey, .ref a0_nonce, .ref a0_x, .ref a0_first, .ref a0_block, .ref a0_a, .ref a0_r, .ref a0_product, .ref a0_tag, .ref a0_sealed])), (a0_tape, aY C.D 2048 t_a0_tape), (a0_slots, aY C.D 1024 t_a0_slots), (a0_kept, aN C.D 8 t_a0_kept)] (by decide) rfl rfl ?_
  show VJ C 0 0 47 [(3, .int (nI v_a0_taped)), (0, .ref a0), (1, .int (nI p1)), (2, .int (nI 0))] [.int (nI 0)] [(a0, .inr (8, [.int (nI 0), .ref a0_tape, .int (nI v_a0_taped), .ref a0_out, .int (nI v_a0_outs), .ref a0_slots, .ref a0_kept, .ref a0_phase, .ref a0_secret, .ref a0_key, .ref a0_hide, .ref a0_iv, .ref a0_begin, .ref a0_each, .ref a0_root, .ref a0_power, .ref a0_work, .ref a0_w, .ref a0_h, .ref a0_state, .ref a0_sum, .ref a0_pad, .ref a0_text, .int (nI v_a0_texts), .ref a0_info, .int (nI v_a0_infos), .ref a0_made, .ref a0_blockKey, .ref a0_nonce, .ref a0_x, .ref a0_first, .ref a0_block, .ref a0_a, .ref a0_r, .ref a0_product, .ref a0_tag, .ref a0_sealed])), (a0_tape, aY C.D 2048 t_a0_tape), (a0_slots, aY C.D 1024 t_a0_slots), (a0_kept, aN C.D 8 t_a0_kept)]
  refine v_if_eqN g 52 dX8_keep_47 (by decide) (by decide) (fun _ => ?_) (fun h => absurd h (by decide))
  refine v_iconst g dX8_keep_52 (v := nI 0) (by decide +kernel) ?_
  refine v_istore g [(4, .int (nI 0)), (3, .int (nI v_a0_taped)), (0, .ref a0), (1, .int (nI p1)), (2, .int (nI 0))] dX8_keep_53 (by decide) rfl ?_
  have L55_3 : ∀ i : Nat, i ≤ v_a0_taped → ∀ (ts : Nat → By), (ts = cpo t_a0_slots (128 * p1) i t_a0_tape) → VJ C 0 0 55 [(4, .int (nI i)), (3, .int (nI v_a0_taped)), (0, .ref a0), (1, .int (nI p1)), (2, .int (nI 0))] [] [(a0, .inr (8, [.int (nI 0), .ref a0_tape, .int (nI v_a0_taped), .ref a0_out, .int (nI v_a0_outs), .ref a0_slots, .ref a0_kept, .ref a0_phase, .ref a0_secret, .ref a0_key, .ref a0_hide, .ref a0_iv, .ref a0_begin, .ref a0_each, .ref a0_root, .ref a0_power, .ref a0_work, .ref a0_w, .ref a0_h, .ref a0_state, .ref a0_sum, .ref a0_pad, .ref a0_text, .int (nI v_a0_texts), .ref a0_info, .int (nI v_a0_infos), .ref a0_made, .ref a0_blockKey, .ref a0_nonce, .ref a0_x, .ref a0_first, .ref a0_block, .ref a0_a, .ref a0_r, .ref a0_product, .ref a0_tag, .ref a0_sealed])), (a0_tape, aY C.D 2048 t_a0_tape), (a0_slots, aY C.D 1024 ts), (a0_kept, aN C.D 8 t_a0_kept)] := by
    refine v_for (v_a0_taped) ?_ ?_
    · skip
      intro i hii ih ts hv0
      refine v_iload g dX8_keep_55 0 rfl ?_
      refine v_iload_n g dX8_keep_57 3 rfl 1 rfl ?_
      refine v_icmp_geN g 101 dX8_keep_58 (by decide) (by omega) (by omega) (fun h4 => ?_) (fun h4 => ?_)
      · skip
        exact absurd h4 (by omega)
      · skip
        refine v_aload_n g dX8_keep_61 0 rfl 2 rfl ?_
        refine gf_X8_16 g dX8_keep_62 0 rfl rfl ?_
        refine v_sipush g dX8_keep_65 (v := nI 128) (by decide +kernel) ?_
        refine v_iload_n g dX8_keep_68 1 rfl 3 rfl ?_
        refine v_imulN g dX8_keep_69 ?_
        refine v_iload g dX8_keep_70 0 rfl ?_
        refine v_iaddN g dX8_keep_72 ?_
        refine v_iload_n g dX8_keep_73 2 rfl 4 rfl ?_
        refine v_if_eqN g 87 dX8_keep_74 (by decide) (by decide) (fun _ => ?_) (fun h => absurd h (by decide))
        refine v_aload_n g dX8_keep_87 0 rfl 2 rfl ?_
        refine gf_X8_7 g dX8_keep_88 0 rfl rfl ?_
        refine v_iload g dX8_keep_91 0 rfl ?_
        refine v_ialdY g 1 rfl (by omega) (by decide) dX8_keep_93 ?_
        obtain ⟨t5, ht5⟩ : ∃ z : Nat → By, z = va_up ts ((128 * p1) + i) (t_a0_tape i) := ⟨_, rfl⟩
        refine v_iastY g ((t_a0_tape i)) rfl t5 ht5 2 [(a0, .inr (8, [.int (nI 0), .ref a0_tape, .int (nI v_a0_taped), .ref a0_out, .int (nI v_a0_outs), .ref a0_slots, .ref a0_kept, .ref a0_phase, .ref a0_secret, .ref a0_key, .ref a0_hide, .ref a0_iv, .ref a0_begin, .ref a0_each, .ref a0_root, .ref a0_power, .ref a0_work, .ref a0_w, .ref a0_h, .ref a0_state, .ref a0_sum, .ref a0_pad, .ref a0_text, .int (nI v_a0_texts), .ref a0_info, .int (nI v_a0_infos), .ref a0_made, .ref a0_blockKey, .ref a0_nonce, .ref a0_x, .ref a0_first, .ref a0_block, .ref a0_a, .ref a0_r, .ref a0_product, .ref a0_tag, .ref a0_sealed])), (a0_tape, aY C.D 2048 t_a0_tape), (a0_slots, aY C.D 1024 t5), (a0_kept, aN C.D 8 t_a0_kept)] rfl (by omega) (by decide) dX8_keep_94 rfl ?_
        refine v_iincN g 1 [(4, .int (nI (i + 1))), (3, .int (nI v_a0_taped)), (0, .ref a0), (1, .int (nI p1)), (2, .int (nI 0))] dX8_keep_95 0 rfl (by decide +kernel) (by decide) rfl ?_
        refine v_goto g 55 dX8_keep_98 (by decide) ?_
        exact ih t5 (by rw [ht5, hv0]; exact cpo_s _ _ _ _)
    · skip
      intro ts hv0
      refine v_iload g dX8_keep_55 0 rfl ?_
      refine v_iload_n g dX8_keep_57 3 rfl 1 rfl ?_
      refine v_icmp_geN g 101 dX8_keep_58 (by decide) (by omega) (by omega) (fun h6 => ?_) (fun h6 => ?_)
      · skip
        subst hv0
        refine v_aload_n g dX8_keep_101 0 rfl 2 rfl ?_
        refine gf_X8_19 g dX8_keep_102 0 rfl rfl ?_
        refine v_iload_n g dX8_keep_105 1 rfl 3 rfl ?_
        refine v_iload_n g dX8_keep_106 3 rfl 1 rfl ?_
        obtain ⟨t7, ht7⟩ : ∃ z : Nat → Nat, z = va_up t_a0_kept p1 v_a0_taped := ⟨_, rfl⟩
        refine v_iastN g (v_a0_taped) rfl t7 ht7 3 [(a0, .inr (8, [.int (nI 0), .ref a0_tape, .int (nI v_a0_taped), .ref a0_out, .int (nI v_a0_outs), .ref a0_slots, .ref a0_kept, .ref a0_phase, .ref a0_secret, .ref a0_key, .ref a0_hide, .ref a0_iv, .ref a0_begin, .ref a0_each, .ref a0_root, .ref a0_power, .ref a0_work, .ref a0_w, .ref a0_h, .ref a0_state, .ref a0_sum, .ref a0_pad, .ref a0_text, .int (nI v_a0_texts), .ref a0_info, .int (nI v_a0_infos), .ref a0_made, .ref a0_blockKey, .ref a0_nonce, .ref a0_x, .ref a0_first, .ref a0_block, .ref a0_a, .ref a0_r, .ref a0_product, .ref a0_tag, .ref a0_sealed])), (a0_tape, aY C.D 2048 t_a0_tape), (a0_slots, aY C.D 1024 (cpo t_a0_slots (128 * p1) v_a0_taped t_a0_tape)), (a0_kept, aN C.D 8 t7)] rfl (by omega) (by decide) dX8_keep_107 rfl ?_
        subst ht7
        refine v_iload_n g dX8_keep_108 2 rfl 4 rfl ?_
        refine v_if_neN g 117 dX8_keep_109 (by decide) (by decide) (fun h => absurd h (by decide)) (fun _ => ?_)
        refine v_aload_n g dX8_keep_112 0 rfl 2 rfl ?_
        refine v_iconst g dX8_keep_113 (v := nI 0) (by decide +kernel) ?_
        refine pf_X8_215 g dX8_keep_114 0 [(a0, .inr (8, [.int (nI 0), .ref a0_tape, .int (nI 0), .ref a0_out, .int (nI v_a0_outs), .ref a0_slots, .ref a0_kept, .ref a0_phase, .ref a0_secret, .ref a0_key, .ref a0_hide, .ref a0_iv, .ref a0_begin, .ref a0_each, .ref a0_root, .ref a0_power, .ref a0_work, .ref a0_w, .ref a0_h, .ref a0_state, .ref a0_sum, .ref a0_pad, .ref a0_text, .int (nI v_a0_texts), .ref a0_info, .int (nI v_a0_infos), .ref a0_made, .ref a0_blockKey, .ref a0_nonce, .ref a0_x, .ref a0_first, .ref a0_block, .ref a0_a, .ref a0_r, .ref a0_product, .ref a0_tag, .ref a0_sealed])), (a0_tape, aY C.D 2048 t_a0_tape), (a0_slots, aY C.D 1024 (cpo t_a0_slots (128 * p1) v_a0_taped t_a0_tape)), (a0_kept, aN C.D 8 (va_up t_a0_kept p1 v_a0_taped))] rfl (Nat.le_of_ble_eq_true rfl) rfl ?_
        refine v_iload_n g dX8_keep_117 3 rfl 1 rfl ?_
        exact v_iret g R dX8_keep_118 (by decide) (by decide) ⟨rfl, rfl⟩
      · skip
        exact absurd h6 (by omega)
  exact L55_3 0 (by omega) t_a0_slots ((cpo_0 _ _ _).symm)
set_option maxHeartbeats 4000000 in
set_option maxRecDepth 100000 in
theorem f_keepA0 (l : Launch) (D : va_G) (a0 : Nat) (p1 : Int32) (v_a0_thrown : Nat) (a0_tape : Nat) (v_a0_taped : Nat) (a0_out : Nat) (v_a0_outs : Nat) (a0_slots : Nat) (a0_kept : Nat) (a0_phase : Nat) (a0_secret : Nat) (a0_key : Nat) (a0_hide : Nat) (a0_iv : Nat) (a0_begin : Nat) (a0_each : Nat) (a0_root : Nat) (a0_power : Nat) (a0_work : Nat) (a0_w : Nat) (a0_h : Nat) (a0_state : Nat) (a0_sum : Nat) (a0_pad : Nat) (a0_text : Nat) (v_a0_texts : Nat) (a0_info : Nat) (v_a0_infos : Nat) (a0_made : Nat) (a0_blockKey : Nat) (a0_nonce : Nat) (a0_x : Nat) (a0_first : Nat) (a0_block : Nat) (a0_a : Nat) (a0_r : Nat) (a0_product : Nat) (a0_tag : Nat) (a0_sealed : Nat)  (h0 : p1 < 0 ∨ nI 8 ≤ p1) : vM l D yX8_keep cX8_keep 5 (some .int) { frames := 1, cells := 0, slots := 0, locals := 22 } [.ref a0, .int p1, .int (nI 0)] [(a0, .inr (8, [.int (nI v_a0_thrown), .ref a0_tape, .int (nI v_a0_taped), .ref a0_out, .int (nI v_a0_outs), .ref a0_slots, .ref a0_kept, .ref a0_phase, .ref a0_secret, .ref a0_key, .ref a0_hide, .ref a0_iv, .ref a0_begin, .ref a0_each, .ref a0_root, .ref a0_power, .ref a0_work, .ref a0_w, .ref a0_h, .ref a0_state, .ref a0_sum, .ref a0_pad, .ref a0_text, .int (nI v_a0_texts), .ref a0_info, .int (nI v_a0_infos), .ref a0_made, .ref a0_blockKey, .ref a0_nonce, .ref a0_x, .ref a0_first, .ref a0_block, .ref a0_a, .ref a0_r, .ref a0_product, .ref a0_tag, .ref a0_sealed]))] (fun r wo => r = some (.int (nI 0)) ∧ wo = [(a0, .inr (8, [.int (nI 1), .ref a0_tape, .int (nI v_a0_taped), .ref a0_out, .int (nI v_a0_outs), .ref a0_slots, .ref a0_kept, .ref a0_phase, .ref a0_secret, .ref a0_key, .ref a0_hide, .ref a0_iv, .ref a0_begin, .ref a0_each, .ref a0_root, .ref a0_power, .ref a0_work, .ref a0_w, .ref a0_h, .ref a0_state, .ref a0_sum, .ref a0_pad, .ref a0_text, .int (nI v_a0_texts), .ref a0_info, .int (nI v_a0_infos), .ref a0_made, .ref a0_blockKey, .ref a0_nonce, .ref a0_x, .ref a0_first, .ref a0_block, .ref a0_a, .ref a0_r, .ref a0_product, .ref a0_tag, .ref a0_sealed]))]) := by
  refine vM.of (by decide) (Nat.le_of_ble_eq_true rfl) (fun C hCl hCD g R => ?_)
  subst hCl; subst hCD
  show VJ C 0 0 0 [(0, .ref a0), (1, .int p1), (2, .int (nI 0))] [] [(a0, .inr (8, [.int (nI v_a0_thrown), .ref a0_tape, .int (nI v_a0_taped), .ref a0_out, .int (nI v_a0_outs), .ref a0_slots, .ref a0_kept, .ref a0_phase, .ref a0_secret, .ref a0_key, .ref a0_hide, .ref a0_iv, .ref a0_begin, .ref a0_each, .ref a0_root, .ref a0_power, .ref a0_work, .ref a0_w, .ref a0_h, .ref a0_state, .ref a0_sum, .ref a0_pad, .ref a0_text, .int (nI v_a0_texts), .ref a0_info, .int (nI v_a0_infos), .ref a0_made, .ref a0_blockKey, .ref a0_nonce, .ref a0_x, .ref a0_first, .ref a0_block, .ref a0_a, .ref a0_r, .ref a0_product, .ref a0_tag, .ref a0_sealed]))]
  refine v_iload_n g dX8_keep_0 2 rfl 2 rfl ?_
  refine v_if_eqN g 11 dX8_keep_1 (by decide) (by decide) (fun _ => ?_) (fun h => absurd h (by decide))
  refine v_aload_n g dX8_keep_11 0 rfl 0 rfl ?_
  refine gf_X8_215 g dX8_keep_12 0 rfl rfl ?_
  refine v_istore_n g [(3, .int (nI v_a0_taped)), (0, .ref a0), (1, .int p1), (2, .int (nI 0))] dX8_keep_15 3 rfl (by decide) rfl ?_
  refine v_aload_n g dX8_keep_16 0 rfl 1 rfl ?_
  refine v_iload_n g dX8_keep_17 1 rfl 2 rfl ?_
  refine v_bipush g dX8_keep_18 (v := nI 8) (by decide +kernel) ?_
  refine v_callS (As := [.int p1, .int (nI 8)]) (rest := [.ref a0]) (wr := [(a0, .inr (8, [.int (nI v_a0_thrown), .ref a0_tape, .int (nI v_a0_taped), .ref a0_out, .int (nI v_a0_outs), .ref a0_slots, .ref a0_kept, .ref a0_phase, .ref a0_secret, .ref a0_key, .ref a0_hide, .ref a0_iv, .ref a0_begin, .ref a0_each, .ref a0_root, .ref a0_power, .ref a0_work, .ref a0_w, .ref a0_h, .ref a0_state, .ref a0_sum, .ref a0_pad, .ref a0_text, .int (nI v_a0_texts), .ref a0_info, .int (nI v_a0_infos), .ref a0_made, .ref a0_blockKey, .ref a0_nonce, .ref a0_x, .ref a0_first, .ref a0_block, .ref a0_a, .ref a0_r, .ref a0_product, .ref a0_tag, .ref a0_sealed]))]) cw_X8_221 (hy_X8_beyond) g (c_R_bey1 C.l C.D p1 8 h0) dX8_keep_20 rfl (by decide) (by decide) (Nat.le_of_ble_eq_true rfl) [] [0] rfl rfl (by decide) rfl (by decide) (by decide) _ rfl (fun r wo hp1 => ?_)
  obtain ⟨rfl, rfl⟩ := hp1
  show VJ C 0 0 23 [(3, .int (nI v_a0_taped)), (0, .ref a0), (1, .int p1), (2, .int (nI 0))] [.int (nI 1), .ref a0] [(a0, .inr (8, [.int (nI v_a0_thrown), .ref a0_tape, .int (nI v_a0_taped), .ref a0_out, .int (nI v_a0_outs), .ref a0_slots, .ref a0_kept, .ref a0_phase, .ref a0_secret, .ref a0_key, .ref a0_hide, .ref a0_iv, .ref a0_begin, .ref a0_each, .ref a0_root, .ref a0_power, .ref a0_work, .ref a0_w, .ref a0_h, .ref a0_state, .ref a0_sum, .ref a0_pad, .ref a0_text, .int (nI v_a0_texts), .ref a0_info, .int (nI v_a0_infos), .ref a0_made, .ref a0_blockKey, .ref a0_nonce, .ref a0_x, .ref a0_first, .ref a0_block, .ref a0_a, .ref a0_r, .ref a0_product, .ref a0_tag, .ref a0_sealed]))]
  refine v_iconst g dX8_keep_23 (v := nI 1) (by decide +kernel) ?_
  refine v_callV (As := [.int (nI 1), .int (nI 1)]) (rest := []) (wr := []) cw_X8_211 (hy_X8_fails) g (c_R_fail1 C.l C.D a0 1 v_a0_thrown a0_tape v_a0_taped a0_out v_a0_outs a0_slots a0_kept a0_phase a0_secret a0_key a0_hide a0_iv a0_begin a0_each a0_root a0_power a0_work a0_w a0_h a0_state a0_sum a0_pad a0_text v_a0_texts a0_info v_a0_infos a0_made a0_blockKey a0_nonce a0_x a0_first a0_block a0_a a0_r a0_product a0_tag a0_sealed ) dX8_keep_24 0 rfl rfl rfl (by decide) (by decide) (Nat.le_of_ble_eq_true rfl) [0] [] rfl rfl (by decide) rfl (by decide) (by decide) _ rfl (fun r wo hp2 => ?_)
  obtain ⟨rfl, rfl⟩ := hp2
  show VJ C 0 0 27 [(3, .int (nI v_a0_taped)), (0, .ref a0), (1, .int p1), (2, .int (nI 0))] [.int (nI 1)] [(a0, .inr (8, [.int (nI 1), .ref a0_tape, .int (nI v_a0_taped), .ref a0_out, .int (nI v_a0_outs), .ref a0_slots, .ref a0_kept, .ref a0_phase, .ref a0_secret, .ref a0_key, .ref a0_hide, .ref a0_iv, .ref a0_begin, .ref a0_each, .ref a0_root, .ref a0_power, .ref a0_work, .ref a0_w, .ref a0_h, .ref a0_state, .ref a0_sum, .ref a0_pad, .ref a0_text, .int (nI v_a0_texts), .ref a0_info, .int (nI v_a0_infos), .ref a0_made, .ref a0_blockKey, .ref a0_nonce, .ref a0_x, .ref a0_first, .ref a0_block, .ref a0_a, .ref a0_r, .ref a0_product, .ref a0_tag, .ref a0_sealed]))]
  refine v_if_neN g 50 dX8_keep_27 (by decide) (by decide) (fun _ => ?_) (fun h => absurd h (by decide))
  refine v_iconst g dX8_keep_50 (v := nI 0) (by decide +kernel) ?_
  exact v_iret g R dX8_keep_51 (by decide) (by decide) ⟨rfl, rfl⟩
set_option maxHeartbeats 4000000 in
set_option maxRecDepth 100000 in
theorem f_keepB0 (l : Launch) (D : va_G) (a0 : Nat) (p1 : Nat) (v_a0_thrown : Nat) (a0_tape : Nat) (v_a0_taped : Nat) (a0_out : Nat) (v_a0_outs : Nat) (a0_slots : Nat) (a0_kept : Nat) (a0_phase : Nat) (a0_secret : Nat) (a0_key : Nat) (a0_hide : Nat) (a0_iv : Nat) (a0_begin : Nat) (a0_each : Nat) (a0_root : Nat) (a0_power : Nat) (a0_work : Nat) (a0_w : Nat) (a0_h : Nat) (a0_state : Nat) (a0_sum : Nat) (a0_pad : Nat) (a0_text : Nat) (v_a0_texts : Nat) (a0_info : Nat) (v_a0_infos : Nat) (a0_made : Nat) (a0_blockKey : Nat) (a0_nonce : Nat) (a0_x : Nat) (a0_first : Nat) (a0_block : Nat) (a0_a : Nat) (a0_r : Nat) (a0_product : Nat) (a0_tag : Nat) (a0_sealed : Nat)  (hs1 : p1 < 8) (h1 : 128 < v_a0_taped) (hT : v_a0_taped ≤ 2048) : vM l D yX8_keep cX8_keep 5 (some .int) { frames := 1, cells := 0, slots := 0, locals := 22 } [.ref a0, .int (nI p1), .int (nI 0)] [(a0, .inr (8, [.int (nI v_a0_thrown), .ref a0_tape, .int (nI v_a0_taped), .ref a0_out, .int (nI v_a0_outs), .ref a0_slots, .ref a0_kept, .ref a0_phase, .ref a0_secret, .ref a0_key, .ref a0_hide, .ref a0_iv, .ref a0_begin, .ref a0_each, .ref a0_root, .ref a0_power, .ref a0_work, .ref a0_w, .ref a0_h, .ref a0_state, .ref a0_sum, .ref a0_pad, .ref a0_text, .int (nI v_a0_texts), .ref a0_info, .int (nI v_a0_infos), .ref a0_made, .ref a0_blockKey, .ref a0_nonce, .ref a0_x, .ref a0_first, .ref a0_block, .ref a0_a, .ref a0_r, .ref a0_product, .ref a0_tag, .ref a0_sealed]))] (fun r wo => r = some (.int (nI 0)) ∧ wo = [(a0, .inr (8, [.int (nI 2), .ref a0_tape, .int (nI v_a0_taped), .ref a0_out, .int (nI v_a0_outs), .ref a0_slots, .ref a0_kept, .ref a0_phase, .ref a0_secret, .ref a0_key, .ref a0_hide, .ref a0_iv, .ref a0_begin, .ref a0_each, .ref a0_root, .ref a0_power, .ref a0_work, .ref a0_w, .ref a0_h, .ref a0_state, .ref a0_sum, .ref a0_pad, .ref a0_text, .int (nI v_a0_texts), .ref a0_info, .int (nI v_a0_infos), .ref a0_made, .ref a0_blockKey, .ref a0_nonce, .ref a0_x, .ref a0_first, .ref a0_block, .ref a0_a, .ref a0_r, .ref a0_product, .ref a0_tag, .ref a0_sealed]))]) := by
  refine vM.of (by decide) (Nat.le_of_ble_eq_true rfl) (fun C hCl hCD g R => ?_)
  subst hCl; subst hCD
  show VJ C 0 0 0 [(0, .ref a0), (1, .int (nI p1)), (2, .int (nI 0))] [] [(a0, .inr (8, [.int (nI v_a0_thrown), .ref a0_tape, .int (nI v_a0_taped), .ref a0_out, .int (nI v_a0_outs), .ref a0_slots, .ref a0_kept, .ref a0_phase, .ref a0_secret, .ref a0_key, .ref a0_hide, .ref a0_iv, .ref a0_begin, .ref a0_each, .ref a0_root, .ref a0_power, .ref a0_work, .ref a0_w, .ref a0_h, .ref a0_state, .ref a0_sum, .ref a0_pad, .ref a0_text, .int (nI v_a0_texts), .ref a0_info, .int (nI v_a0_infos), .ref a0_made, .ref a0_blockKey, .ref a0_nonce, .ref a0_x, .ref a0_first, .ref a0_block, .ref a0_a, .ref a0_r, .ref a0_product, .ref a0_tag, .ref a0_sealed]))]
  refine v_iload_n g dX8_keep_0 2 rfl 2 rfl ?_
  refine v_if_eqN g 11 dX8_keep_1 (by decide) (by decide) (fun _ => ?_) (fun h => absurd h (by decide))
  refine v_aload_n g dX8_keep_11 0 rfl 0 rfl ?_
  refine gf_X8_215 g dX8_keep_12 0 rfl rfl ?_
  refine v_istore_n g [(3, .int (nI v_a0_taped)), (0, .ref a0), (1, .int (nI p1)), (2, .int (nI 0))] dX8_keep_15 3 rfl (by decide) rfl ?_
  refine v_aload_n g dX8_keep_16 0 rfl 1 rfl ?_
  refine v_iload_n g dX8_keep_17 1 rfl 2 rfl ?_
  refine v_bipush g dX8_keep_18 (v := nI 8) (by decide +kernel) ?_
  refine v_callS (As := [.int (nI p1), .int (nI 8)]) (rest := [.ref a0]) (wr := [(a0, .inr (8, [.int (nI v_a0_thrown), .ref a0_tape, .int (nI v_a0_taped), .ref a0_out, .int (nI v_a0_outs), .ref a0_slots, .ref a0_kept, .ref a0_phase, .ref a0_secret, .ref a0_key, .ref a0_hide, .ref a0_iv, .ref a0_begin, .ref a0_each, .ref a0_root, .ref a0_power, .ref a0_work, .ref a0_w, .ref a0_h, .ref a0_state, .ref a0_sum, .ref a0_pad, .ref a0_text, .int (nI v_a0_texts), .ref a0_info, .int (nI v_a0_infos), .ref a0_made, .ref a0_blockKey, .ref a0_nonce, .ref a0_x, .ref a0_first, .ref a0_block, .ref a0_a, .ref a0_r, .ref a0_product, .ref a0_tag, .ref a0_sealed]))]) cw_X8_221 (hy_X8_beyond) g (c_R_bey0 C.l C.D p1 8 (by omega) (by omega)) dX8_keep_20 rfl (by decide) (by decide) (Nat.le_of_ble_eq_true rfl) [] [0] rfl rfl (by decide) rfl (by decide) (by decide) _ rfl (fun r wo hp1 => ?_)
  obtain ⟨rfl, rfl⟩ := hp1
  show VJ C 0 0 23 [(3, .int (nI v_a0_taped)), (0, .ref a0), (1, .int (nI p1)), (2, .int (nI 0))] [.int (nI 0), .ref a0] [(a0, .inr (8, [.int (nI v_a0_thrown), .ref a0_tape, .int (nI v_a0_taped), .ref a0_out, .int (nI v_a0_outs), .ref a0_slots, .ref a0_kept, .ref a0_phase, .ref a0_secret, .ref a0_key, .ref a0_hide, .ref a0_iv, .ref a0_begin, .ref a0_each, .ref a0_root, .ref a0_power, .ref a0_work, .ref a0_w, .ref a0_h, .ref a0_state, .ref a0_sum, .ref a0_pad, .ref a0_text, .int (nI v_a0_texts), .ref a0_info, .int (nI v_a0_infos), .ref a0_made, .ref a0_blockKey, .ref a0_nonce, .ref a0_x, .ref a0_first, .ref a0_block, .ref a0_a, .ref a0_r, .ref a0_product, .ref a0_tag, .ref a0_sealed]))]
  refine v_iconst g dX8_keep_23 (v := nI 1) (by decide +kernel) ?_
  refine v_callV (As := [.int (nI 0), .int (nI 1)]) (rest := []) (wr := []) cw_X8_211 (hy_X8_fails) g (c_R_fail0 C.l C.D a0 1 v_a0_thrown a0_tape v_a0_taped a0_out v_a0_outs a0_slots a0_kept a0_phase a0_secret a0_key a0_hide a0_iv a0_begin a0_each a0_root a0_power a0_work a0_w a0_h a0_state a0_sum a0_pad a0_text v_a0_texts a0_info v_a0_infos a0_made a0_blockKey a0_nonce a0_x a0_first a0_block a0_a a0_r a0_product a0_tag a0_sealed ) dX8_keep_24 0 rfl rfl rfl (by decide) (by decide) (Nat.le_of_ble_eq_true rfl) [0] [] rfl rfl (by decide) rfl (by decide) (by decide) _ rfl (fun r wo hp2 => ?_)
  obtain ⟨rfl, rfl⟩ := hp2
  show VJ C 0 0 27 [(3, .int (nI v_a0_taped)), (0, .ref a0), (1, .int (nI p1)), (2, .int (nI 0))] [.int (nI 0)] [(a0, .inr (8, [.int (nI 0), .ref a0_tape, .int (nI v_a0_taped), .ref a0_out, .int (nI v_a0_outs), .ref a0_slots, .ref a0_kept, .ref a0_phase, .ref a0_secret, .ref a0_key, .ref a0_hide, .ref a0_iv, .ref a0_begin, .ref a0_each, .ref a0_root, .ref a0_power, .ref a0_work, .ref a0_w, .ref a0_h, .ref a0_state, .ref a0_sum, .ref a0_pad, .ref a0_text, .int (nI v_a0_texts), .ref a0_info, .int (nI v_a0_infos), .ref a0_made, .ref a0_blockKey, .ref a0_nonce, .ref a0_x, .ref a0_first, .ref a0_block, .ref a0_a, .ref a0_r, .ref a0_product, .ref a0_tag, .ref a0_sealed]))]
  refine v_if_neN g 50 dX8_keep_27 (by decide) (by decide) (fun h => absurd h (by decide)) (fun _ => ?_)
  refine v_aload_n g dX8_keep_30 0 rfl 1 rfl ?_
  refine v_iload_n g dX8_keep_31 3 rfl 0 rfl ?_
  refine v_sipush g dX8_keep_32 (v := nI 128) (by decide +kernel) ?_
  refine v_icmp_leN g 42 dX8_keep_35 (by decide) (by omega) (by omega) (fun h => absurd h (by omega)) (fun _ => ?_)
  refine v_iconst g dX8_keep_38 (v := nI 1) (by decide +kernel) ?_
  refine v_goto g 43 dX8_keep_39 (by decide) ?_
  refine v_iconst g dX8_keep_43 (v := nI 2) (by decide +kernel) ?_
  refine v_callV (As := [.int (nI 1), .int (nI 2)]) (rest := []) (wr := []) cw_X8_211 (hy_X8_fails) g (c_R_fail1 C.l C.D a0 2 0 a0_tape v_a0_taped a0_out v_a0_outs a0_slots a0_kept a0_phase a0_secret a0_key a0_hide a0_iv a0_begin a0_each a0_root a0_power a0_work a0_w a0_h a0_state a0_sum a0_pad a0_text v_a0_texts a0_info v_a0_infos a0_made a0_blockKey a0_nonce a0_x a0_first a0_block a0_a a0_r a0_product a0_tag a0_sealed ) dX8_keep_44 0 rfl rfl rfl (by decide) (by decide) (Nat.le_of_ble_eq_true rfl) [0] [] rfl rfl (by decide) rfl (by decide) (by decide) _ rfl (fun r wo hp3 => ?_)
  obtain ⟨rfl, rfl⟩ := hp3
  show VJ C 0 0 47 [(3, .int (nI v_a0_taped)), (0, .ref a0), (1, .int (nI p1)), (2, .int (nI 0))] [.int (nI 1)] [(a0, .inr (8, [.int (nI 2), .ref a0_tape, .int (nI v_a0_taped), .ref a0_out, .int (nI v_a0_outs), .ref a0_slots, .ref a0_kept, .ref a0_phase, .ref a0_secret, .ref a0_key, .ref a0_hide, .ref a0_iv, .ref a0_begin, .ref a0_each, .ref a0_root, .ref a0_power, .ref a0_work, .ref a0_w, .ref a0_h, .ref a0_state, .ref a0_sum, .ref a0_pad, .ref a0_text, .int (nI v_a0_texts), .ref a0_info, .int (nI v_a0_infos), .ref a0_made, .ref a0_blockKey, .ref a0_nonce, .ref a0_x, .ref a0_first, .ref a0_block, .ref a0_a, .ref a0_r, .ref a0_product, .ref a0_tag, .ref a0_sealed]))]
  refine v_if_eqN g 52 dX8_keep_47 (by decide) (by decide) (fun h => absurd h (by decide)) (fun _ => ?_)
  refine v_iconst g dX8_keep_50 (v := nI 0) (by decide +kernel) ?_
  exact v_iret g R dX8_keep_51 (by decide) (by decide) ⟨rfl, rfl⟩
set_option maxHeartbeats 4000000 in
set_option maxRecDepth 100000 in
theorem m_keep1 (l : Launch) (D : va_G) (a0 : Nat) (p1 : Nat) (v_a0_thrown : Nat) (a0_tape : Nat) (v_a0_taped : Nat) (a0_out : Nat) (v_a0_outs : Nat) (a0_slots : Nat) (a0_kept : Nat) (a0_phase : Nat) (a0_secret : Nat) (a0_key : Nat) (a0_hide : Nat) (a0_iv : Nat) (a0_begin : Nat) (a0_each : Nat) (a0_root : Nat) (a0_power : Nat) (a0_work : Nat) (a0_w : Nat) (a0_h : Nat) (a0_state : Nat) (a0_sum : Nat) (a0_pad : Nat) (a0_text : Nat) (v_a0_texts : Nat) (a0_info : Nat) (v_a0_infos : Nat) (a0_made : Nat) (a0_blockKey : Nat) (a0_nonce : Nat) (a0_x : Nat) (a0_first : Nat) (a0_block : Nat) (a0_a : Nat) (a0_r : Nat) (a0_product : Nat) (a0_tag : Nat) (a0_sealed : Nat) (t_a0_out : Nat → By) (t_a0_slots : Nat → By) (t_a0_kept : Nat → Nat)  (hs1 : p1 < 8) (h1 : v_a0_outs ≤ 128) : vM l D yX8_keep cX8_keep 5 (some .int) { frames := 1, cells := 0, slots := 0, locals := 22 } [.ref a0, .int (nI p1), .int (nI 1)] [(a0, .inr (8, [.int (nI v_a0_thrown), .ref a0_tape, .int (nI v_a0_taped), .ref a0_out, .int (nI v_a0_outs), .ref a0_slots, .ref a0_kept, .ref a0_phase, .ref a0_secret, .ref a0_key, .ref a0_hide, .ref a0_iv, .ref a0_begin, .ref a0_each, .ref a0_root, .ref a0_power, .ref a0_work, .ref a0_w, .ref a0_h, .ref a0_state, .ref a0_sum, .ref a0_pad, .ref a0_text, .int (nI v_a0_texts), .ref a0_info, .int (nI v_a0_infos), .ref a0_made, .ref a0_blockKey, .ref a0_nonce, .ref a0_x, .ref a0_first, .ref a0_block, .ref a0_a, .ref a0_r, .ref a0_product, .ref a0_tag, .ref a0_sealed])), (a0_out, aY D 2064 t_a0_out), (a0_slots, aY D 1024 t_a0_slots), (a0_kept, aN D 8 t_a0_kept)] (fun r wo => r = some (.int (nI v_a0_outs)) ∧ wo = [(a0, .inr (8, [.int (nI 0), .ref a0_tape, .int (nI v_a0_taped), .ref a0_out, .int (nI v_a0_outs), .ref a0_slots, .ref a0_kept, .ref a0_phase, .ref a0_secret, .ref a0_key, .ref a0_hide, .ref a0_iv, .ref a0_begin, .ref a0_each, .ref a0_root, .ref a0_power, .ref a0_work, .ref a0_w, .ref a0_h, .ref a0_state, .ref a0_sum, .ref a0_pad, .ref a0_text, .int (nI v_a0_texts), .ref a0_info, .int (nI v_a0_infos), .ref a0_made, .ref a0_blockKey, .ref a0_nonce, .ref a0_x, .ref a0_first, .ref a0_block, .ref a0_a, .ref a0_r, .ref a0_product, .ref a0_tag, .ref a0_sealed])), (a0_out, aY D 2064 t_a0_out), (a0_slots, aY D 1024 (cpo t_a0_slots (128 * p1) v_a0_outs t_a0_out)), (a0_kept, aN D 8 (va_up t_a0_kept p1 v_a0_outs))]) := by
  refine vM.of (by decide) (Nat.le_of_ble_eq_true rfl) (fun C hCl hCD g R => ?_)
  subst hCl; subst hCD
  show VJ C 0 0 0 [(0, .ref a0), (1, .int (nI p1)), (2, .int (nI 1))] [] [(a0, .inr (8, [.int (nI v_a0_thrown), .ref a0_tape, .int (nI v_a0_taped), .ref a0_out, .int (nI v_a0_outs), .ref a0_slots, .ref a0_kept, .ref a0_phase, .ref a0_secret, .ref a0_key, .ref a0_hide, .ref a0_iv, .ref a0_begin, .ref a0_each, .ref a0_root, .ref a0_power, .ref a0_work, .ref a0_w, .ref a0_h, .ref a0_state, .ref a0_sum, .ref a0_pad, .ref a0_text, .int (nI v_a0_texts), .ref a0_info, .int (nI v_a0_infos), .ref a0_made, .ref a0_blockKey, .ref a0_nonce, .ref a0_x, .ref a0_first, .ref a0_block, .ref a0_a, .ref a0_r, .ref a0_product, .ref a0_tag, .ref a0_sealed])), (a0_out, aY C.D 2064 t_a0_out), (a0_slots, aY C.D 1024 t_a0_slots), (a0_kept, aN C.D 8 t_a0_kept)]
  refine v_iload_n g dX8_keep_0 2 rfl 2 rfl ?_
  refine v_if_eqN g 11 dX8_keep_1 (by decide) (by decide) (fun h => absurd h (by decide)) (fun _ => ?_)
  refine v_aload_n g dX8_keep_4 0 rfl 0 rfl ?_
  refine gf_X8_218 g dX8_keep_5 0 rfl rfl ?_
  refine v_goto g 15 dX8_keep_8 (by decide) ?_
  refine v_istore_n g [(3, .int (nI v_a0_outs)), (0, .ref a0), (1, .int (nI p1)), (2, .int (nI 1))] dX8_keep_15 3 rfl (by decide) rfl ?_
  refine v_aload_n g dX8_keep_16 0 rfl 1 rfl ?_
  refine v_iload_n g dX8_keep_17 1 rfl 2 rfl ?_
  refine v_bipush g dX8_keep_18 (v := nI 8) (by decide +kernel) ?_
  refine v_callS (As := [.int (nI p1), .int (nI 8)]) (rest := [.ref a0]) (wr := [(a0, .inr (8, [.int (nI v_a0_thrown), .ref a0_tape, .int (nI v_a0_taped), .ref a0_out, .int (nI v_a0_outs), .ref a0_slots, .ref a0_kept, .ref a0_phase, .ref a0_secret, .ref a0_key, .ref a0_hide, .ref a0_iv, .ref a0_begin, .ref a0_each, .ref a0_root, .ref a0_power, .ref a0_work, .ref a0_w, .ref a0_h, .ref a0_state, .ref a0_sum, .ref a0_pad, .ref a0_text, .int (nI v_a0_texts), .ref a0_info, .int (nI v_a0_infos), .ref a0_made, .ref a0_blockKey, .ref a0_nonce, .ref a0_x, .ref a0_first, .ref a0_block, .ref a0_a, .ref a0_r, .ref a0_product, .ref a0_tag, .ref a0_sealed])), (a0_out, aY C.D 2064 t_a0_out), (a0_slots, aY C.D 1024 t_a0_slots), (a0_kept, aN C.D 8 t_a0_kept)]) cw_X8_221 (hy_X8_beyond) g (c_R_bey0 C.l C.D p1 8 (by omega) (by omega)) dX8_keep_20 rfl (by decide) (by decide) (Nat.le_of_ble_eq_true rfl) [] [0, 1, 2, 3] rfl rfl (by decide) rfl (by decide) (by decide) _ rfl (fun r wo hp1 => ?_)
  obtain ⟨rfl, rfl⟩ := hp1
  show VJ C 0 0 23 [(3, .int (nI v_a0_outs)), (0, .ref a0), (1, .int (nI p1)), (2, .int (nI 1))] [.int (nI 0), .ref a0] [(a0, .inr (8, [.int (nI v_a0_thrown), .ref a0_tape, .int (nI v_a0_taped), .ref a0_out, .int (nI v_a0_outs), .ref a0_slots, .ref a0_kept, .ref a0_phase, .ref a0_secret, .ref a0_key, .ref a0_hide, .ref a0_iv, .ref a0_begin, .ref a0_each, .ref a0_root, .ref a0_power, .ref a0_work, .ref a0_w, .ref a0_h, .ref a0_state, .ref a0_sum, .ref a0_pad, .ref a0_text, .int (nI v_a0_texts), .ref a0_info, .int (nI v_a0_infos), .ref a0_made, .ref a0_blockKey, .ref a0_nonce, .ref a0_x, .ref a0_first, .ref a0_block, .ref a0_a, .ref a0_r, .ref a0_product, .ref a0_tag, .ref a0_sealed])), (a0_out, aY C.D 2064 t_a0_out), (a0_slots, aY C.D 1024 t_a0_slots), (a0_kept, aN C.D 8 t_a0_kept)]
  refine v_iconst g dX8_keep_23 (v := nI 1) (by decide +kernel) ?_
  refine v_callV (As := [.int (nI 0), .int (nI 1)]) (rest := []) (wr := [(a0_out, aY C.D 2064 t_a0_out), (a0_slots, aY C.D 1024 t_a0_slots), (a0_kept, aN C.D 8 t_a0_kept)]) cw_X8_211 (hy_X8_fails) g (c_R_fail0 C.l C.D a0 1 v_a0_thrown a0_tape v_a0_taped a0_out v_a0_outs a0_slots a0_kept a0_phase a0_secret a0_key a0_hide a0_iv a0_begin a0_each a0_root a0_power a0_work a0_w a0_h a0_state a0_sum a0_pad a0_text v_a0_texts a0_info v_a0_infos a0_made a0_blockKey a0_nonce a0_x a0_first a0_block a0_a a0_r a0_product a0_tag a0_sealed ) dX8_keep_24 0 rfl rfl rfl (by decide) (by decide) (Nat.le_of_ble_eq_true rfl) [0] [1, 2, 3] rfl rfl (by decide) rfl (by decide) (by decide) _ rfl (fun r wo hp2 => ?_)
  obtain ⟨rfl, rfl⟩ := hp2
  refine v_perm [3, 0, 1, 2] [(a0, .inr (8, [.int (nI 0), .ref a0_tape, .int (nI v_a0_taped), .ref a0_out, .int (nI v_a0_outs), .ref a0_slots, .ref a0_kept, .ref a0_phase, .ref a0_secret, .ref a0_key, .ref a0_hide, .ref a0_iv, .ref a0_begin, .ref a0_each, .ref a0_root, .ref a0_power, .ref a0_work, .ref a0_w, .ref a0_h, .ref a0_state, .ref a0_sum, .ref a0_pad, .ref a0_text, .int (nI v_a0_texts), .ref a0_info, .int (nI v_a0_infos), .ref a0_made, .ref a0_blockKey, .ref a0_nonce, .ref a0_x, .ref a0_first, .ref a0_block, .ref a0_a, .ref a0_r, .ref a0_product, .ref a0_tag, .ref a0_sealed])), (a0_out, aY C.D 2064 t_a0_out), (a0_slots, aY C.D 1024 t_a0_slots), (a0_kept, aN C.D 8 t_a0_kept)] (by decide) rfl rfl ?_
  show VJ C 0 0 27 [(3, .int (nI v_a0_outs)), (0, .ref a0), (1, .int (nI p1)), (2, .int (nI 1))] [.int (nI 0)] [(a0, .inr (8, [.int (nI 0), .ref a0_tape, .int (nI v_a0_taped), .ref a0_out, .int (nI v_a0_outs), .ref a0_slots, .ref a0_kept, .ref a0_phase, .ref a0_secret, .ref a0_key, .ref a0_hide, .ref a0_iv, .ref a0_begin, .ref a0_each, .ref a0_root, .ref a0_power, .ref a0_work, .ref a0_w, .ref a0_h, .ref a0_state, .ref a0_sum, .ref a0_pad, .ref a0_text, .int (nI v_a0_texts), .ref a0_info, .int (nI v_a0_infos), .ref a0_made, .ref a0_blockKey, .ref a0_nonce, .ref a0_x, .ref a0_first, .ref a0_block, .ref a0_a, .ref a0_r, .ref a0_product, .ref a0_tag, .ref a0_sealed])), (a0_out, aY C.D 2064 t_a0_out), (a0_slots, aY C.D 1024 t_a0_slots), (a0_kept, aN C.D 8 t_a0_kept)]
  refine v_if_neN g 50 dX8_keep_27 (by decide) (by decide) (fun h => absurd h (by decide)) (fun _ => ?_)
  refine v_aload_n g dX8_keep_30 0 rfl 1 rfl ?_
  refine v_iload_n g dX8_keep_31 3 rfl 0 rfl ?_
  refine v_sipush g dX8_keep_32 (v := nI 128) (by decide +kernel) ?_
  refine v_icmp_leN g 42 dX8_keep_35 (by decide) (by omega) (by omega) (fun _ => ?_) (fun h => absurd h (by omega))
  refine v_iconst g dX8_keep_42 (v := nI 0) (by decide +kernel) ?_
  refine v_iconst g dX8_keep_43 (v := nI 2) (by decide +kernel) ?_
  refine v_callV (As := [.int (nI 0), .int (nI 2)]) (rest := []) (wr := [(a0_out, aY C.D 2064 t_a0_out), (a0_slots, aY C.D 1024 t_a0_slots), (a0_kept, aN C.D 8 t_a0_kept)]) cw_X8_211 (hy_X8_fails) g (c_R_fail0 C.l C.D a0 2 0 a0_tape v_a0_taped a0_out v_a0_outs a0_slots a0_kept a0_phase a0_secret a0_key a0_hide a0_iv a0_begin a0_each a0_root a0_power a0_work a0_w a0_h a0_state a0_sum a0_pad a0_text v_a0_texts a0_info v_a0_infos a0_made a0_blockKey a0_nonce a0_x a0_first a0_block a0_a a0_r a0_product a0_tag a0_sealed ) dX8_keep_44 0 rfl rfl rfl (by decide) (by decide) (Nat.le_of_ble_eq_true rfl) [0] [1, 2, 3] rfl rfl (by decide) rfl (by decide) (by decide) _ rfl (fun r wo hp3 => ?_)
  obtain ⟨rfl, rfl⟩ := hp3
  refine v_perm [3, 0, 1, 2] [(a0, .inr (8, [.int (nI 0), .ref a0_tape, .int (nI v_a0_taped), .ref a0_out, .int (nI v_a0_outs), .ref a0_slots, .ref a0_kept, .ref a0_phase, .ref a0_secret, .ref a0_key, .ref a0_hide, .ref a0_iv, .ref a0_begin, .ref a0_each, .ref a0_root, .ref a0_power, .ref a0_work, .ref a0_w, .ref a0_h, .ref a0_state, .ref a0_sum, .ref a0_pad, .ref a0_text, .int (nI v_a0_texts), .ref a0_info, .int (nI v_a0_infos), .ref a0_made, .ref a0_blockKey, .ref a0_nonce, .ref a0_x, .ref a0_first, .ref a0_block, .ref a0_a, .ref a0_r, .ref a0_product, .ref a0_tag, .ref a0_sealed])), (a0_out, aY C.D 2064 t_a0_out), (a0_slots, aY C.D 1024 t_a0_slots), (a0_kept, aN C.D 8 t_a0_kept)] (by decide) rfl rfl ?_
  show VJ C 0 0 47 [(3, .int (nI v_a0_outs)), (0, .ref a0), (1, .int (nI p1)), (2, .int (nI 1))] [.int (nI 0)] [(a0, .inr (8, [.int (nI 0), .ref a0_tape, .int (nI v_a0_taped), .ref a0_out, .int (nI v_a0_outs), .ref a0_slots, .ref a0_kept, .ref a0_phase, .ref a0_secret, .ref a0_key, .ref a0_hide, .ref a0_iv, .ref a0_begin, .ref a0_each, .ref a0_root, .ref a0_power, .ref a0_work, .ref a0_w, .ref a0_h, .ref a0_state, .ref a0_sum, .ref a0_pad, .ref a0_text, .int (nI v_a0_texts), .ref a0_info, .int (nI v_a0_infos), .ref a0_made, .ref a0_blockKey, .ref a0_nonce, .ref a0_x, .ref a0_first, .ref a0_block, .ref a0_a, .ref a0_r, .ref a0_product, .ref a0_tag, .ref a0_sealed])), (a0_out, aY C.D 2064 t_a0_out), (a0_slots, aY C.D 1024 t_a0_slots), (a0_kept, aN C.D 8 t_a0_kept)]
  refine v_if_eqN g 52 dX8_keep_47 (by decide) (by decide) (fun _ => ?_) (fun h => absurd h (by decide))
  refine v_iconst g dX8_keep_52 (v := nI 0) (by decide +kernel) ?_
  refine v_istore g [(4, .int (nI 0)), (3, .int (nI v_a0_outs)), (0, .ref a0), (1, .int (nI p1)), (2, .int (nI 1))] dX8_keep_53 (by decide) rfl ?_
  have L55_3 : ∀ i : Nat, i ≤ v_a0_outs → ∀ (ts : Nat → By), (ts = cpo t_a0_slots (128 * p1) i t_a0_out) → VJ C 0 0 55 [(4, .int (nI i)), (3, .int (nI v_a0_outs)), (0, .ref a0), (1, .int (nI p1)), (2, .int (nI 1))] [] [(a0, .inr (8, [.int (nI 0), .ref a0_tape, .int (nI v_a0_taped), .ref a0_out, .int (nI v_a0_outs), .ref a0_slots, .ref a0_kept, .ref a0_phase, .ref a0_secret, .ref a0_key, .ref a0_hide, .ref a0_iv, .ref a0_begin, .ref a0_each, .ref a0_root, .ref a0_power, .ref a0_work, .ref a0_w, .ref a0_h, .ref a0_state, .ref a0_sum, .ref a0_pad, .ref a0_text, .int (nI v_a0_texts), .ref a0_info, .int (nI v_a0_infos), .ref a0_made, .ref a0_blockKey, .ref a0_nonce, .ref a0_x, .ref a0_first, .ref a0_block, .ref a0_a, .ref a0_r, .ref a0_product, .ref a0_tag, .ref a0_sealed])), (a0_out, aY C.D 2064 t_a0_out), (a0_slots, aY C.D 1024 ts), (a0_kept, aN C.D 8 t_a0_kept)] := by
    refine v_for (v_a0_outs) ?_ ?_
    · skip
      intro i hii ih ts hv0
      refine v_iload g dX8_keep_55 0 rfl ?_
      refine v_iload_n g dX8_keep_57 3 rfl 1 rfl ?_
      refine v_icmp_geN g 101 dX8_keep_58 (by decide) (by omega) (by omega) (fun h4 => ?_) (fun h4 => ?_)
      · skip
        exact absurd h4 (by omega)
      · skip
        refine v_aload_n g dX8_keep_61 0 rfl 2 rfl ?_
        refine gf_X8_16 g dX8_keep_62 0 rfl rfl ?_
        refine v_sipush g dX8_keep_65 (v := nI 128) (by decide +kernel) ?_
        refine v_iload_n g dX8_keep_68 1 rfl 3 rfl ?_
        refine v_imulN g dX8_keep_69 ?_
        refine v_iload g dX8_keep_70 0 rfl ?_
        refine v_iaddN g dX8_keep_72 ?_
        refine v_iload_n g dX8_keep_73 2 rfl 4 rfl ?_
        refine v_if_eqN g 87 dX8_keep_74 (by decide) (by decide) (fun h => absurd h (by decide)) (fun _ => ?_)
        refine v_aload_n g dX8_keep_77 0 rfl 2 rfl ?_
        refine gf_X8_13 g dX8_keep_78 0 rfl rfl ?_
        refine v_iload g dX8_keep_81 0 rfl ?_
        refine v_ialdY g 1 rfl (by omega) (by decide) dX8_keep_83 ?_
        refine v_goto g 94 dX8_keep_84 (by decide) ?_
        obtain ⟨t5, ht5⟩ : ∃ z : Nat → By, z = va_up ts ((128 * p1) + i) (t_a0_out i) := ⟨_, rfl⟩
        refine v_iastY g ((t_a0_out i)) rfl t5 ht5 2 [(a0, .inr (8, [.int (nI 0), .ref a0_tape, .int (nI v_a0_taped), .ref a0_out, .int (nI v_a0_outs), .ref a0_slots, .ref a0_kept, .ref a0_phase, .ref a0_secret, .ref a0_key, .ref a0_hide, .ref a0_iv, .ref a0_begin, .ref a0_each, .ref a0_root, .ref a0_power, .ref a0_work, .ref a0_w, .ref a0_h, .ref a0_state, .ref a0_sum, .ref a0_pad, .ref a0_text, .int (nI v_a0_texts), .ref a0_info, .int (nI v_a0_infos), .ref a0_made, .ref a0_blockKey, .ref a0_nonce, .ref a0_x, .ref a0_first, .ref a0_block, .ref a0_a, .ref a0_r, .ref a0_product, .ref a0_tag, .ref a0_sealed])), (a0_out, aY C.D 2064 t_a0_out), (a0_slots, aY C.D 1024 t5), (a0_kept, aN C.D 8 t_a0_kept)] rfl (by omega) (by decide) dX8_keep_94 rfl ?_
        refine v_iincN g 1 [(4, .int (nI (i + 1))), (3, .int (nI v_a0_outs)), (0, .ref a0), (1, .int (nI p1)), (2, .int (nI 1))] dX8_keep_95 0 rfl (by decide +kernel) (by decide) rfl ?_
        refine v_goto g 55 dX8_keep_98 (by decide) ?_
        exact ih t5 (by rw [ht5, hv0]; exact cpo_s _ _ _ _)
    · skip
      intro ts hv0
      refine v_iload g dX8_keep_55 0 rfl ?_
      refine v_iload_n g dX8_keep_57 3 rfl 1 rfl ?_
      refine v_icmp_geN g 101 dX8_keep_58 (by decide) (by omega) (by omega) (fun h6 => ?_) (fun h6 => ?_)
      · skip
        subst hv0
        refine v_aload_n g dX8_keep_101 0 rfl 2 rfl ?_
        refine gf_X8_19 g dX8_keep_102 0 rfl rfl ?_
        refine v_iload_n g dX8_keep_105 1 rfl 3 rfl ?_
        refine v_iload_n g dX8_keep_106 3 rfl 1 rfl ?_
        obtain ⟨t7, ht7⟩ : ∃ z : Nat → Nat, z = va_up t_a0_kept p1 v_a0_outs := ⟨_, rfl⟩
        refine v_iastN g (v_a0_outs) rfl t7 ht7 3 [(a0, .inr (8, [.int (nI 0), .ref a0_tape, .int (nI v_a0_taped), .ref a0_out, .int (nI v_a0_outs), .ref a0_slots, .ref a0_kept, .ref a0_phase, .ref a0_secret, .ref a0_key, .ref a0_hide, .ref a0_iv, .ref a0_begin, .ref a0_each, .ref a0_root, .ref a0_power, .ref a0_work, .ref a0_w, .ref a0_h, .ref a0_state, .ref a0_sum, .ref a0_pad, .ref a0_text, .int (nI v_a0_texts), .ref a0_info, .int (nI v_a0_infos), .ref a0_made, .ref a0_blockKey, .ref a0_nonce, .ref a0_x, .ref a0_first, .ref a0_block, .ref a0_a, .ref a0_r, .ref a0_product, .ref a0_tag, .ref a0_sealed])), (a0_out, aY C.D 2064 t_a0_out), (a0_slots, aY C.D 1024 (cpo t_a0_slots (128 * p1) v_a0_outs t_a0_out)), (a0_kept, aN C.D 8 t7)] rfl (by omega) (by decide) dX8_keep_107 rfl ?_
        subst ht7
        refine v_iload_n g dX8_keep_108 2 rfl 4 rfl ?_
        refine v_if_neN g 117 dX8_keep_109 (by decide) (by decide) (fun _ => ?_) (fun h => absurd h (by decide))
        refine v_iload_n g dX8_keep_117 3 rfl 1 rfl ?_
        exact v_iret g R dX8_keep_118 (by decide) (by decide) ⟨rfl, rfl⟩
      · skip
        exact absurd h6 (by omega)
  exact L55_3 0 (by omega) t_a0_slots ((cpo_0 _ _ _).symm)
set_option maxHeartbeats 4000000 in
set_option maxRecDepth 100000 in
theorem f_keepA1 (l : Launch) (D : va_G) (a0 : Nat) (p1 : Int32) (v_a0_thrown : Nat) (a0_tape : Nat) (v_a0_taped : Nat) (a0_out : Nat) (v_a0_outs : Nat) (a0_slots : Nat) (a0_kept : Nat) (a0_phase : Nat) (a0_secret : Nat) (a0_key : Nat) (a0_hide : Nat) (a0_iv : Nat) (a0_begin : Nat) (a0_each : Nat) (a0_root : Nat) (a0_power : Nat) (a0_work : Nat) (a0_w : Nat) (a0_h : Nat) (a0_state : Nat) (a0_sum : Nat) (a0_pad : Nat) (a0_text : Nat) (v_a0_texts : Nat) (a0_info : Nat) (v_a0_infos : Nat) (a0_made : Nat) (a0_blockKey : Nat) (a0_nonce : Nat) (a0_x : Nat) (a0_first : Nat) (a0_block : Nat) (a0_a : Nat) (a0_r : Nat) (a0_product : Nat) (a0_tag : Nat) (a0_sealed : Nat)  (h0 : p1 < 0 ∨ nI 8 ≤ p1) : vM l D yX8_keep cX8_keep 5 (some .int) { frames := 1, cells := 0, slots := 0, locals := 22 } [.ref a0, .int p1, .int (nI 1)] [(a0, .inr (8, [.int (nI v_a0_thrown), .ref a0_tape, .int (nI v_a0_taped), .ref a0_out, .int (nI v_a0_outs), .ref a0_slots, .ref a0_kept, .ref a0_phase, .ref a0_secret, .ref a0_key, .ref a0_hide, .ref a0_iv, .ref a0_begin, .ref a0_each, .ref a0_root, .ref a0_power, .ref a0_work, .ref a0_w, .ref a0_h, .ref a0_state, .ref a0_sum, .ref a0_pad, .ref a0_text, .int (nI v_a0_texts), .ref a0_info, .int (nI v_a0_infos), .ref a0_made, .ref a0_blockKey, .ref a0_nonce, .ref a0_x, .ref a0_first, .ref a0_block, .ref a0_a, .ref a0_r, .ref a0_product, .ref a0_tag, .ref a0_sealed]))] (fun r wo => r = some (.int (nI 0)) ∧ wo = [(a0, .inr (8, [.int (nI 1), .ref a0_tape, .int (nI v_a0_taped), .ref a0_out, .int (nI v_a0_outs), .ref a0_slots, .ref a0_kept, .ref a0_phase, .ref a0_secret, .ref a0_key, .ref a0_hide, .ref a0_iv, .ref a0_begin, .ref a0_each, .ref a0_root, .ref a0_power, .ref a0_work, .ref a0_w, .ref a0_h, .ref a0_state, .ref a0_sum, .ref a0_pad, .ref a0_text, .int (nI v_a0_texts), .ref a0_info, .int (nI v_a0_infos), .ref a0_made, .ref a0_blockKey, .ref a0_nonce, .ref a0_x, .ref a0_first, .ref a0_block, .ref a0_a, .ref a0_r, .ref a0_product, .ref a0_tag, .ref a0_sealed]))]) := by
  refine vM.of (by decide) (Nat.le_of_ble_eq_true rfl) (fun C hCl hCD g R => ?_)
  subst hCl; subst hCD
  show VJ C 0 0 0 [(0, .ref a0), (1, .int p1), (2, .int (nI 1))] [] [(a0, .inr (8, [.int (nI v_a0_thrown), .ref a0_tape, .int (nI v_a0_taped), .ref a0_out, .int (nI v_a0_outs), .ref a0_slots, .ref a0_kept, .ref a0_phase, .ref a0_secret, .ref a0_key, .ref a0_hide, .ref a0_iv, .ref a0_begin, .ref a0_each, .ref a0_root, .ref a0_power, .ref a0_work, .ref a0_w, .ref a0_h, .ref a0_state, .ref a0_sum, .ref a0_pad, .ref a0_text, .int (nI v_a0_texts), .ref a0_info, .int (nI v_a0_infos), .ref a0_made, .ref a0_blockKey, .ref a0_nonce, .ref a0_x, .ref a0_first, .ref a0_block, .ref a0_a, .ref a0_r, .ref a0_product, .ref a0_tag, .ref a0_sealed]))]
  refine v_iload_n g dX8_keep_0 2 rfl 2 rfl ?_
  refine v_if_eqN g 11 dX8_keep_1 (by decide) (by decide) (fun h => absurd h (by decide)) (fun _ => ?_)
  refine v_aload_n g dX8_keep_4 0 rfl 0 rfl ?_
  refine gf_X8_218 g dX8_keep_5 0 rfl rfl ?_
  refine v_goto g 15 dX8_keep_8 (by decide) ?_
  refine v_istore_n g [(3, .int (nI v_a0_outs)), (0, .ref a0), (1, .int p1), (2, .int (nI 1))] dX8_keep_15 3 rfl (by decide) rfl ?_
  refine v_aload_n g dX8_keep_16 0 rfl 1 rfl ?_
  refine v_iload_n g dX8_keep_17 1 rfl 2 rfl ?_
  refine v_bipush g dX8_keep_18 (v := nI 8) (by decide +kernel) ?_
  refine v_callS (As := [.int p1, .int (nI 8)]) (rest := [.ref a0]) (wr := [(a0, .inr (8, [.int (nI v_a0_thrown), .ref a0_tape, .int (nI v_a0_taped), .ref a0_out, .int (nI v_a0_outs), .ref a0_slots, .ref a0_kept, .ref a0_phase, .ref a0_secret, .ref a0_key, .ref a0_hide, .ref a0_iv, .ref a0_begin, .ref a0_each, .ref a0_root, .ref a0_power, .ref a0_work, .ref a0_w, .ref a0_h, .ref a0_state, .ref a0_sum, .ref a0_pad, .ref a0_text, .int (nI v_a0_texts), .ref a0_info, .int (nI v_a0_infos), .ref a0_made, .ref a0_blockKey, .ref a0_nonce, .ref a0_x, .ref a0_first, .ref a0_block, .ref a0_a, .ref a0_r, .ref a0_product, .ref a0_tag, .ref a0_sealed]))]) cw_X8_221 (hy_X8_beyond) g (c_R_bey1 C.l C.D p1 8 h0) dX8_keep_20 rfl (by decide) (by decide) (Nat.le_of_ble_eq_true rfl) [] [0] rfl rfl (by decide) rfl (by decide) (by decide) _ rfl (fun r wo hp1 => ?_)
  obtain ⟨rfl, rfl⟩ := hp1
  show VJ C 0 0 23 [(3, .int (nI v_a0_outs)), (0, .ref a0), (1, .int p1), (2, .int (nI 1))] [.int (nI 1), .ref a0] [(a0, .inr (8, [.int (nI v_a0_thrown), .ref a0_tape, .int (nI v_a0_taped), .ref a0_out, .int (nI v_a0_outs), .ref a0_slots, .ref a0_kept, .ref a0_phase, .ref a0_secret, .ref a0_key, .ref a0_hide, .ref a0_iv, .ref a0_begin, .ref a0_each, .ref a0_root, .ref a0_power, .ref a0_work, .ref a0_w, .ref a0_h, .ref a0_state, .ref a0_sum, .ref a0_pad, .ref a0_text, .int (nI v_a0_texts), .ref a0_info, .int (nI v_a0_infos), .ref a0_made, .ref a0_blockKey, .ref a0_nonce, .ref a0_x, .ref a0_first, .ref a0_block, .ref a0_a, .ref a0_r, .ref a0_product, .ref a0_tag, .ref a0_sealed]))]
  refine v_iconst g dX8_keep_23 (v := nI 1) (by decide +kernel) ?_
  refine v_callV (As := [.int (nI 1), .int (nI 1)]) (rest := []) (wr := []) cw_X8_211 (hy_X8_fails) g (c_R_fail1 C.l C.D a0 1 v_a0_thrown a0_tape v_a0_taped a0_out v_a0_outs a0_slots a0_kept a0_phase a0_secret a0_key a0_hide a0_iv a0_begin a0_each a0_root a0_power a0_work a0_w a0_h a0_state a0_sum a0_pad a0_text v_a0_texts a0_info v_a0_infos a0_made a0_blockKey a0_nonce a0_x a0_first a0_block a0_a a0_r a0_product a0_tag a0_sealed ) dX8_keep_24 0 rfl rfl rfl (by decide) (by decide) (Nat.le_of_ble_eq_true rfl) [0] [] rfl rfl (by decide) rfl (by decide) (by decide) _ rfl (fun r wo hp2 => ?_)
  obtain ⟨rfl, rfl⟩ := hp2
  show VJ C 0 0 27 [(3, .int (nI v_a0_outs)), (0, .ref a0), (1, .int p1), (2, .int (nI 1))] [.int (nI 1)] [(a0, .inr (8, [.int (nI 1), .ref a0_tape, .int (nI v_a0_taped), .ref a0_out, .int (nI v_a0_outs), .ref a0_slots, .ref a0_kept, .ref a0_phase, .ref a0_secret, .ref a0_key, .ref a0_hide, .ref a0_iv, .ref a0_begin, .ref a0_each, .ref a0_root, .ref a0_power, .ref a0_work, .ref a0_w, .ref a0_h, .ref a0_state, .ref a0_sum, .ref a0_pad, .ref a0_text, .int (nI v_a0_texts), .ref a0_info, .int (nI v_a0_infos), .ref a0_made, .ref a0_blockKey, .ref a0_nonce, .ref a0_x, .ref a0_first, .ref a0_block, .ref a0_a, .ref a0_r, .ref a0_product, .ref a0_tag, .ref a0_sealed]))]
  refine v_if_neN g 50 dX8_keep_27 (by decide) (by decide) (fun _ => ?_) (fun h => absurd h (by decide))
  refine v_iconst g dX8_keep_50 (v := nI 0) (by decide +kernel) ?_
  exact v_iret g R dX8_keep_51 (by decide) (by decide) ⟨rfl, rfl⟩
set_option maxHeartbeats 4000000 in
set_option maxRecDepth 100000 in
theorem f_keepB1 (l : Launch) (D : va_G) (a0 : Nat) (p1 : Nat) (v_a0_thrown : Nat) (a0_tape : Nat) (v_a0_taped : Nat) (a0_out : Nat) (v_a0_outs : Nat) (a0_slots : Nat) (a0_kept : Nat) (a0_phase : Nat) (a0_secret : Nat) (a0_key : Nat) (a0_hide : Nat) (a0_iv : Nat) (a0_begin : Nat) (a0_each : Nat) (a0_root : Nat) (a0_power : Nat) (a0_work : Nat) (a0_w : Nat) (a0_h : Nat) (a0_state : Nat) (a0_sum : Nat) (a0_pad : Nat) (a0_text : Nat) (v_a0_texts : Nat) (a0_info : Nat) (v_a0_infos : Nat) (a0_made : Nat) (a0_blockKey : Nat) (a0_nonce : Nat) (a0_x : Nat) (a0_first : Nat) (a0_block : Nat) (a0_a : Nat) (a0_r : Nat) (a0_product : Nat) (a0_tag : Nat) (a0_sealed : Nat)  (hs1 : p1 < 8) (h1 : 128 < v_a0_outs) (hO : v_a0_outs ≤ 2064) : vM l D yX8_keep cX8_keep 5 (some .int) { frames := 1, cells := 0, slots := 0, locals := 22 } [.ref a0, .int (nI p1), .int (nI 1)] [(a0, .inr (8, [.int (nI v_a0_thrown), .ref a0_tape, .int (nI v_a0_taped), .ref a0_out, .int (nI v_a0_outs), .ref a0_slots, .ref a0_kept, .ref a0_phase, .ref a0_secret, .ref a0_key, .ref a0_hide, .ref a0_iv, .ref a0_begin, .ref a0_each, .ref a0_root, .ref a0_power, .ref a0_work, .ref a0_w, .ref a0_h, .ref a0_state, .ref a0_sum, .ref a0_pad, .ref a0_text, .int (nI v_a0_texts), .ref a0_info, .int (nI v_a0_infos), .ref a0_made, .ref a0_blockKey, .ref a0_nonce, .ref a0_x, .ref a0_first, .ref a0_block, .ref a0_a, .ref a0_r, .ref a0_product, .ref a0_tag, .ref a0_sealed]))] (fun r wo => r = some (.int (nI 0)) ∧ wo = [(a0, .inr (8, [.int (nI 2), .ref a0_tape, .int (nI v_a0_taped), .ref a0_out, .int (nI v_a0_outs), .ref a0_slots, .ref a0_kept, .ref a0_phase, .ref a0_secret, .ref a0_key, .ref a0_hide, .ref a0_iv, .ref a0_begin, .ref a0_each, .ref a0_root, .ref a0_power, .ref a0_work, .ref a0_w, .ref a0_h, .ref a0_state, .ref a0_sum, .ref a0_pad, .ref a0_text, .int (nI v_a0_texts), .ref a0_info, .int (nI v_a0_infos), .ref a0_made, .ref a0_blockKey, .ref a0_nonce, .ref a0_x, .ref a0_first, .ref a0_block, .ref a0_a, .ref a0_r, .ref a0_product, .ref a0_tag, .ref a0_sealed]))]) := by
  refine vM.of (by decide) (Nat.le_of_ble_eq_true rfl) (fun C hCl hCD g R => ?_)
  subst hCl; subst hCD
  show VJ C 0 0 0 [(0, .ref a0), (1, .int (nI p1)), (2, .int (nI 1))] [] [(a0, .inr (8, [.int (nI v_a0_thrown), .ref a0_tape, .int (nI v_a0_taped), .ref a0_out, .int (nI v_a0_outs), .ref a0_slots, .ref a0_kept, .ref a0_phase, .ref a0_secret, .ref a0_key, .ref a0_hide, .ref a0_iv, .ref a0_begin, .ref a0_each, .ref a0_root, .ref a0_power, .ref a0_work, .ref a0_w, .ref a0_h, .ref a0_state, .ref a0_sum, .ref a0_pad, .ref a0_text, .int (nI v_a0_texts), .ref a0_info, .int (nI v_a0_infos), .ref a0_made, .ref a0_blockKey, .ref a0_nonce, .ref a0_x, .ref a0_first, .ref a0_block, .ref a0_a, .ref a0_r, .ref a0_product, .ref a0_tag, .ref a0_sealed]))]
  refine v_iload_n g dX8_keep_0 2 rfl 2 rfl ?_
  refine v_if_eqN g 11 dX8_keep_1 (by decide) (by decide) (fun h => absurd h (by decide)) (fun _ => ?_)
  refine v_aload_n g dX8_keep_4 0 rfl 0 rfl ?_
  refine gf_X8_218 g dX8_keep_5 0 rfl rfl ?_
  refine v_goto g 15 dX8_keep_8 (by decide) ?_
  refine v_istore_n g [(3, .int (nI v_a0_outs)), (0, .ref a0), (1, .int (nI p1)), (2, .int (nI 1))] dX8_keep_15 3 rfl (by decide) rfl ?_
  refine v_aload_n g dX8_keep_16 0 rfl 1 rfl ?_
  refine v_iload_n g dX8_keep_17 1 rfl 2 rfl ?_
  refine v_bipush g dX8_keep_18 (v := nI 8) (by decide +kernel) ?_
  refine v_callS (As := [.int (nI p1), .int (nI 8)]) (rest := [.ref a0]) (wr := [(a0, .inr (8, [.int (nI v_a0_thrown), .ref a0_tape, .int (nI v_a0_taped), .ref a0_out, .int (nI v_a0_outs), .ref a0_slots, .ref a0_kept, .ref a0_phase, .ref a0_secret, .ref a0_key, .ref a0_hide, .ref a0_iv, .ref a0_begin, .ref a0_each, .ref a0_root, .ref a0_power, .ref a0_work, .ref a0_w, .ref a0_h, .ref a0_state, .ref a0_sum, .ref a0_pad, .ref a0_text, .int (nI v_a0_texts), .ref a0_info, .int (nI v_a0_infos), .ref a0_made, .ref a0_blockKey, .ref a0_nonce, .ref a0_x, .ref a0_first, .ref a0_block, .ref a0_a, .ref a0_r, .ref a0_product, .ref a0_tag, .ref a0_sealed]))]) cw_X8_221 (hy_X8_beyond) g (c_R_bey0 C.l C.D p1 8 (by omega) (by omega)) dX8_keep_20 rfl (by decide) (by decide) (Nat.le_of_ble_eq_true rfl) [] [0] rfl rfl (by decide) rfl (by decide) (by decide) _ rfl (fun r wo hp1 => ?_)
  obtain ⟨rfl, rfl⟩ := hp1
  show VJ C 0 0 23 [(3, .int (nI v_a0_outs)), (0, .ref a0), (1, .int (nI p1)), (2, .int (nI 1))] [.int (nI 0), .ref a0] [(a0, .inr (8, [.int (nI v_a0_thrown), .ref a0_tape, .int (nI v_a0_taped), .ref a0_out, .int (nI v_a0_outs), .ref a0_slots, .ref a0_kept, .ref a0_phase, .ref a0_secret, .ref a0_key, .ref a0_hide, .ref a0_iv, .ref a0_begin, .ref a0_each, .ref a0_root, .ref a0_power, .ref a0_work, .ref a0_w, .ref a0_h, .ref a0_state, .ref a0_sum, .ref a0_pad, .ref a0_text, .int (nI v_a0_texts), .ref a0_info, .int (nI v_a0_infos), .ref a0_made, .ref a0_blockKey, .ref a0_nonce, .ref a0_x, .ref a0_first, .ref a0_block, .ref a0_a, .ref a0_r, .ref a0_product, .ref a0_tag, .ref a0_sealed]))]
  refine v_iconst g dX8_keep_23 (v := nI 1) (by decide +kernel) ?_
  refine v_callV (As := [.int (nI 0), .int (nI 1)]) (rest := []) (wr := []) cw_X8_211 (hy_X8_fails) g (c_R_fail0 C.l C.D a0 1 v_a0_thrown a0_tape v_a0_taped a0_out v_a0_outs a0_slots a0_kept a0_phase a0_secret a0_key a0_hide a0_iv a0_begin a0_each a0_root a0_power a0_work a0_w a0_h a0_state a0_sum a0_pad a0_text v_a0_texts a0_info v_a0_infos a0_made a0_blockKey a0_nonce a0_x a0_first a0_block a0_a a0_r a0_product a0_tag a0_sealed ) dX8_keep_24 0 rfl rfl rfl (by decide) (by decide) (Nat.le_of_ble_eq_true rfl) [0] [] rfl rfl (by decide) rfl (by decide) (by decide) _ rfl (fun r wo hp2 => ?_)
  obtain ⟨rfl, rfl⟩ := hp2
  show VJ C 0 0 27 [(3, .int (nI v_a0_outs)), (0, .ref a0), (1, .int (nI p1)), (2, .int (nI 1))] [.int (nI 0)] [(a0, .inr (8, [.int (nI 0), .ref a0_tape, .int (nI v_a0_taped), .ref a0_out, .int (nI v_a0_outs), .ref a0_slots, .ref a0_kept, .ref a0_phase, .ref a0_secret, .ref a0_key, .ref a0_hide, .ref a0_iv, .ref a0_begin, .ref a0_each, .ref a0_root, .ref a0_power, .ref a0_work, .ref a0_w, .ref a0_h, .ref a0_state, .ref a0_sum, .ref a0_pad, .ref a0_text, .int (nI v_a0_texts), .ref a0_info, .int (nI v_a0_infos), .ref a0_made, .ref a0_blockKey, .ref a0_nonce, .ref a0_x, .ref a0_first, .ref a0_block, .ref a0_a, .ref a0_r, .ref a0_product, .ref a0_tag, .ref a0_sealed]))]
  refine v_if_neN g 50 dX8_keep_27 (by decide) (by decide) (fun h => absurd h (by decide)) (fun _ => ?_)
  refine v_aload_n g dX8_keep_30 0 rfl 1 rfl ?_
  refine v_iload_n g dX8_keep_31 3 rfl 0 rfl ?_
  refine v_sipush g dX8_keep_32 (v := nI 128) (by decide +kernel) ?_
  refine v_icmp_leN g 42 dX8_keep_35 (by decide) (by omega) (by omega) (fun h => absurd h (by omega)) (fun _ => ?_)
  refine v_iconst g dX8_keep_38 (v := nI 1) (by decide +kernel) ?_
  refine v_goto g 43 dX8_keep_39 (by decide) ?_
  refine v_iconst g dX8_keep_43 (v := nI 2) (by decide +kernel) ?_
  refine v_callV (As := [.int (nI 1), .int (nI 2)]) (rest := []) (wr := []) cw_X8_211 (hy_X8_fails) g (c_R_fail1 C.l C.D a0 2 0 a0_tape v_a0_taped a0_out v_a0_outs a0_slots a0_kept a0_phase a0_secret a0_key a0_hide a0_iv a0_begin a0_each a0_root a0_power a0_work a0_w a0_h a0_state a0_sum a0_pad a0_text v_a0_texts a0_info v_a0_infos a0_made a0_blockKey a0_nonce a0_x a0_first a0_block a0_a a0_r a0_product a0_tag a0_sealed ) dX8_keep_44 0 rfl rfl rfl (by decide) (by decide) (Nat.le_of_ble_eq_true rfl) [0] [] rfl rfl (by decide) rfl (by decide) (by decide) _ rfl (fun r wo hp3 => ?_)
  obtain ⟨rfl, rfl⟩ := hp3
  show VJ C 0 0 47 [(3, .int (nI v_a0_outs)), (0, .ref a0), (1, .int (nI p1)), (2, .int (nI 1))] [.int (nI 1)] [(a0, .inr (8, [.int (nI 2), .ref a0_tape, .int (nI v_a0_taped), .ref a0_out, .int (nI v_a0_outs), .ref a0_slots, .ref a0_kept, .ref a0_phase, .ref a0_secret, .ref a0_key, .ref a0_hide, .ref a0_iv, .ref a0_begin, .ref a0_each, .ref a0_root, .ref a0_power, .ref a0_work, .ref a0_w, .ref a0_h, .ref a0_state, .ref a0_sum, .ref a0_pad, .ref a0_text, .int (nI v_a0_texts), .ref a0_info, .int (nI v_a0_infos), .ref a0_made, .ref a0_blockKey, .ref a0_nonce, .ref a0_x, .ref a0_first, .ref a0_block, .ref a0_a, .ref a0_r, .ref a0_product, .ref a0_tag, .ref a0_sealed]))]
  refine v_if_eqN g 52 dX8_keep_47 (by decide) (by decide) (fun h => absurd h (by decide)) (fun _ => ?_)
  refine v_iconst g dX8_keep_50 (v := nI 0) (by decide +kernel) ?_
  exact v_iret g R dX8_keep_51 (by decide) (by decide) ⟨rfl, rfl⟩
