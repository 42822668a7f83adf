/-! the reference's MAC, STRETCH, LABEL -/
theorem pd_z {F su : Nat → By} {n sz i : Nat} (hc : (n ≤ 64 ∧ sz = n) ∨ (64 < n ∧ sz = 32 ∧ ∀ j, j < 32 → su j = digF F n j)) (hi : sz ≤ i) : 0#8 = padF F n i := by
  rcases hc with ⟨h1, h2⟩ | ⟨h1, h2, -⟩
  · exact (pad_z1 h1 i (by omega)).symm
  · exact (pad_z2 h1 i (by omega)).symm
theorem pd_s {F su : Nat → By} {n sz i : Nat} (hc : (n ≤ 64 ∧ sz = n) ∨ (64 < n ∧ sz = 32 ∧ ∀ j, j < 32 → su j = digF F n j)) (hn : 64 < n) (hi : i < sz) : su i = padF F n i := by
  rcases hc with ⟨h1, h2⟩ | ⟨h1, h2, h3⟩
  · omega
  · rw [h3 i (by omega)]; exact pad_hi h1 (by omega)
theorem pd_f {F su : Nat → By} {n sz i : Nat} (hc : (n ≤ 64 ∧ sz = n) ∨ (64 < n ∧ sz = 32 ∧ ∀ j, j < 32 → su j = digF F n j)) (hn : n ≤ 64) (hi : i < sz) : F i = padF F n i := by
  rcases hc with ⟨h1, h2⟩ | ⟨h1, h2, h3⟩
  · exact pad_lo h1 (by omega)
  · omega
theorem st_l0 {k : Nat} (h : k = 0) : st_l (k / 32) = 0 := by subst h; rfl
theorem st_l1 {k : Nat} (h : 0 < k) (h2 : k % 32 = 0) : st_l (k / 32) = 32 := by unfold st_l; rw [if_neg (by omega)]
theorem st_le (i : Nat) : st_l i ≤ 32 := by unfold st_l; split <;> omega
def lwL : List Nat := [7038329, 26998, 1751737445, 1953854062, 28826387908665441, 28826387908665442, 29117702420570209, 29117702420570210, 127961779609697, 127961779609698, 1685024357]
def lwN (i : Nat) : Nat := lwL.getD i 0
theorem lw_lt : ∀ l, l < 11 → lwN l < 2 ^ 63 := by decide
theorem lw_pos : ∀ l, l < 11 → ∀ i, i < lbN l - 3 → 0 < lwN l / 2 ^ (8 * i) := by decide +kernel
theorem lw_end : ∀ l, l < 11 → lwN l / 2 ^ (8 * (lbN l - 3)) = 0 := by decide +kernel
theorem lw_b : ∀ l, l < 11 → ∀ i, i < lbN l - 3 → BitVec.ofNat 8 (lwN l / 2 ^ (8 * (lbN l - 3 - i - 1))) = lbF l (3 + i) := by decide +kernel
theorem lw_n : ∀ l, l < 11 → 5 ≤ lbN l ∧ lbN l ≤ 10 ∧ lbF l 0 = 118#8 ∧ lbF l 1 = 49#8 ∧ lbF l 2 = 32#8 := by decide +kernel
theorem rinf_0 (w : Nat) (c : Nat → By) (m n : Nat) : infF w c m n 0 = BitVec.ofNat 8 (n / 256) := rfl
theorem rinf_1 (w : Nat) (c : Nat → By) (m n : Nat) : infF w c m n 1 = BitVec.ofNat 8 n := rfl
theorem rinf_2 (w : Nat) (c : Nat → By) (m n : Nat) : infF w c m n 2 = BitVec.ofNat 8 (lbN w) := rfl
theorem rinf_t {w : Nat} (c : Nat → By) (m n : Nat) {i : Nat} (h : i < lbN w) : infF w c m n (3 + i) = lbF w i := by
  unfold infF
  rw [if_neg (by omega), if_neg (by omega), if_neg (by omega), if_pos (by omega), show 3 + i - 3 = i by omega]
theorem rinf_c (w : Nat) (c : Nat → By) (m n : Nat) : infF w c m n (3 + lbN w) = BitVec.ofNat 8 m := by
  unfold infF
  rw [if_neg (by omega), if_neg (by omega), if_neg (by omega), if_neg (by omega), if_pos rfl]
theorem rinf_x (w : Nat) (c : Nat → By) (m n i : Nat) : infF w c m n (4 + lbN w + i) = c i := by
  unfold infF
  rw [if_neg (by omega), if_neg (by omega), if_neg (by omega), if_neg (by omega), if_neg (by omega), show 4 + lbN w + i - 4 - lbN w = i by omega]
theorem dX8_padOf_0 : decode cX8_padOf 0 = .ok (.iload_n 3, 1) := by decide +kernel
theorem dX8_padOf_1 : decode cX8_padOf 1 = .ok (.istore 4, 2) := by decide +kernel
theorem dX8_padOf_3 : decode cX8_padOf 3 = .ok (.iload_n 3, 1) := by decide +kernel
theorem dX8_padOf_4 : decode cX8_padOf 4 = .ok (.bipush 64, 2) := by decide +kernel
theorem dX8_padOf_6 : decode cX8_padOf 6 = .ok (.if_icmp .le 40, 3) := by decide +kernel
theorem dX8_padOf_9 : decode cX8_padOf 9 = .ok (.iconst 0, 1) := by decide +kernel
theorem dX8_padOf_10 : decode cX8_padOf 10 = .ok (.istore 5, 2) := by decide +kernel
theorem dX8_padOf_12 : decode cX8_padOf 12 = .ok (.iload 5, 2) := by decide +kernel
theorem dX8_padOf_14 : decode cX8_padOf 14 = .ok (.iload_n 3, 1) := by decide +kernel
theorem dX8_padOf_15 : decode cX8_padOf 15 = .ok (.if_icmp .ge 22, 3) := by decide +kernel
theorem dX8_padOf_18 : decode cX8_padOf 18 = .ok (.aload_n 0, 1) := by decide +kernel
theorem dX8_padOf_19 : decode cX8_padOf 19 = .ok (.getfield 50, 3) := by decide +kernel
theorem dX8_padOf_22 : decode cX8_padOf 22 = .ok (.iload 5, 2) := by decide +kernel
theorem dX8_padOf_24 : decode cX8_padOf 24 = .ok (.aload_n 1, 1) := by decide +kernel
theorem dX8_padOf_25 : decode cX8_padOf 25 = .ok (.iload_n 2, 1) := by decide +kernel
theorem dX8_padOf_26 : decode cX8_padOf 26 = .ok (.iload 5, 2) := by decide +kernel
theorem dX8_padOf_28 : decode cX8_padOf 28 = .ok (.iadd, 1) := by decide +kernel
theorem dX8_padOf_29 : decode cX8_padOf 29 = .ok (.iaload, 1) := by decide +kernel
theorem dX8_padOf_30 : decode cX8_padOf 30 = .ok (.iastore, 1) := by decide +kernel
theorem dX8_padOf_31 : decode cX8_padOf 31 = .ok (.iinc 5 1, 3) := by decide +kernel
theorem dX8_padOf_34 : decode cX8_padOf 34 = .ok (.goto (-22), 3) := by decide +kernel
theorem dX8_padOf_37 : decode cX8_padOf 37 = .ok (.aload_n 0, 1) := by decide +kernel
theorem dX8_padOf_38 : decode cX8_padOf 38 = .ok (.iload_n 3, 1) := by decide +kernel
theorem dX8_padOf_39 : decode cX8_padOf 39 = .ok (.invokevirtual 142, 3) := by decide +kernel
theorem dX8_padOf_42 : decode cX8_padOf 42 = .ok (.bipush 32, 2) := by decide +kernel
theorem dX8_padOf_44 : decode cX8_padOf 44 = .ok (.istore 4, 2) := by decide +kernel
theorem dX8_padOf_46 : decode cX8_padOf 46 = .ok (.iconst 0, 1) := by decide +kernel
theorem dX8_padOf_47 : decode cX8_padOf 47 = .ok (.istore 5, 2) := by decide +kernel
theorem dX8_padOf_49 : decode cX8_padOf 49 = .ok (.iload 5, 2) := by decide +kernel
theorem dX8_padOf_51 : decode cX8_padOf 51 = .ok (.bipush 64, 2) := by decide +kernel
theorem dX8_padOf_53 : decode cX8_padOf 53 = .ok (.if_icmp .ge 49, 3) := by decide +kernel
theorem dX8_padOf_56 : decode cX8_padOf 56 = .ok (.aload_n 0, 1) := by decide +kernel
theorem dX8_padOf_57 : decode cX8_padOf 57 = .ok (.getfield 65, 3) := by decide +kernel
theorem dX8_padOf_60 : decode cX8_padOf 60 = .ok (.iload 5, 2) := by decide +kernel
theorem dX8_padOf_62 : decode cX8_padOf 62 = .ok (.iload 5, 2) := by decide +kernel
theorem dX8_padOf_64 : decode cX8_padOf 64 = .ok (.iload 4, 2) := by decide +kernel
theorem dX8_padOf_66 : decode cX8_padOf 66 = .ok (.if_icmp .lt 7, 3) := by decide +kernel
theorem dX8_padOf_69 : decode cX8_padOf 69 = .ok (.iconst 0, 1) := by decide +kernel
theorem dX8_padOf_70 : decode cX8_padOf 70 = .ok (.goto 25, 3) := by decide +kernel
theorem dX8_padOf_73 : decode cX8_padOf 73 = .ok (.iload_n 3, 1) := by decide +kernel
theorem dX8_padOf_74 : decode cX8_padOf 74 = .ok (.bipush 64, 2) := by decide +kernel
theorem dX8_padOf_76 : decode cX8_padOf 76 = .ok (.if_icmp .le 13, 3) := by decide +kernel
theorem dX8_padOf_79 : decode cX8_padOf 79 = .ok (.aload_n 0, 1) := by decide +kernel
theorem dX8_padOf_80 : decode cX8_padOf 80 = .ok (.getfield 62, 3) := by decide +kernel
theorem dX8_padOf_83 : decode cX8_padOf 83 = .ok (.iload 5, 2) := by decide +kernel
theorem dX8_padOf_85 : decode cX8_padOf 85 = .ok (.iaload, 1) := by decide +kernel
theorem dX8_padOf_86 : decode cX8_padOf 86 = .ok (.goto 9, 3) := by decide +kernel
theorem dX8_padOf_89 : decode cX8_padOf 89 = .ok (.aload_n 1, 1) := by decide +kernel
theorem dX8_padOf_90 : decode cX8_padOf 90 = .ok (.iload_n 2, 1) := by decide +kernel
theorem dX8_padOf_91 : decode cX8_padOf 91 = .ok (.iload 5, 2) := by decide +kernel
theorem dX8_padOf_93 : decode cX8_padOf 93 = .ok (.iadd, 1) := by decide +kernel
theorem dX8_padOf_94 : decode cX8_padOf 94 = .ok (.iaload, 1) := by decide +kernel
theorem dX8_padOf_95 : decode cX8_padOf 95 = .ok (.iastore, 1) := by decide +kernel
theorem dX8_padOf_96 : decode cX8_padOf 96 = .ok (.iinc 5 1, 3) := by decide +kernel
theorem dX8_padOf_99 : decode cX8_padOf 99 = .ok (.goto (-50), 3) := by decide +kernel
theorem dX8_padOf_102 : decode cX8_padOf 102 = .ok (.return_, 1) := by decide +kernel
theorem dX8_macOf_0 : decode cX8_macOf 0 = .ok (.iconst 0, 1) := by decide +kernel
theorem dX8_macOf_1 : decode cX8_macOf 1 = .ok (.istore_n 1, 1) := by decide +kernel
theorem dX8_macOf_2 : decode cX8_macOf 2 = .ok (.iload_n 1, 1) := by decide +kernel
theorem dX8_macOf_3 : decode cX8_macOf 3 = .ok (.bipush 64, 2) := by decide +kernel
theorem dX8_macOf_5 : decode cX8_macOf 5 = .ok (.if_icmp .ge 24, 3) := by decide +kernel
theorem dX8_macOf_8 : decode cX8_macOf 8 = .ok (.aload_n 0, 1) := by decide +kernel
theorem dX8_macOf_9 : decode cX8_macOf 9 = .ok (.getfield 50, 3) := by decide +kernel
theorem dX8_macOf_12 : decode cX8_macOf 12 = .ok (.iload_n 1, 1) := by decide +kernel
theorem dX8_macOf_13 : decode cX8_macOf 13 = .ok (.aload_n 0, 1) := by decide +kernel
theorem dX8_macOf_14 : decode cX8_macOf 14 = .ok (.getfield 65, 3) := by decide +kernel
theorem dX8_macOf_17 : decode cX8_macOf 17 = .ok (.iload_n 1, 1) := by decide +kernel
theorem dX8_macOf_18 : decode cX8_macOf 18 = .ok (.iaload, 1) := by decide +kernel
theorem dX8_macOf_19 : decode cX8_macOf 19 = .ok (.bipush 54, 2) := by decide +kernel
theorem dX8_macOf_21 : decode cX8_macOf 21 = .ok (.ixor, 1) := by decide +kernel
theorem dX8_macOf_22 : decode cX8_macOf 22 = .ok (.iastore, 1) := by decide +kernel
theorem dX8_macOf_23 : decode cX8_macOf 23 = .ok (.iinc 1 1, 3) := by decide +kernel
theorem dX8_macOf_26 : decode cX8_macOf 26 = .ok (.goto (-24), 3) := by decide +kernel
theorem dX8_macOf_29 : decode cX8_macOf 29 = .ok (.iconst 0, 1) := by decide +kernel
theorem dX8_macOf_30 : decode cX8_macOf 30 = .ok (.istore_n 1, 1) := by decide +kernel
theorem dX8_macOf_31 : decode cX8_macOf 31 = .ok (.iload_n 1, 1) := by decide +kernel
theorem dX8_macOf_32 : decode cX8_macOf 32 = .ok (.aload_n 0, 1) := by decide +kernel
theorem dX8_macOf_33 : decode cX8_macOf 33 = .ok (.getfield 145, 3) := by decide +kernel
theorem dX8_macOf_36 : decode cX8_macOf 36 = .ok (.if_icmp .ge 24, 3) := by decide +kernel
theorem dX8_macOf_39 : decode cX8_macOf 39 = .ok (.aload_n 0, 1) := by decide +kernel
theorem dX8_macOf_40 : decode cX8_macOf 40 = .ok (.getfield 50, 3) := by decide +kernel
theorem dX8_macOf_43 : decode cX8_macOf 43 = .ok (.bipush 64, 2) := by decide +kernel
theorem dX8_macOf_45 : decode cX8_macOf 45 = .ok (.iload_n 1, 1) := by decide +kernel
theorem dX8_macOf_46 : decode cX8_macOf 46 = .ok (.iadd, 1) := by decide +kernel
theorem dX8_macOf_47 : decode cX8_macOf 47 = .ok (.aload_n 0, 1) := by decide +kernel
theorem dX8_macOf_48 : decode cX8_macOf 48 = .ok (.getfield 68, 3) := by decide +kernel
theorem dX8_macOf_51 : decode cX8_macOf 51 = .ok (.iload_n 1, 1) := by decide +kernel
theorem dX8_macOf_52 : decode cX8_macOf 52 = .ok (.iaload, 1) := by decide +kernel
theorem dX8_macOf_53 : decode cX8_macOf 53 = .ok (.iastore, 1) := by decide +kernel
theorem dX8_macOf_54 : decode cX8_macOf 54 = .ok (.iinc 1 1, 3) := by decide +kernel
theorem dX8_macOf_57 : decode cX8_macOf 57 = .ok (.goto (-26), 3) := by decide +kernel
theorem dX8_macOf_60 : decode cX8_macOf 60 = .ok (.aload_n 0, 1) := by decide +kernel
theorem dX8_macOf_61 : decode cX8_macOf 61 = .ok (.bipush 64, 2) := by decide +kernel
theorem dX8_macOf_63 : decode cX8_macOf 63 = .ok (.aload_n 0, 1) := by decide +kernel
theorem dX8_macOf_64 : decode cX8_macOf 64 = .ok (.getfield 145, 3) := by decide +kernel
theorem dX8_macOf_67 : decode cX8_macOf 67 = .ok (.iadd, 1) := by decide +kernel
theorem dX8_macOf_68 : decode cX8_macOf 68 = .ok (.invokevirtual 142, 3) := by decide +kernel
theorem dX8_macOf_71 : decode cX8_macOf 71 = .ok (.iconst 0, 1) := by decide +kernel
theorem dX8_macOf_72 : decode cX8_macOf 72 = .ok (.istore_n 1, 1) := by decide +kernel
theorem dX8_macOf_73 : decode cX8_macOf 73 = .ok (.iload_n 1, 1) := by decide +kernel
theorem dX8_macOf_74 : decode cX8_macOf 74 = .ok (.bipush 64, 2) := by decide +kernel
theorem dX8_macOf_76 : decode cX8_macOf 76 = .ok (.if_icmp .ge 24, 3) := by decide +kernel
theorem dX8_macOf_79 : decode cX8_macOf 79 = .ok (.aload_n 0, 1) := by decide +kernel
theorem dX8_macOf_80 : decode cX8_macOf 80 = .ok (.getfield 50, 3) := by decide +kernel
theorem dX8_macOf_83 : decode cX8_macOf 83 = .ok (.iload_n 1, 1) := by decide +kernel
theorem dX8_macOf_84 : decode cX8_macOf 84 = .ok (.aload_n 0, 1) := by decide +kernel
theorem dX8_macOf_85 : decode cX8_macOf 85 = .ok (.getfield 65, 3) := by decide +kernel
theorem dX8_macOf_88 : decode cX8_macOf 88 = .ok (.iload_n 1, 1) := by decide +kernel
theorem dX8_macOf_89 : decode cX8_macOf 89 = .ok (.iaload, 1) := by decide +kernel
theorem dX8_macOf_90 : decode cX8_macOf 90 = .ok (.bipush 92, 2) := by decide +kernel
theorem dX8_macOf_92 : decode cX8_macOf 92 = .ok (.ixor, 1) := by decide +kernel
theorem dX8_macOf_93 : decode cX8_macOf 93 = .ok (.iastore, 1) := by decide +kernel
theorem dX8_macOf_94 : decode cX8_macOf 94 = .ok (.iinc 1 1, 3) := by decide +kernel
theorem dX8_macOf_97 : decode cX8_macOf 97 = .ok (.goto (-24), 3) := by decide +kernel
theorem dX8_macOf_100 : decode cX8_macOf 100 = .ok (.iconst 0, 1) := by decide +kernel
theorem dX8_macOf_101 : decode cX8_macOf 101 = .ok (.istore_n 1, 1) := by decide +kernel
theorem dX8_macOf_102 : decode cX8_macOf 102 = .ok (.iload_n 1, 1) := by decide +kernel
theorem dX8_macOf_103 : decode cX8_macOf 103 = .ok (.bipush 32, 2) := by decide +kernel
theorem dX8_macOf_105 : decode cX8_macOf 105 = .ok (.if_icmp .ge 24, 3) := by decide +kernel
theorem dX8_macOf_108 : decode cX8_macOf 108 = .ok (.aload_n 0, 1) := by decide +kernel
theorem dX8_macOf_109 : decode cX8_macOf 109 = .ok (.getfield 50, 3) := by decide +kernel
theorem dX8_macOf_112 : decode cX8_macOf 112 = .ok (.bipush 64, 2) := by decide +kernel
theorem dX8_macOf_114 : decode cX8_macOf 114 = .ok (.iload_n 1, 1) := by decide +kernel
theorem dX8_macOf_115 : decode cX8_macOf 115 = .ok (.iadd, 1) := by decide +kernel
theorem dX8_macOf_116 : decode cX8_macOf 116 = .ok (.aload_n 0, 1) := by decide +kernel
theorem dX8_macOf_117 : decode cX8_macOf 117 = .ok (.getfield 62, 3) := by decide +kernel
theorem dX8_macOf_120 : decode cX8_macOf 120 = .ok (.iload_n 1, 1) := by decide +kernel
theorem dX8_macOf_121 : decode cX8_macOf 121 = .ok (.iaload, 1) := by decide +kernel
theorem dX8_macOf_122 : decode cX8_macOf 122 = .ok (.iastore, 1) := by decide +kernel
theorem dX8_macOf_123 : decode cX8_macOf 123 = .ok (.iinc 1 1, 3) := by decide +kernel
theorem dX8_macOf_126 : decode cX8_macOf 126 = .ok (.goto (-24), 3) := by decide +kernel
theorem dX8_macOf_129 : decode cX8_macOf 129 = .ok (.aload_n 0, 1) := by decide +kernel
theorem dX8_macOf_130 : decode cX8_macOf 130 = .ok (.bipush 96, 2) := by decide +kernel
theorem dX8_macOf_132 : decode cX8_macOf 132 = .ok (.invokevirtual 142, 3) := by decide +kernel
theorem dX8_macOf_135 : decode cX8_macOf 135 = .ok (.return_, 1) := by decide +kernel
set_option maxHeartbeats 4000000 in
set_option maxRecDepth 100000 in
theorem c_R_pad (l : Launch) (D : va_G) (a0 : Nat) (a1 : Nat) (p2 : Nat) (p3 : Nat) (v_a0_thrown : Nat) (a0_tape : Nat) (v_a0_taped : Nat) (a0_out : Nat) (v_a0_outs : Nat) (a0_slots : Nat) (a0_kept : Nat) (a0_phase : Nat) (a0_secret : Nat) (a0_key : Nat) (a0_hide : Nat) (a0_iv : Nat) (a0_begin : Nat) (a0_each : Nat) (a0_root : Nat) (a0_power : Nat) (a0_work : Nat) (a0_w : Nat) (a0_h : Nat) (a0_state : Nat) (a0_sum : Nat) (a0_pad : Nat) (a0_text : Nat) (v_a0_texts : Nat) (a0_info : Nat) (v_a0_infos : Nat) (a0_made : Nat) (a0_blockKey : Nat) (a0_nonce : Nat) (a0_x : Nat) (a0_first : Nat) (a0_block : Nat) (a0_a : Nat) (a0_r : Nat) (a0_product : Nat) (a0_tag : Nat) (a0_sealed : Nat) (t_a0_work : Nat → By) (t_a0_w : Nat → Nat) (t_a0_h : Nat → Wd) (t_a0_state : Nat → Wd) (t_a0_each : Nat → Wd) (t_a0_begin : Nat → Wd) (t_a0_sum : Nat → By) (t_a0_pad : Nat → By) (n1 : Nat) (t_a1 : Nat → By)  (h1 : p2 + p3 ≤ n1) (hn : n1 < 2 ^ 31) (h2 : p3 ≤ 128) (he : ∀ j, j < 64 → t_a0_each j = shK j) (hbg : ∀ j, j < 8 → t_a0_begin j = shI j) : vM l D yX8_padOf cX8_padOf 6 none { frames := 3, cells := 0, slots := 0, locals := 84 } [.ref a0, .ref a1, .int (nI p2), .int (nI p3)] [(a0, .inr (8, [.int (nI v_a0_thrown), .ref a0_tape, .int (nI v_a0_taped), .ref a0_out, .int (nI v_a0_outs), .ref a0_slots, .ref a0_kept, .ref a0_phase, .ref a0_secret, .ref a0_key, .ref a0_hide, .ref a0_iv, .ref a0_begin, .ref a0_each, .ref a0_root, .ref a0_power, .ref a0_work, .ref a0_w, .ref a0_h, .ref a0_state, .ref a0_sum, .ref a0_pad, .ref a0_text, .int (nI v_a0_texts), .ref a0_info, .int (nI v_a0_infos), .ref a0_made, .ref a0_blockKey, .ref a0_nonce, .ref a0_x, .ref a0_first, .ref a0_block, .ref a0_a, .ref a0_r, .ref a0_product, .ref a0_tag, .ref a0_sealed])), (a0_work, aY D 2400 t_a0_work), (a0_w, aL D 64 t_a0_w), (a0_h, aM D 8 t_a0_h), (a0_state, aM D 8 t_a0_state), (a0_each, aM D 64 t_a0_each), (a0_begin, aM D 8 t_a0_begin), (a0_sum, aY D 32 t_a0_sum), (a0_pad, aY D 64 t_a0_pad), (a1, aY D n1 t_a1)] (fun r wo => ∃ (wk : Nat → By) (w1 : Nat → Nat) (th : Nat → Wd) (s1 : Nat → Wd) (su : Nat → By) (k1 : Nat → By), r = none ∧ wo = [(a0, .inr (8, [.int (nI v_a0_thrown), .ref a0_tape, .int (nI v_a0_taped), .ref a0_out, .int (nI v_a0_outs), .ref a0_slots, .ref a0_kept, .ref a0_phase, .ref a0_secret, .ref a0_key, .ref a0_hide, .ref a0_iv, .ref a0_begin, .ref a0_each, .ref a0_root, .ref a0_power, .ref a0_work, .ref a0_w, .ref a0_h, .ref a0_state, .ref a0_sum, .ref a0_pad, .ref a0_text, .int (nI v_a0_texts), .ref a0_info, .int (nI v_a0_infos), .ref a0_made, .ref a0_blockKey, .ref a0_nonce, .ref a0_x, .ref a0_first, .ref a0_block, .ref a0_a, .ref a0_r, .ref a0_product, .ref a0_tag, .ref a0_sealed])), (a0_work, aY D 2400 wk), (a0_w, aL D 64 w1), (a0_h, aM D 8 th), (a0_state, aM D 8 s1), (a0_each, aM D 64 t_a0_each), (a0_begin, aM D 8 t_a0_begin), (a0_sum, aY D 32 su), (a0_pad, aY D 64 k1), (a1, aY D n1 t_a1)] ∧ (∀ j, j < 64 → k1 j = padF (fun j => t_a1 (p2 + j)) p3 j)) := by
  refine vM.of (by decide) (Nat.le_of_ble_eq_true rfl) (fun C hCl hCD g R => ?_)
  subst hCl; subst hCD
  show VJ C 0 0 0 [(0, .ref a0), (1, .ref a1), (2, .int (nI p2)), (3, .int (nI p3))] [] [(a0, .inr (8, [.int (nI v_a0_thrown), .ref a0_tape, .int (nI v_a0_taped), .ref a0_out, .int (nI v_a0_outs), .ref a0_slots, .ref a0_kept, .ref a0_phase, .ref a0_secret, .ref a0_key, .ref a0_hide, .ref a0_iv, .ref a0_begin, .ref a0_each, .ref a0_root, .ref a0_power, .ref a0_work, .ref a0_w, .ref a0_h, .ref a0_state, .ref a0_sum, .ref a0_pad, .ref a0_text, .int (nI v_a0_texts), .ref a0_info, .int (nI v_a0_infos), .ref a0_made, .ref a0_blockKey, .ref a0_nonce, .ref a0_x, .ref a0_first, .ref a0_block, .ref a0_a, .ref a0_r, .ref a0_product, .ref a0_tag, .ref a0_sealed])), (a0_work, aY C.D 2400 t_a0_work), (a0_w, aL C.D 64 t_a0_w), (a0_h, aM C.D 8 t_a0_h), (a0_state, aM C.D 8 t_a0_state), (a0_each, aM C.D 64 t_a0_each), (a0_begin, aM C.D 8 t_a0_begin), (a0_sum, aY C.D 32 t_a0_sum), (a0_pad, aY C.D 64 t_a0_pad), (a1, aY C.D n1 t_a1)]
  refine v_iload_n g dX8_padOf_0 3 rfl 3 rfl ?_
  refine v_istore g [(4, .int (nI p3)), (0, .ref a0), (1, .ref a1), (2, .int (nI p2)), (3, .int (nI p3))] dX8_padOf_1 (by decide) rfl ?_
  have J46 : ∀ (wk : Nat → By) (w1 : Nat → Nat) (th : Nat → Wd) (s1 : Nat → Wd) (su : Nat → By) (sz : Nat), (sz ≤ 64) → ((p3 ≤ 64 ∧ sz = p3) ∨ (64 < p3 ∧ sz = 32 ∧ ∀ j, j < 32 → su j = digF (fun j => t_a1 (p2 + j)) p3 j)) → VJ C 0 0 46 [(4, .int (nI sz)), (0, .ref a0), (1, .ref a1), (2, .int (nI p2)), (3, .int (nI p3))] [] [(a0, .inr (8, [.int (nI v_a0_thrown), .ref a0_tape, .int (nI v_a0_taped), .ref a0_out, .int (nI v_a0_outs), .ref a0_slots, .ref a0_kept, .ref a0_phase, .ref a0_secret, .ref a0_key, .ref a0_hide, .ref a0_iv, .ref a0_begin, .ref a0_each, .ref a0_root, .ref a0_power, .ref a0_work, .ref a0_w, .ref a0_h, .ref a0_state, .ref a0_sum, .ref a0_pad, .ref a0_text, .int (nI v_a0_texts), .ref a0_info, .int (nI v_a0_infos), .ref a0_made, .ref a0_blockKey, .ref a0_nonce, .ref a0_x, .ref a0_first, .ref a0_block, .ref a0_a, .ref a0_r, .ref a0_product, .ref a0_tag, .ref a0_sealed])), (a0_work, aY C.D 2400 wk), (a0_w, aL C.D 64 w1), (a0_h, aM C.D 8 th), (a0_state, aM C.D 8 s1), (a0_each, aM C.D 64 t_a0_each), (a0_begin, aM C.D 8 t_a0_begin), (a0_sum, aY C.D 32 su), (a0_pad, aY C.D 64 t_a0_pad), (a1, aY C.D n1 t_a1)] := by
    intro wk w1 th s1 su sz hj0 hj1
    refine v_iconst g dX8_padOf_46 (v := nI 0) (by decide +kernel) ?_
    refine v_istore g [(5, .int (nI 0)), (4, .int (nI sz)), (0, .ref a0), (1, .ref a1), (2, .int (nI p2)), (3, .int (nI p3))] dX8_padOf_47 (by decide) rfl ?_
    have L49_0 : ∀ i : Nat, i ≤ 64 → ∀ (pk : Nat → By), (∀ j, j < i → pk j = padF (fun j => t_a1 (p2 + j)) p3 j) → VJ C 0 0 49 [(5, .int (nI i)), (4, .int (nI sz)), (0, .ref a0), (1, .ref a1), (2, .int (nI p2)), (3, .int (nI p3))] [] [(a0, .inr (8, [.int (nI v_a0_thrown), .ref a0_tape, .int (nI v_a0_taped), .ref a0_out, .int (nI v_a0_outs), .ref a0_slots, .ref a0_kept, .ref a0_phase, .ref a0_secret, .ref a0_key, .ref a0_hide, .ref a0_iv, .ref a0_begin, .ref a0_each, .ref a0_root, .ref a0_power, .ref a0_work, .ref a0_w, .ref a0_h, .ref a0_state, .ref a0_sum, .ref a0_pad, .ref a0_text, .int (nI v_a0_texts), .ref a0_info, .int (nI v_a0_infos), .ref a0_made, .ref a0_blockKey, .ref a0_nonce, .ref a0_x, .ref a0_first, .ref a0_block, .ref a0_a, .ref a0_r, .ref a0_product, .ref a0_tag, .ref a0_sealed])), (a0_work, aY C.D 2400 wk), (a0_w, aL C.D 64 w1), (a0_h, aM C.D 8 th), (a0_state, aM C.D 8 s1), (a0_each, aM C.D 64 t_a0_each), (a0_begin, aM C.D 8 t_a0_begin), (a0_sum, aY C.D 32 su), (a0_pad, aY C.D 64 pk), (a1, aY C.D n1 t_a1)] := by
      refine v_for (64) ?_ ?_
      · skip
        intro i hii ih pk hv0
        refine v_iload g dX8_padOf_49 0 rfl ?_
        refine v_bipush g dX8_padOf_51 (v := nI 64) (by decide +kernel) ?_
        refine v_icmp_geN g 102 dX8_padOf_53 (by decide) (by omega) (by omega) (fun h3 => ?_) (fun h3 => ?_)
        · skip
          exact absurd h3 (by omega)
        · skip
          refine v_aload_n g dX8_padOf_56 0 rfl 2 rfl ?_
          refine gf_X8_65 g dX8_padOf_57 0 rfl rfl ?_
          refine v_iload g dX8_padOf_60 0 rfl ?_
          refine v_iload g dX8_padOf_62 0 rfl ?_
          refine v_iload g dX8_padOf_64 1 rfl ?_
          refine v_icmp_ltN g 73 dX8_padOf_66 (by decide) (by omega) (by omega) (fun h4 => ?_) (fun h4 => ?_)
          · skip
            refine v_iload_n g dX8_padOf_73 3 rfl 5 rfl ?_
            refine v_bipush g dX8_padOf_74 (v := nI 64) (by decide +kernel) ?_
            refine v_icmp_leN g 89 dX8_padOf_76 (by decide) (by omega) (by omega) (fun h5 => ?_) (fun h5 => ?_)
            · skip
              refine v_aload_n g dX8_padOf_89 1 rfl 3 rfl ?_
              refine v_iload_n g dX8_padOf_90 2 rfl 4 rfl ?_
              refine v_iload g dX8_padOf_91 0 rfl ?_
              refine v_iaddN g dX8_padOf_93 ?_
              refine v_ialdY g 9 rfl (by omega) (by omega) dX8_padOf_94 ?_
              obtain ⟨t6, ht6⟩ : ∃ z : Nat → By, z = va_up pk i (t_a1 (p2 + i)) := ⟨_, rfl⟩
              refine v_iastY g ((t_a1 (p2 + i))) rfl t6 ht6 8 [(a0, .inr (8, [.int (nI v_a0_thrown), .ref a0_tape, .int (nI v_a0_taped), .ref a0_out, .int (nI v_a0_outs), .ref a0_slots, .ref a0_kept, .ref a0_phase, .ref a0_secret, .ref a0_key, .ref a0_hide, .ref a0_iv, .ref a0_begin, .ref a0_each, .ref a0_root, .ref a0_power, .ref a0_work, .ref a0_w, .ref a0_h, .ref a0_state, .ref a0_sum, .ref a0_pad, .ref a0_text, .int (nI v_a0_texts), .ref a0_info, .int (nI v_a0_infos), .ref a0_made, .ref a0_blockKey, .ref a0_nonce, .ref a0_x, .ref a0_first, .ref a0_block, .ref a0_a, .ref a0_r, .ref a0_product, .ref a0_tag, .ref a0_sealed])), (a0_work, aY C.D 2400 wk), (a0_w, aL C.D 64 w1), (a0_h, aM C.D 8 th), (a0_state, aM C.D 8 s1), (a0_each, aM C.D 64 t_a0_each), (a0_begin, aM C.D 8 t_a0_begin), (a0_sum, aY C.D 32 su), (a0_pad, aY C.D 64 t6), (a1, aY C.D n1 t_a1)] rfl (by omega) (by decide) dX8_padOf_95 rfl ?_
              refine v_iincN g 1 [(5, .int (nI (i + 1))), (4, .int (nI sz)), (0, .ref a0), (1, .ref a1), (2, .int (nI p2)), (3, .int (nI p3))] dX8_padOf_96 0 rfl (by decide +kernel) (by decide) rfl ?_
              refine v_goto g 49 dX8_padOf_99 (by decide) ?_
              exact ih t6 (up_lt (m := i) hv0 (pd_f (F := (fun j => t_a1 (p2 + j))) hj1 h5 h4) ht6)
            · skip
              refine v_aload_n g dX8_padOf_79 0 rfl 2 rfl ?_
              refine gf_X8_62 g dX8_padOf_80 0 rfl rfl ?_
              refine v_iload g dX8_padOf_83 0 rfl ?_
              refine v_ialdY g 7 rfl (by omega) (by decide) dX8_padOf_85 ?_
              refine v_goto g 95 dX8_padOf_86 (by decide) ?_
              obtain ⟨t7, ht7⟩ : ∃ z : Nat → By, z = va_up pk i (su i) := ⟨_, rfl⟩
              refine v_iastY g ((su i)) rfl t7 ht7 8 [(a0, .inr (8, [.int (nI v_a0_thrown), .ref a0_tape, .int (nI v_a0_taped), .ref a0_out, .int (nI v_a0_outs), .ref a0_slots, .ref a0_kept, .ref a0_phase, .ref a0_secret, .ref a0_key, .ref a0_hide, .ref a0_iv, .ref a0_begin, .ref a0_each, .ref a0_root, .ref a0_power, .ref a0_work, .ref a0_w, .ref a0_h, .ref a0_state, .ref a0_sum, .ref a0_pad, .ref a0_text, .int (nI v_a0_texts), .ref a0_info, .int (nI v_a0_infos), .ref a0_made, .ref a0_blockKey, .ref a0_nonce, .ref a0_x, .ref a0_first, .ref a0_block, .ref a0_a, .ref a0_r, .ref a0_product, .ref a0_tag, .ref a0_sealed])), (a0_work, aY C.D 2400 wk), (a0_w, aL C.D 64 w1), (a0_h, aM C.D 8 th), (a0_state, aM C.D 8 s1), (a0_each, aM C.D 64 t_a0_each), (a0_begin, aM C.D 8 t_a0_begin), (a0_sum, aY C.D 32 su), (a0_pad, aY C.D 64 t7), (a1, aY C.D n1 t_a1)] rfl (by omega) (by decide) dX8_padOf_95 rfl ?_
              refine v_iincN g 1 [(5, .int (nI (i + 1))), (4, .int (nI sz)), (0, .ref a0), (1, .ref a1), (2, .int (nI p2)), (3, .int (nI p3))] dX8_padOf_96 0 rfl (by decide +kernel) (by decide) rfl ?_
              refine v_goto g 49 dX8_padOf_99 (by decide) ?_
              exact ih t7 (up_lt (m := i) hv0 (pd_s hj1 h5 h4) ht7)
          · skip
            refine v_iconst g dX8_padOf_69 (v := nI 0) (by decide +kernel) ?_
            refine v_goto g 95 dX8_padOf_70 (by decide) ?_
            obtain ⟨t8, ht8⟩ : ∃ z : Nat → By, z = va_up pk i 0#8 := ⟨_, rfl⟩
            refine v_iastY g (0#8) rfl t8 ht8 8 [(a0, .inr (8, [.int (nI v_a0_thrown), .ref a0_tape, .int (nI v_a0_taped), .ref a0_out, .int (nI v_a0_outs), .ref a0_slots, .ref a0_kept, .ref a0_phase, .ref a0_secret, .ref a0_key, .ref a0_hide, .ref a0_iv, .ref a0_begin, .ref a0_each, .ref a0_root, .ref a0_power, .ref a0_work, .ref a0_w, .ref a0_h, .ref a0_state, .ref a0_sum, .ref a0_pad, .ref a0_text, .int (nI v_a0_texts), .ref a0_info, .int (nI v_a0_infos), .ref a0_made, .ref a0_blockKey, .ref a0_nonce, .ref a0_x, .ref a0_first, .ref a0_block, .ref a0_a, .ref a0_r, .ref a0_product, .ref a0_tag, .ref a0_sealed])), (a0_work, aY C.D 2400 wk), (a0_w, aL C.D 64 w1), (a0_h, aM C.D 8 th), (a0_state, aM C.D 8 s1), (a0_each, aM C.D 64 t_a0_each), (a0_begin, aM C.D 8 t_a0_begin), (a0_sum, aY C.D 32 su), (a0_pad, aY C.D 64 t8), (a1, aY C.D n1 t_a1)] rfl (by omega) (by decide) dX8_padOf_95 rfl ?_
            refine v_iincN g 1 [(5, .int (nI (i + 1))), (4, .int (nI sz)), (0, .ref a0), (1, .ref a1), (2, .int (nI p2)), (3, .int (nI p3))] dX8_padOf_96 0 rfl (by decide +kernel) (by decide) rfl ?_
            refine v_goto g 49 dX8_padOf_99 (by decide) ?_
            exact ih t8 (up_lt (m := i) hv0 (pd_z hj1 h4) ht8)
      · skip
        intro pk hv0
        refine v_iload g dX8_padOf_49 0 rfl ?_
        refine v_bipush g dX8_padOf_51 (v := nI 64) (by decide +kernel) ?_
        refine v_icmp_geN g 102 dX8_padOf_53 (by decide) (by omega) (by omega) (fun h9 => ?_) (fun h9 => ?_)
        · skip
          exact v_ret g R dX8_padOf_102 (by decide) (by decide) ⟨wk, w1, th, s1, su, pk, rfl, rfl, hv0⟩
        · skip
          exact absurd h9 (by omega)
    exact L49_0 0 (by omega) t_a0_pad (fun j hj => absurd hj (by omega))
  refine v_iload_n g dX8_padOf_3 3 rfl 4 rfl ?_
  refine v_bipush g dX8_padOf_4 (v := nI 64) (by decide +kernel) ?_
  refine v_icmp_leN g 46 dX8_padOf_6 (by decide) (by omega) (by omega) (fun h10 => ?_) (fun h10 => ?_)
  · skip
    exact J46 t_a0_work t_a0_w t_a0_h t_a0_state t_a0_sum p3 (by omega) (Or.inl ⟨by omega, rfl⟩)
  · skip
    refine v_iconst g dX8_padOf_9 (v := nI 0) (by decide +kernel) ?_
    refine v_istore g [(5, .int (nI 0)), (4, .int (nI p3)), (0, .ref a0), (1, .ref a1), (2, .int (nI p2)), (3, .int (nI p3))] dX8_padOf_10 (by decide) rfl ?_
    have L12_10 : ∀ i : Nat, i ≤ p3 → ∀ (wa : Nat → By), (∀ j, j < i → wa j = (fun j => t_a1 (p2 + j)) j) → VJ C 0 0 12 [(5, .int (nI i)), (4, .int (nI p3)), (0, .ref a0), (1, .ref a1), (2, .int (nI p2)), (3, .int (nI p3))] [] [(a0, .inr (8, [.int (nI v_a0_thrown), .ref a0_tape, .int (nI v_a0_taped), .ref a0_out, .int (nI v_a0_outs), .ref a0_slots, .ref a0_kept, .ref a0_phase, .ref a0_secret, .ref a0_key, .ref a0_hide, .ref a0_iv, .ref a0_begin, .ref a0_each, .ref a0_root, .ref a0_power, .ref a0_work, .ref a0_w, .ref a0_h, .ref a0_state, .ref a0_sum, .ref a0_pad, .ref a0_text, .int (nI v_a0_texts), .ref a0_info, .int (nI v_a0_infos), .ref a0_made, .ref a0_blockKey, .ref a0_nonce, .ref a0_x, .ref a0_first, .ref a0_block, .ref a0_a, .ref a0_r, .ref a0_product, .ref a0_tag, .ref a0_sealed])), (a0_work, aY C.D 2400 wa), (a0_w, aL C.D 64 t_a0_w), (a0_h, aM C.D 8 t_a0_h), (a0_state, aM C.D 8 t_a0_state), (a0_each, aM C.D 64 t_a0_each), (a0_begin, aM C.D 8 t_a0_begin), (a0_sum, aY C.D 32 t_a0_sum), (a0_pad, aY C.D 64 t_a0_pad), (a1, aY C.D n1 t_a1)] := by
      refine v_for (p3) ?_ ?_
      · skip
        intro i hii ih wa hv0
        refine v_iload g dX8_padOf_12 0 rfl ?_
        refine v_iload_n g dX8_padOf_14 3 rfl 5 rfl ?_
        refine v_icmp_geN g 37 dX8_padOf_15 (by decide) (by omega) (by omega) (fun h11 => ?_) (fun h11 => ?_)
        · skip
          exact absurd h11 (by omega)
        · skip
          refine v_aload_n g dX8_padOf_18 0 rfl 2 rfl ?_
          refine gf_X8_50 g dX8_padOf_19 0 rfl rfl ?_
          refine v_iload g dX8_padOf_22 0 rfl ?_
          refine v_aload_n g dX8_padOf_24 1 rfl 3 rfl ?_
          refine v_iload_n g dX8_padOf_25 2 rfl 4 rfl ?_
          refine v_iload g dX8_padOf_26 0 rfl ?_
          refine v_iaddN g dX8_padOf_28 ?_
          refine v_ialdY g 9 rfl (by omega) (by omega) dX8_padOf_29 ?_
          obtain ⟨t12, ht12⟩ : ∃ z : Nat → By, z = va_up wa i (t_a1 (p2 + i)) := ⟨_, rfl⟩
          refine v_iastY g ((t_a1 (p2 + i))) rfl t12 ht12 1 [(a0, .inr (8, [.int (nI v_a0_thrown), .ref a0_tape, .int (nI v_a0_taped), .ref a0_out, .int (nI v_a0_outs), .ref a0_slots, .ref a0_kept, .ref a0_phase, .ref a0_secret, .ref a0_key, .ref a0_hide, .ref a0_iv, .ref a0_begin, .ref a0_each, .ref a0_root, .ref a0_power, .ref a0_work, .ref a0_w, .ref a0_h, .ref a0_state, .ref a0_sum, .ref a0_pad, .ref a0_text, .int (nI v_a0_texts), .ref a0_info, .int (nI v_a0_infos), .ref a0_made, .ref a0_blockKey, .ref a0_nonce, .ref a0_x, .ref a0_first, .ref a0_block, .ref a0_a, .ref a0_r, .ref a0_product, .ref a0_tag, .ref a0_sealed])), (a0_work, aY C.D 2400 t12), (a0_w, aL C.D 64 t_a0_w), (a0_h, aM C.D 8 t_a0_h), (a0_state, aM C.D 8 t_a0_state), (a0_each, aM C.D 64 t_a0_each), (a0_begin, aM C.D 8 t_a0_begin), (a0_sum, aY C.D 32 t_a0_sum), (a0_pad, aY C.D 64 t_a0_pad), (a1, aY C.D n1 t_a1)] rfl (by omega) (by decide) dX8_padOf_30 rfl ?_
          refine v_iincN g 1 [(5, .int (nI (i + 1))), (4, .int (nI p3)), (0, .ref a0), (1, .ref a1), (2, .int (nI p2)), (3, .int (nI p3))] dX8_padOf_31 0 rfl (by decide +kernel) (by decide) rfl ?_
          refine v_goto g 12 dX8_padOf_34 (by decide) ?_
          exact ih t12 (up_lt (m := i) hv0 rfl ht12)
      · skip
        intro wa hv0
        refine v_iload g dX8_padOf_12 0 rfl ?_
        refine v_iload_n g dX8_padOf_14 3 rfl 5 rfl ?_
        refine v_icmp_geN g 37 dX8_padOf_15 (by decide) (by omega) (by omega) (fun h13 => ?_) (fun h13 => ?_)
        · skip
          have hwk := hv0
          refine v_aload_n g dX8_padOf_37 0 rfl 2 rfl ?_
          refine v_iload_n g dX8_padOf_38 3 rfl 5 rfl ?_
          refine v_callV (As := [.int (nI p3)]) (rest := []) (wr := [(a0_pad, aY C.D 64 t_a0_pad), (a1, aY C.D n1 t_a1)]) cw_X8_142 (hy_X8_digestOf) g (c_R_dig C.l C.D a0 p3 v_a0_thrown a0_tape v_a0_taped a0_out v_a0_outs a0_slots a0_kept a0_phase a0_secret a0_key a0_hide a0_iv a0_begin a0_each a0_root a0_power a0_work a0_w a0_h a0_state a0_sum a0_pad a0_text v_a0_texts a0_info v_a0_infos a0_made a0_blockKey a0_nonce a0_x a0_first a0_block a0_a a0_r a0_product a0_tag a0_sealed wa t_a0_w t_a0_h t_a0_state t_a0_each t_a0_begin t_a0_sum (by omega) he hbg) dX8_padOf_39 0 rfl rfl rfl (by decide) (by decide) (Nat.le_of_ble_eq_true rfl) [0, 1, 2, 3, 4, 5, 6, 7] [8, 9] rfl rfl (by decide) rfl (by decide) (by decide) _ rfl (fun r wo hp14 => ?_)
          obtain ⟨wk, w1, th, s1, su, rfl, rfl, hsu⟩ := hp14
          refine v_perm [2, 3, 4, 5, 6, 7, 8, 9, 0, 1] [(a0, .inr (8, [.int (nI v_a0_thrown), .ref a0_tape, .int (nI v_a0_taped), .ref a0_out, .int (nI v_a0_outs), .ref a0_slots, .ref a0_kept, .ref a0_phase, .ref a0_secret, .ref a0_key, .ref a0_hide, .ref a0_iv, .ref a0_begin, .ref a0_each, .ref a0_root, .ref a0_power, .ref a0_work, .ref a0_w, .ref a0_h, .ref a0_state, .ref a0_sum, .ref a0_pad, .ref a0_text, .int (nI v_a0_texts), .ref a0_info, .int (nI v_a0_infos), .ref a0_made, .ref a0_blockKey, .ref a0_nonce, .ref a0_x, .ref a0_first, .ref a0_block, .ref a0_a, .ref a0_r, .ref a0_product, .ref a0_tag, .ref a0_sealed])), (a0_work, aY C.D 2400 wk), (a0_w, aL C.D 64 w1), (a0_h, aM C.D 8 th), (a0_state, aM C.D 8 s1), (a0_each, aM C.D 64 t_a0_each), (a0_begin, aM C.D 8 t_a0_begin), (a0_sum, aY C.D 32 su), (a0_pad, aY C.D 64 t_a0_pad), (a1, aY C.D n1 t_a1)] (by decide) rfl rfl ?_
          show VJ C 0 0 42 [(5, .int (nI p3)), (4, .int (nI p3)), (0, .ref a0), (1, .ref a1), (2, .int (nI p2)), (3, .int (nI p3))] [] [(a0, .inr (8, [.int (nI v_a0_thrown), .ref a0_tape, .int (nI v_a0_taped), .ref a0_out, .int (nI v_a0_outs), .ref a0_slots, .ref a0_kept, .ref a0_phase, .ref a0_secret, .ref a0_key, .ref a0_hide, .ref a0_iv, .ref a0_begin, .ref a0_each, .ref a0_root, .ref a0_power, .ref a0_work, .ref a0_w, .ref a0_h, .ref a0_state, .ref a0_sum, .ref a0_pad, .ref a0_text, .int (nI v_a0_texts), .ref a0_info, .int (nI v_a0_infos), .ref a0_made, .ref a0_blockKey, .ref a0_nonce, .ref a0_x, .ref a0_first, .ref a0_block, .ref a0_a, .ref a0_r, .ref a0_product, .ref a0_tag, .ref a0_sealed])), (a0_work, aY C.D 2400 wk), (a0_w, aL C.D 64 w1), (a0_h, aM C.D 8 th), (a0_state, aM C.D 8 s1), (a0_each, aM C.D 64 t_a0_each), (a0_begin, aM C.D 8 t_a0_begin), (a0_sum, aY C.D 32 su), (a0_pad, aY C.D 64 t_a0_pad), (a1, aY C.D n1 t_a1)]
          refine v_bipush g dX8_padOf_42 (v := nI 32) (by decide +kernel) ?_
          refine v_istore g [(4, .int (nI 32)), (5, .int (nI p3)), (0, .ref a0), (1, .ref a1), (2, .int (nI p2)), (3, .int (nI p3))] dX8_padOf_44 (by decide) rfl ?_
          refine v_lpick [0, 2, 3, 4, 5] [(4, .int (nI 32)), (0, .ref a0), (1, .ref a1), (2, .int (nI p2)), (3, .int (nI p3))] rfl ?_
          exact J46 wk w1 th s1 su 32 (by decide) (Or.inr ⟨by omega, rfl, fun j hj => (hsu j hj).trans (congrFun (digF_congr hwk) j)⟩)
        · skip
          exact absurd h13 (by omega)
    exact L12_10 0 (by omega) t_a0_work (fun j hj => absurd hj (by omega))
set_option maxHeartbeats 4000000 in
set_option maxRecDepth 100000 in
theorem c_R_mac (l : Launch) (D : va_G) (a0 : Nat) (v_a0_thrown : Nat) (a0_tape : Nat) (v_a0_taped : Nat) (a0_out : Nat) (v_a0_outs : Nat) (a0_slots : Nat) (a0_kept : Nat) (a0_phase : Nat) (a0_secret : Nat) (a0_key : Nat) (a0_hide : Nat) (a0_iv : Nat) (a0_begin : Nat) (a0_each : Nat) (a0_root : Nat) (a0_power : Nat) (a0_work : Nat) (a0_w : Nat) (a0_h : Nat) (a0_state : Nat) (a0_sum : Nat) (a0_pad : Nat) (a0_text : Nat) (v_a0_texts : Nat) (a0_info : Nat) (v_a0_infos : Nat) (a0_made : Nat) (a0_blockKey : Nat) (a0_nonce : Nat) (a0_x : Nat) (a0_first : Nat) (a0_block : Nat) (a0_a : Nat) (a0_r : Nat) (a0_product : Nat) (a0_tag : Nat) (a0_sealed : Nat) (t_a0_work : Nat → By) (t_a0_w : Nat → Nat) (t_a0_h : Nat → Wd) (t_a0_state : Nat → Wd) (t_a0_each : Nat → Wd) (t_a0_begin : Nat → Wd) (t_a0_sum : Nat → By) (t_a0_pad : Nat → By) (t_a0_text : Nat → By)  (h1 : v_a0_texts ≤ 2200) (he : ∀ j, j < 64 → t_a0_each j = shK j) (hbg : ∀ j, j < 8 → t_a0_begin j = shI j) : vM l D yX8_macOf cX8_macOf 2 none { frames := 3, cells := 0, slots := 0, locals := 84 } [.ref a0] [(a0, .inr (8, [.int (nI v_a0_thrown), .ref a0_tape, .int (nI v_a0_taped), .ref a0_out, .int (nI v_a0_outs), .ref a0_slots, .ref a0_kept, .ref a0_phase, .ref a0_secret, .ref a0_key, .ref a0_hide, .ref a0_iv, .ref a0_begin, .ref a0_each, .ref a0_root, .ref a0_power, .ref a0_work, .ref a0_w, .ref a0_h, .ref a0_state, .ref a0_sum, .ref a0_pad, .ref a0_text, .int (nI v_a0_texts), .ref a0_info, .int (nI v_a0_infos), .ref a0_made, .ref a0_blockKey, .ref a0_nonce, .ref a0_x, .ref a0_first, .ref a0_block, .ref a0_a, .ref a0_r, .ref a0_product, .ref a0_tag, .ref a0_sealed])), (a0_work, aY D 2400 t_a0_work), (a0_w, aL D 64 t_a0_w), (a0_h, aM D 8 t_a0_h), (a0_state, aM D 8 t_a0_state), (a0_each, aM D 64 t_a0_each), (a0_begin, aM D 8 t_a0_begin), (a0_sum, aY D 32 t_a0_sum), (a0_pad, aY D 64 t_a0_pad), (a0_text, aY D 2400 t_a0_text)] (fun r wo => ∃ (wk : Nat → By) (w1 : Nat → Nat) (th : Nat → Wd) (s1 : Nat → Wd) (su : Nat → By), r = none ∧ wo = [(a0, .inr (8, [.int (nI v_a0_thrown), .ref a0_tape, .int (nI v_a0_taped), .ref a0_out, .int (nI v_a0_outs), .ref a0_slots, .ref a0_kept, .ref a0_phase, .ref a0_secret, .ref a0_key, .ref a0_hide, .ref a0_iv, .ref a0_begin, .ref a0_each, .ref a0_root, .ref a0_power, .ref a0_work, .ref a0_w, .ref a0_h, .ref a0_state, .ref a0_sum, .ref a0_pad, .ref a0_text, .int (nI v_a0_texts), .ref a0_info, .int (nI v_a0_infos), .ref a0_made, .ref a0_blockKey, .ref a0_nonce, .ref a0_x, .ref a0_first, .ref a0_block, .ref a0_a, .ref a0_r, .ref a0_product, .ref a0_tag, .ref a0_sealed])), (a0_work, aY D 2400 wk), (a0_w, aL D 64 w1), (a0_h, aM D 8 th), (a0_state, aM D 8 s1), (a0_each, aM D 64 t_a0_each), (a0_begin, aM D 8 t_a0_begin), (a0_sum, aY D 32 su), (a0_pad, aY D 64 t_a0_pad), (a0_text, aY D 2400 t_a0_text)] ∧ (∀ j, j < 32 → su j = macP t_a0_pad t_a0_text v_a0_texts j)) := by
  refine vM.of (by decide) (Nat.le_of_ble_eq_true rfl) (fun C hCl hCD g R => ?_)
  subst hCl; subst hCD
  show VJ C 0 0 0 [(0, .ref a0)] [] [(a0, .inr (8, [.int (nI v_a0_thrown), .ref a0_tape, .int (nI v_a0_taped), .ref a0_out, .int (nI v_a0_outs), .ref a0_slots, .ref a0_kept, .ref a0_phase, .ref a0_secret, .ref a0_key, .ref a0_hide, .ref a0_iv, .ref a0_begin, .ref a0_each, .ref a0_root, .ref a0_power, .ref a0_work, .ref a0_w, .ref a0_h, .ref a0_state, .ref a0_sum, .ref a0_pad, .ref a0_text, .int (nI v_a0_texts), .ref a0_info, .int (nI v_a0_infos), .ref a0_made, .ref a0_blockKey, .ref a0_nonce, .ref a0_x, .ref a0_first, .ref a0_block, .ref a0_a, .ref a0_r, .ref a0_product, .ref a0_tag, .ref a0_sealed])), (a0_work, aY C.D 2400 t_a0_work), (a0_w, aL C.D 64 t_a0_w), (a0_h, aM C.D 8 t_a0_h), (a0_state, aM C.D 8 t_a0_state), (a0_each, aM C.D 64 t_a0_each), (a0_begin, aM C.D 8 t_a0_begin), (a0_sum, aY C.D 32 t_a0_sum), (a0_pad, aY C.D 64 t_a0_pad), (a0_text, aY C.D 2400 t_a0_text)]
  refine v_iconst g dX8_macOf_0 (v := nI 0) (by decide +kernel) ?_
  refine v_istore_n g [(1, .int (nI 0)), (0, .ref a0)] dX8_macOf_1 1 rfl (by decide) rfl ?_
  have L2_0 : ∀ i : Nat, i ≤ 64 → ∀ (wa : Nat → By), (∀ j, j < i → wa j = (fun j => t_a0_pad j ^^^ 54#8) j) → VJ C 0 0 2 [(1, .int (nI i)), (0, .ref a0)] [] [(a0, .inr (8, [.int (nI v_a0_thrown), .ref a0_tape, .int (nI v_a0_taped), .ref a0_out, .int (nI v_a0_outs), .ref a0_slots, .ref a0_kept, .ref a0_phase, .ref a0_secret, .ref a0_key, .ref a0_hide, .ref a0_iv, .ref a0_begin, .ref a0_each, .ref a0_root, .ref a0_power, .ref a0_work, .ref a0_w, .ref a0_h, .ref a0_state, .ref a0_sum, .ref a0_pad, .ref a0_text, .int (nI v_a0_texts), .ref a0_info, .int (nI v_a0_infos), .ref a0_made, .ref a0_blockKey, .ref a0_nonce, .ref a0_x, .ref a0_first, .ref a0_block, .ref a0_a, .ref a0_r, .ref a0_product, .ref a0_tag, .ref a0_sealed])), (a0_work, aY C.D 2400 wa), (a0_w, aL C.D 64 t_a0_w), (a0_h, aM C.D 8 t_a0_h), (a0_state, aM C.D 8 t_a0_state), (a0_each, aM C.D 64 t_a0_each), (a0_begin, aM C.D 8 t_a0_begin), (a0_sum, aY C.D 32 t_a0_sum), (a0_pad, aY C.D 64 t_a0_pad), (a0_text, aY C.D 2400 t_a0_text)] := by
    refine v_for (64) ?_ ?_
    · skip
      intro i hii ih wa hv0
      refine v_iload_n g dX8_macOf_2 1 rfl 0 rfl ?_
      refine v_bipush g dX8_macOf_3 (v := nI 64) (by decide +kernel) ?_
      refine v_icmp_geN g 29 dX8_macOf_5 (by decide) (by omega) (by omega) (fun h2 => ?_) (fun h2 => ?_)
      · skip
        exact absurd h2 (by omega)
      · skip
        refine v_aload_n g dX8_macOf_8 0 rfl 1 rfl ?_
        refine gf_X8_50 g dX8_macOf_9 0 rfl rfl ?_
        refine v_iload_n g dX8_macOf_12 1 rfl 0 rfl ?_
        refine v_aload_n g dX8_macOf_13 0 rfl 1 rfl ?_
        refine gf_X8_65 g dX8_macOf_14 0 rfl rfl ?_
        refine v_iload_n g dX8_macOf_17 1 rfl 0 rfl ?_
        refine v_ialdY g 8 rfl (by omega) (by decide) dX8_macOf_18 ?_
        refine v_bipush g dX8_macOf_19 (v := nI 54) (by decide +kernel) ?_
        refine v_ixorN g dX8_macOf_21 ?_
        refine v_toi (nI ((t_a0_pad i) ^^^ 54#8).toNat) (congrArg nI (BitVec.toNat_xor ((t_a0_pad i)) (54#8)).symm) ?_
        obtain ⟨t3, ht3⟩ : ∃ z : Nat → By, z = va_up wa i ((t_a0_pad i) ^^^ 54#8) := ⟨_, rfl⟩
        refine v_iastY g (((t_a0_pad i) ^^^ 54#8)) rfl t3 ht3 1 [(a0, .inr (8, [.int (nI v_a0_thrown), .ref a0_tape, .int (nI v_a0_taped), .ref a0_out, .int (nI v_a0_outs), .ref a0_slots, .ref a0_kept, .ref a0_phase, .ref a0_secret, .ref a0_key, .ref a0_hide, .ref a0_iv, .ref a0_begin, .ref a0_each, .ref a0_root, .ref a0_power, .ref a0_work, .ref a0_w, .ref a0_h, .ref a0_state, .ref a0_sum, .ref a0_pad, .ref a0_text, .int (nI v_a0_texts), .ref a0_info, .int (nI v_a0_infos), .ref a0_made, .ref a0_blockKey, .ref a0_nonce, .ref a0_x, .ref a0_first, .ref a0_block, .ref a0_a, .ref a0_r, .ref a0_product, .ref a0_tag, .ref a0_sealed])), (a0_work, aY C.D 2400 t3), (a0_w, aL C.D 64 t_a0_w), (a0_h, aM C.D 8 t_a0_h), (a0_state, aM C.D 8 t_a0_state), (a0_each, aM C.D 64 t_a0_each), (a0_begin, aM C.D 8 t_a0_begin), (a0_sum, aY C.D 32 t_a0_sum), (a0_pad, aY C.D 64 t_a0_pad), (a0_text, aY C.D 2400 t_a0_text)] rfl (by omega) (by decide) dX8_macOf_22 rfl ?_
        refine v_iincN g 1 [(1, .int (nI (i + 1))), (0, .ref a0)] dX8_macOf_23 0 rfl (by decide +kernel) (by decide) rfl ?_
        refine v_goto g 2 dX8_macOf_26 (by decide) ?_
        exact ih t3 (up_lt (m := i) hv0 rfl ht3)
    · skip
      intro wa hv0
      refine v_iload_n g dX8_macOf_2 1 rfl 0 rfl ?_
      refine v_bipush g dX8_macOf_3 (v := nI 64) (by decide +kernel) ?_
      refine v_icmp_geN g 29 dX8_macOf_5 (by decide) (by omega) (by omega) (fun h4 => ?_) (fun h4 => ?_)
      · skip
        have ha := hv0
        refine v_iconst g dX8_macOf_29 (v := nI 0) (by decide +kernel) ?_
        refine v_istore_n g [(1, .int (nI 0)), (0, .ref a0)] dX8_macOf_30 1 rfl (by decide) rfl ?_
        have L31_4 : ∀ i : Nat, i ≤ v_a0_texts → ∀ (wb : Nat → By), (∀ j, j < 64 + i → wb j = cat (fun j => t_a0_pad j ^^^ 54#8) 64 t_a0_text j) → VJ C 0 0 31 [(1, .int (nI i)), (0, .ref a0)] [] [(a0, .inr (8, [.int (nI v_a0_thrown), .ref a0_tape, .int (nI v_a0_taped), .ref a0_out, .int (nI v_a0_outs), .ref a0_slots, .ref a0_kept, .ref a0_phase, .ref a0_secret, .ref a0_key, .ref a0_hide, .ref a0_iv, .ref a0_begin, .ref a0_each, .ref a0_root, .ref a0_power, .ref a0_work, .ref a0_w, .ref a0_h, .ref a0_state, .ref a0_sum, .ref a0_pad, .ref a0_text, .int (nI v_a0_texts), .ref a0_info, .int (nI v_a0_infos), .ref a0_made, .ref a0_blockKey, .ref a0_nonce, .ref a0_x, .ref a0_first, .ref a0_block, .ref a0_a, .ref a0_r, .ref a0_product, .ref a0_tag, .ref a0_sealed])), (a0_work, aY C.D 2400 wb), (a0_w, aL C.D 64 t_a0_w), (a0_h, aM C.D 8 t_a0_h), (a0_state, aM C.D 8 t_a0_state), (a0_each, aM C.D 64 t_a0_each), (a0_begin, aM C.D 8 t_a0_begin), (a0_sum, aY C.D 32 t_a0_sum), (a0_pad, aY C.D 64 t_a0_pad), (a0_text, aY C.D 2400 t_a0_text)] := by
          refine v_for (v_a0_texts) ?_ ?_
          · skip
            intro i hii ih wb hv0
            refine v_iload_n g dX8_macOf_31 1 rfl 0 rfl ?_
            refine v_aload_n g dX8_macOf_32 0 rfl 1 rfl ?_
            refine gf_X8_145 g dX8_macOf_33 0 rfl rfl ?_
            refine v_icmp_geN g 60 dX8_macOf_36 (by decide) (by omega) (by omega) (fun h5 => ?_) (fun h5 => ?_)
            · skip
              exact absurd h5 (by omega)
            · skip
              refine v_aload_n g dX8_macOf_39 0 rfl 1 rfl ?_
              refine gf_X8_50 g dX8_macOf_40 0 rfl rfl ?_
              refine v_bipush g dX8_macOf_43 (v := nI 64) (by decide +kernel) ?_
              refine v_iload_n g dX8_macOf_45 1 rfl 0 rfl ?_
              refine v_iaddN g dX8_macOf_46 ?_
              refine v_aload_n g dX8_macOf_47 0 rfl 1 rfl ?_
              refine gf_X8_68 g dX8_macOf_48 0 rfl rfl ?_
              refine v_iload_n g dX8_macOf_51 1 rfl 0 rfl ?_
              refine v_ialdY g 9 rfl (by omega) (by decide) dX8_macOf_52 ?_
              obtain ⟨t6, ht6⟩ : ∃ z : Nat → By, z = va_up wb (64 + i) (t_a0_text i) := ⟨_, rfl⟩
              refine v_iastY g ((t_a0_text i)) rfl t6 ht6 1 [(a0, .inr (8, [.int (nI v_a0_thrown), .ref a0_tape, .int (nI v_a0_taped), .ref a0_out, .int (nI v_a0_outs), .ref a0_slots, .ref a0_kept, .ref a0_phase, .ref a0_secret, .ref a0_key, .ref a0_hide, .ref a0_iv, .ref a0_begin, .ref a0_each, .ref a0_root, .ref a0_power, .ref a0_work, .ref a0_w, .ref a0_h, .ref a0_state, .ref a0_sum, .ref a0_pad, .ref a0_text, .int (nI v_a0_texts), .ref a0_info, .int (nI v_a0_infos), .ref a0_made, .ref a0_blockKey, .ref a0_nonce, .ref a0_x, .ref a0_first, .ref a0_block, .ref a0_a, .ref a0_r, .ref a0_product, .ref a0_tag, .ref a0_sealed])), (a0_work, aY C.D 2400 t6), (a0_w, aL C.D 64 t_a0_w), (a0_h, aM C.D 8 t_a0_h), (a0_state, aM C.D 8 t_a0_state), (a0_each, aM C.D 64 t_a0_each), (a0_begin, aM C.D 8 t_a0_begin), (a0_sum, aY C.D 32 t_a0_sum), (a0_pad, aY C.D 64 t_a0_pad), (a0_text, aY C.D 2400 t_a0_text)] rfl (by omega) (by decide) dX8_macOf_53 rfl ?_
              refine v_iincN g 1 [(1, .int (nI (i + 1))), (0, .ref a0)] dX8_macOf_54 0 rfl (by decide +kernel) (by decide) rfl ?_
              refine v_goto g 31 dX8_macOf_57 (by decide) ?_
              exact ih t6 (up_lt (m := 64 + i) hv0 (cat_at _ _ _ _) ht6)
          · skip
            intro wb hv0
            refine v_iload_n g dX8_macOf_31 1 rfl 0 rfl ?_
            refine v_aload_n g dX8_macOf_32 0 rfl 1 rfl ?_
            refine gf_X8_145 g dX8_macOf_33 0 rfl rfl ?_
            refine v_icmp_geN g 60 dX8_macOf_36 (by decide) (by omega) (by omega) (fun h7 => ?_) (fun h7 => ?_)
            · skip
              have hb := hv0
              refine v_aload_n g dX8_macOf_60 0 rfl 1 rfl ?_
              refine v_bipush g dX8_macOf_61 (v := nI 64) (by decide +kernel) ?_
              refine v_aload_n g dX8_macOf_63 0 rfl 1 rfl ?_
              refine gf_X8_145 g dX8_macOf_64 0 rfl rfl ?_
              refine v_iaddN g dX8_macOf_67 ?_
              refine v_callV (As := [.int (nI (64 + v_a0_texts))]) (rest := []) (wr := [(a0_pad, aY C.D 64 t_a0_pad), (a0_text, aY C.D 2400 t_a0_text)]) cw_X8_142 (hy_X8_digestOf) g (c_R_dig C.l C.D a0 (64 + v_a0_texts) v_a0_thrown a0_tape v_a0_taped a0_out v_a0_outs a0_slots a0_kept a0_phase a0_secret a0_key a0_hide a0_iv a0_begin a0_each a0_root a0_power a0_work a0_w a0_h a0_state a0_sum a0_pad a0_text v_a0_texts a0_info v_a0_infos a0_made a0_blockKey a0_nonce a0_x a0_first a0_block a0_a a0_r a0_product a0_tag a0_sealed wb t_a0_w t_a0_h t_a0_state t_a0_each t_a0_begin t_a0_sum (by omega) he hbg) dX8_macOf_68 0 rfl rfl rfl (by decide) (by decide) (Nat.le_of_ble_eq_true rfl) [0, 1, 2, 3, 4, 5, 6, 7] [8, 9] rfl rfl (by decide) rfl (by decide) (by decide) _ rfl (fun r wo hp8 => ?_)
              obtain ⟨wc, w1, th, s1, su, rfl, rfl, hsu⟩ := hp8
              refine v_perm [2, 3, 4, 5, 6, 7, 8, 9, 0, 1] [(a0, .inr (8, [.int (nI v_a0_thrown), .ref a0_tape, .int (nI v_a0_taped), .ref a0_out, .int (nI v_a0_outs), .ref a0_slots, .ref a0_kept, .ref a0_phase, .ref a0_secret, .ref a0_key, .ref a0_hide, .ref a0_iv, .ref a0_begin, .ref a0_each, .ref a0_root, .ref a0_power, .ref a0_work, .ref a0_w, .ref a0_h, .ref a0_state, .ref a0_sum, .ref a0_pad, .ref a0_text, .int (nI v_a0_texts), .ref a0_info, .int (nI v_a0_infos), .ref a0_made, .ref a0_blockKey, .ref a0_nonce, .ref a0_x, .ref a0_first, .ref a0_block, .ref a0_a, .ref a0_r, .ref a0_product, .ref a0_tag, .ref a0_sealed])), (a0_work, aY C.D 2400 wc), (a0_w, aL C.D 64 w1), (a0_h, aM C.D 8 th), (a0_state, aM C.D 8 s1), (a0_each, aM C.D 64 t_a0_each), (a0_begin, aM C.D 8 t_a0_begin), (a0_sum, aY C.D 32 su), (a0_pad, aY C.D 64 t_a0_pad), (a0_text, aY C.D 2400 t_a0_text)] (by decide) rfl rfl ?_
              show VJ C 0 0 71 [(1, .int (nI v_a0_texts)), (0, .ref a0)] [] [(a0, .inr (8, [.int (nI v_a0_thrown), .ref a0_tape, .int (nI v_a0_taped), .ref a0_out, .int (nI v_a0_outs), .ref a0_slots, .ref a0_kept, .ref a0_phase, .ref a0_secret, .ref a0_key, .ref a0_hide, .ref a0_iv, .ref a0_begin, .ref a0_each, .ref a0_root, .ref a0_power, .ref a0_work, .ref a0_w, .ref a0_h, .ref a0_state, .ref a0_sum, .ref a0_pad, .ref a0_text, .int (nI v_a0_texts), .ref a0_info, .int (nI v_a0_infos), .ref a0_made, .ref a0_blockKey, .ref a0_nonce, .ref a0_x, .ref a0_first, .ref a0_block, .ref a0_a, .ref a0_r, .ref a0_product, .ref a0_tag, .ref a0_sealed])), (a0_work, aY C.D 2400 wc), (a0_w, aL C.D 64 w1), (a0_h, aM C.D 8 th), (a0_state, aM C.D 8 s1), (a0_each, aM C.D 64 t_a0_each), (a0_begin, aM C.D 8 t_a0_begin), (a0_sum, aY C.D 32 su), (a0_pad, aY C.D 64 t_a0_pad), (a0_text, aY C.D 2400 t_a0_text)]
              have hs1 : ∀ j, j < 32 → su j = digF (cat (fun j => t_a0_pad j ^^^ 54#8) 64 t_a0_text) (64 + v_a0_texts) j := fun j hj => (hsu j hj).trans (congrFun (digF_congr hb) j)
              refine v_iconst g dX8_macOf_71 (v := nI 0) (by decide +kernel) ?_
              refine v_istore_n g [(1, .int (nI 0)), (0, .ref a0)] dX8_macOf_72 1 rfl (by decide) rfl ?_
              have L73_8 : ∀ i : Nat, i ≤ 64 → ∀ (wd : Nat → By), (∀ j, j < i → wd j = (fun j => t_a0_pad j ^^^ 92#8) j) → VJ C 0 0 73 [(1, .int (nI i)), (0, .ref a0)] [] [(a0, .inr (8, [.int (nI v_a0_thrown), .ref a0_tape, .int (nI v_a0_taped), .ref a0_out, .int (nI v_a0_outs), .ref a0_slots, .ref a0_kept, .ref a0_phase, .ref a0_secret, .ref a0_key, .ref a0_hide, .ref a0_iv, .ref a0_begin, .ref a0_each, .ref a0_root, .ref a0_power, .ref a0_work, .ref a0_w, .ref a0_h, .ref a0_state, .ref a0_sum, .ref a0_pad, .ref a0_text, .int (nI v_a0_texts), .ref a0_info, .int (nI v_a0_infos), .ref a0_made, .ref a0_blockKey, .ref a0_nonce, .ref a0_x, .ref a0_first, .ref a0_block, .ref a0_a, .ref a0_r, .ref a0_product, .ref a0_tag, .ref a0_sealed])), (a0_work, aY C.D 2400 wd), (a0_w, aL C.D 64 w1), (a0_h, aM C.D 8 th), (a0_state, aM C.D 8 s1), (a0_each, aM C.D 64 t_a0_each), (a0_begin, aM C.D 8 t_a0_begin), (a0_sum, aY C.D 32 su), (a0_pad, aY C.D 64 t_a0_pad), (a0_text, aY C.D 2400 t_a0_text)] := by
                refine v_for (64) ?_ ?_
                · skip
                  intro i hii ih wd hv0
                  refine v_iload_n g dX8_macOf_73 1 rfl 0 rfl ?_
                  refine v_bipush g dX8_macOf_74 (v := nI 64) (by decide +kernel) ?_
                  refine v_icmp_geN g 100 dX8_macOf_76 (by decide) (by omega) (by omega) (fun h9 => ?_) (fun h9 => ?_)
                  · skip
                    exact absurd h9 (by omega)
                  · skip
                    refine v_aload_n g dX8_macOf_79 0 rfl 1 rfl ?_
                    refine gf_X8_50 g dX8_macOf_80 0 rfl rfl ?_
                    refine v_iload_n g dX8_macOf_83 1 rfl 0 rfl ?_
                    refine v_aload_n g dX8_macOf_84 0 rfl 1 rfl ?_
                    refine gf_X8_65 g dX8_macOf_85 0 rfl rfl ?_
                    refine v_iload_n g dX8_macOf_88 1 rfl 0 rfl ?_
                    refine v_ialdY g 8 rfl (by omega) (by decide) dX8_macOf_89 ?_
                    refine v_bipush g dX8_macOf_90 (v := nI 92) (by decide +kernel) ?_
                    refine v_ixorN g dX8_macOf_92 ?_
                    refine v_toi (nI ((t_a0_pad i) ^^^ 92#8).toNat) (congrArg nI (BitVec.toNat_xor ((t_a0_pad i)) (92#8)).symm) ?_
                    obtain ⟨t10, ht10⟩ : ∃ z : Nat → By, z = va_up wd i ((t_a0_pad i) ^^^ 92#8) := ⟨_, rfl⟩
                    refine v_iastY g (((t_a0_pad i) ^^^ 92#8)) rfl t10 ht10 1 [(a0, .inr (8, [.int (nI v_a0_thrown), .ref a0_tape, .int (nI v_a0_taped), .ref a0_out, .int (nI v_a0_outs), .ref a0_slots, .ref a0_kept, .ref a0_phase, .ref a0_secret, .ref a0_key, .ref a0_hide, .ref a0_iv, .ref a0_begin, .ref a0_each, .ref a0_root, .ref a0_power, .ref a0_work, .ref a0_w, .ref a0_h, .ref a0_state, .ref a0_sum, .ref a0_pad, .ref a0_text, .int (nI v_a0_texts), .ref a0_info, .int (nI v_a0_infos), .ref a0_made, .ref a0_blockKey, .ref a0_nonce, .ref a0_x, .ref a0_first, .ref a0_block, .ref a0_a, .ref a0_r, .ref a0_product, .ref a0_tag, .ref a0_sealed])), (a0_work, aY C.D 2400 t10), (a0_w, aL C.D 64 w1), (a0_h, aM C.D 8 th), (a0_state, aM C.D 8 s1), (a0_each, aM C.D 64 t_a0_each), (a0_begin, aM C.D 8 t_a0_begin), (a0_sum, aY C.D 32 su), (a0_pad, aY C.D 64 t_a0_pad), (a0_text, aY C.D 2400 t_a0_text)] rfl (by omega) (by decide) dX8_macOf_93 rfl ?_
                    refine v_iincN g 1 [(1, .int (nI (i + 1))), (0, .ref a0)] dX8_macOf_94 0 rfl (by decide +kernel) (by decide) rfl ?_
                    refine v_goto g 73 dX8_macOf_97 (by decide) ?_
                    exact ih t10 (up_lt (m := i) hv0 rfl ht10)
                · skip
                  intro wd hv0
                  refine v_iload_n g dX8_macOf_73 1 rfl 0 rfl ?_
                  refine v_bipush g dX8_macOf_74 (v := nI 64) (by decide +kernel) ?_
                  refine v_icmp_geN g 100 dX8_macOf_76 (by decide) (by omega) (by omega) (fun h11 => ?_) (fun h11 => ?_)
                  · skip
                    have hd := hv0
                    refine v_iconst g dX8_macOf_100 (v := nI 0) (by decide +kernel) ?_
                    refine v_istore_n g [(1, .int (nI 0)), (0, .ref a0)] dX8_macOf_101 1 rfl (by decide) rfl ?_
                    have L102_11 : ∀ i : Nat, i ≤ 32 → ∀ (we : Nat → By), (∀ j, j < 64 + i → we j = cat (fun j => t_a0_pad j ^^^ 92#8) 64 su j) → VJ C 0 0 102 [(1, .int (nI i)), (0, .ref a0)] [] [(a0, .inr (8, [.int (nI v_a0_thrown), .ref a0_tape, .int (nI v_a0_taped), .ref a0_out, .int (nI v_a0_outs), .ref a0_slots, .ref a0_kept, .ref a0_phase, .ref a0_secret, .ref a0_key, .ref a0_hide, .ref a0_iv, .ref a0_begin, .ref a0_each, .ref a0_root, .ref a0_power, .ref a0_work, .ref a0_w, .ref a0_h, .ref a0_state, .ref a0_sum, .ref a0_pad, .ref a0_text, .int (nI v_a0_texts), .ref a0_info, .int (nI v_a0_infos), .ref a0_made, .ref a0_blockKey, .ref a0_nonce, .ref a0_x, .ref a0_first, .ref a0_block, .ref a0_a, .ref a0_r, .ref a0_product, .ref a0_tag, .ref a0_sealed])), (a0_work, aY C.D 2400 we), (a0_w, aL C.D 64 w1), (a0_h, aM C.D 8 th), (a0_state, aM C.D 8 s1), (a0_each, aM C.D 64 t_a0_each), (a0_begin, aM C.D 8 t_a0_begin), (a0_sum, aY C.D 32 su), (a0_pad, aY C.D 64 t_a0_pad), (a0_text, aY C.D 2400 t_a0_text)] := by
                      refine v_for (32) ?_ ?_
                      · skip
                        intro i hii ih we hv0
                        refine v_iload_n g dX8_macOf_102 1 rfl 0 rfl ?_
                        refine v_bipush g dX8_macOf_103 (v := nI 32) (by decide +kernel) ?_
                        refine v_icmp_geN g 129 dX8_macOf_105 (by decide) (by omega) (by omega) (fun h12 => ?_) (fun h12 => ?_)
                        · skip
                          exact absurd h12 (by omega)
                        · skip
                          refine v_aload_n g dX8_macOf_108 0 rfl 1 rfl ?_
                          refine gf_X8_50 g dX8_macOf_109 0 rfl rfl ?_
                          refine v_bipush g dX8_macOf_112 (v := nI 64) (by decide +kernel) ?_
                          refine v_iload_n g dX8_macOf_114 1 rfl 0 rfl ?_
                          refine v_iaddN g dX8_macOf_115 ?_
                          refine v_aload_n g dX8_macOf_116 0 rfl 1 rfl ?_
                          refine gf_X8_62 g dX8_macOf_117 0 rfl rfl ?_
                          refine v_iload_n g dX8_macOf_120 1 rfl 0 rfl ?_
                          refine v_ialdY g 7 rfl (by omega) (by decide) dX8_macOf_121 ?_
                          obtain ⟨t13, ht13⟩ : ∃ z : Nat → By, z = va_up we (64 + i) (su i) := ⟨_, rfl⟩
                          refine v_iastY g ((su i)) rfl t13 ht13 1 [(a0, .inr (8, [.int (nI v_a0_thrown), .ref a0_tape, .int (nI v_a0_taped), .ref a0_out, .int (nI v_a0_outs), .ref a0_slots, .ref a0_kept, .ref a0_phase, .ref a0_secret, .ref a0_key, .ref a0_hide, .ref a0_iv, .ref a0_begin, .ref a0_each, .ref a0_root, .ref a0_power, .ref a0_work, .ref a0_w, .ref a0_h, .ref a0_state, .ref a0_sum, .ref a0_pad, .ref a0_text, .int (nI v_a0_texts), .ref a0_info, .int (nI v_a0_infos), .ref a0_made, .ref a0_blockKey, .ref a0_nonce, .ref a0_x, .ref a0_first, .ref a0_block, .ref a0_a, .ref a0_r, .ref a0_product, .ref a0_tag, .ref a0_sealed])), (a0_work, aY C.D 2400 t13), (a0_w, aL C.D 64 w1), (a0_h, aM C.D 8 th), (a0_state, aM C.D 8 s1), (a0_each, aM C.D 64 t_a0_each), (a0_begin, aM C.D 8 t_a0_begin), (a0_sum, aY C.D 32 su), (a0_pad, aY C.D 64 t_a0_pad), (a0_text, aY C.D 2400 t_a0_text)] rfl (by omega) (by decide) dX8_macOf_122 rfl ?_
                          refine v_iincN g 1 [(1, .int (nI (i + 1))), (0, .ref a0)] dX8_macOf_123 0 rfl (by decide +kernel) (by decide) rfl ?_
                          refine v_goto g 102 dX8_macOf_126 (by decide) ?_
                          exact ih t13 (up_lt (m := 64 + i) hv0 (cat_at _ _ _ _) ht13)
                      · skip
                        intro we hv0
                        refine v_iload_n g dX8_macOf_102 1 rfl 0 rfl ?_
                        refine v_bipush g dX8_macOf_103 (v := nI 32) (by decide +kernel) ?_
                        refine v_icmp_geN g 129 dX8_macOf_105 (by decide) (by omega) (by omega) (fun h14 => ?_) (fun h14 => ?_)
                        · skip
                          have hf := hv0
                          refine v_aload_n g dX8_macOf_129 0 rfl 1 rfl ?_
                          refine v_bipush g dX8_macOf_130 (v := nI 96) (by decide +kernel) ?_
                          refine v_callV (As := [.int (nI 96)]) (rest := []) (wr := [(a0_pad, aY C.D 64 t_a0_pad), (a0_text, aY C.D 2400 t_a0_text)]) cw_X8_142 (hy_X8_digestOf) g (c_R_dig C.l C.D a0 96 v_a0_thrown a0_tape v_a0_taped a0_out v_a0_outs a0_slots a0_kept a0_phase a0_secret a0_key a0_hide a0_iv a0_begin a0_each a0_root a0_power a0_work a0_w a0_h a0_state a0_sum a0_pad a0_text v_a0_texts a0_info v_a0_infos a0_made a0_blockKey a0_nonce a0_x a0_first a0_block a0_a a0_r a0_product a0_tag a0_sealed we w1 th s1 t_a0_each t_a0_begin su (by omega) he hbg) dX8_macOf_132 0 rfl rfl rfl (by decide) (by decide) (Nat.le_of_ble_eq_true rfl) [0, 1, 2, 3, 4, 5, 6, 7] [8, 9] rfl rfl (by decide) rfl (by decide) (by decide) _ rfl (fun r wo hp15 => ?_)
                          obtain ⟨wg, w2, t2, s2, sv, rfl, rfl, hsv⟩ := hp15
                          refine v_perm [2, 3, 4, 5, 6, 7, 8, 9, 0, 1] [(a0, .inr (8, [.int (nI v_a0_thrown), .ref a0_tape, .int (nI v_a0_taped), .ref a0_out, .int (nI v_a0_outs), .ref a0_slots, .ref a0_kept, .ref a0_phase, .ref a0_secret, .ref a0_key, .ref a0_hide, .ref a0_iv, .ref a0_begin, .ref a0_each, .ref a0_root, .ref a0_power, .ref a0_work, .ref a0_w, .ref a0_h, .ref a0_state, .ref a0_sum, .ref a0_pad, .ref a0_text, .int (nI v_a0_texts), .ref a0_info, .int (nI v_a0_infos), .ref a0_made, .ref a0_blockKey, .ref a0_nonce, .ref a0_x, .ref a0_first, .ref a0_block, .ref a0_a, .ref a0_r, .ref a0_product, .ref a0_tag, .ref a0_sealed])), (a0_work, aY C.D 2400 wg), (a0_w, aL C.D 64 w2), (a0_h, aM C.D 8 t2), (a0_state, aM C.D 8 s2), (a0_each, aM C.D 64 t_a0_each), (a0_begin, aM C.D 8 t_a0_begin), (a0_sum, aY C.D 32 sv), (a0_pad, aY C.D 64 t_a0_pad), (a0_text, aY C.D 2400 t_a0_text)] (by decide) rfl rfl ?_
                          show VJ C 0 0 135 [(1, .int (nI 32)), (0, .ref a0)] [] [(a0, .inr (8, [.int (nI v_a0_thrown), .ref a0_tape, .int (nI v_a0_taped), .ref a0_out, .int (nI v_a0_outs), .ref a0_slots, .ref a0_kept, .ref a0_phase, .ref a0_secret, .ref a0_key, .ref a0_hide, .ref a0_iv, .ref a0_begin, .ref a0_each, .ref a0_root, .ref a0_power, .ref a0_work, .ref a0_w, .ref a0_h, .ref a0_state, .ref a0_sum, .ref a0_pad, .ref a0_text, .int (nI v_a0_texts), .ref a0_info, .int (nI v_a0_infos), .ref a0_made, .ref a0_blockKey, .ref a0_nonce, .ref a0_x, .ref a0_first, .ref a0_block, .ref a0_a, .ref a0_r, .ref a0_product, .ref a0_tag, .ref a0_sealed])), (a0_work, aY C.D 2400 wg), (a0_w, aL C.D 64 w2), (a0_h, aM C.D 8 t2), (a0_state, aM C.D 8 s2), (a0_each, aM C.D 64 t_a0_each), (a0_begin, aM C.D 8 t_a0_begin), (a0_sum, aY C.D 32 sv), (a0_pad, aY C.D 64 t_a0_pad), (a0_text, aY C.D 2400 t_a0_text)]
                          exact v_ret g R dX8_macOf_135 (by decide) (by decide) ⟨wg, w2, t2, s2, sv, rfl, rfl, (fun j hj => (hsv j hj).trans (congrFun (digF_congr (fun q hq => (hf q (by omega)).trans (cat_congr (a := 64) (b := 32) (fun _ _ => rfl) hs1 q (by omega)))) j))⟩
                        · skip
                          exact absurd h14 (by omega)
                    exact L102_11 0 (by omega) wd (fun j hj => (hd j (by omega)).trans (cat_lo (fun j => t_a0_pad j ^^^ 92#8) 64 _ (by omega)).symm)
                  · skip
                    exact absurd h11 (by omega)
              exact L73_8 0 (by omega) wc (fun j hj => absurd hj (by omega))
            · skip
              exact absurd h7 (by omega)
        exact L31_4 0 (by omega) wa (fun j hj => (ha j (by omega)).trans (cat_lo (fun j => t_a0_pad j ^^^ 54#8) 64 _ (by omega)).symm)
      · skip
        exact absurd h4 (by omega)
  exact L2_0 0 (by omega) t_a0_work (fun j hj => absurd hj (by omega))
