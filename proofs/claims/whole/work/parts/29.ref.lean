/-! arrays of references -/
section REF
variable {C : Cx} {cc : ByteArray} {own : String} {nL : Nat} {rm : Room} {k n pc : Nat} {lv : List (Nat × Value)} {st : List Value} {ws : va_W}
theorem v_aaldR (g : vG C cc own nL rm) {a N j c : Nat} {t : Nat → Option Nat} {S : String} (r : Nat) (q t0 : Nat) (he : ws[q]? = some (a, aR C.D c N t)) (ht : (tysOf C.D)[t0]? = some (C.D.1 c, .object S)) (hj : j < N) (hN : N < 2 ^ 31) (hr : t j = some r) (hd : decode cc pc = .ok (.aaload, 1)) (K : VJ C k n (pc + 1) lv (.ref r :: st) ws) : VJ C k n pc lv (.int (nI j) :: .ref a :: st) ws := fun ls H locs hl hP hD hS => by
  refine va_aldq g.x g.b g.K hP q t0 he ht (vp_in_nI hj hN) hd ?_
  rw [nI_clamp (Nat.lt_trans hj hN), hr]
  exact K ls H locs hl hP hD hS
theorem v_aastR (g : vG C cc own nL rm) {a N j c v ci : Nat} {t : Nat → Option Nat} {r : vw_C} {vs : List Value} (t' : Nat → Option Nat) (ht' : t' = va_up t j (some v)) (q t0 qk : Nat) (ws' : va_W) (he : ws[q]? = some (a, aR C.D c N t)) (ht : (tysOf C.D)[t0]? = some (C.D.1 c, .object r.1)) (hv : ws[qk]? = some (v, .inr (ci, vs))) (hc : vwCl[ci]? = some r) (hj : j < N) (hN : N < 2 ^ 31) (hd : decode cc pc = .ok (.aastore, 1)) (hs : ws.set q (a, aR C.D c N t') = ws') (K : VJ C k n (pc + 1) lv st ws') : VJ C k n pc lv (.ref v :: .int (nI j) :: .ref a :: st) ws := fun ls H locs hl hP hD hS => by
  refine va_astq g.x g.b g.K hP hD hS q t0 qk ci he ht hv hc (vp_in_nI hj hN) hd ?_
  rw [nI_clamp (Nat.lt_trans hj hN), ← ht', hs]
  exact fun H1 locs1 hP1 hD1 hS1 => K ls H1 locs1 hl hP1 hD1 hS1
end REF
