/-! a contract in a larger world -/
theorem va_A_sub {ws wi : va_W} {sz : Nat} (isC : List Nat) (hC : isC.map (fun i => ws[i]?) = wi.map some) : ∀ q, va_A wi sz q → va_A ws sz q := by
  intro q hq
  rcases hq with ⟨k, e, h⟩ | h
  · have h1 : (isC.map (fun i => ws[i]?))[k]? = some (some (q, e)) := by rw [hC, List.getElem?_map, h]; rfl
    rw [List.getElem?_map] at h1
    cases hi : isC[k]? with
    | none => rw [hi] at h1; cases h1
    | some i => rw [hi] at h1; exact Or.inl ⟨i, e, Option.some.inj h1⟩
  · exact Or.inr h
theorem vPre.sub {D : va_G} {ws wi : va_W} {sz : Nat} {U : State} (h : vPre D ws sz U) (isC : List Nat) (hC : isC.map (fun i => ws[i]?) = wi.map some) (hCf : isC.filterMap (fun i => ws[i]?) = wi) (hCn : va_nd isC = true) : vPre D wi sz U :=
  ⟨h.1, h.2.1.sub isC hCf, h.2.2.1, h.2.2.2.1.sub isC hCn hC, h.2.2.2.2.go (State.WarmedH.refl U) (fun _ _ _ => rfl) (va_A_sub isC hC)⟩
theorem vM.lift {l : Launch} {D : va_G} {y : MethodName} {cc : ByteArray} {maxL : Nat} {ret : Option FieldType} {rm : Room} {av : List Value} {wi : va_W} {post : Option Value → va_W → Prop} (M : vM l D y cc maxL ret rm av wi post) {ws wr : va_W} {post' : Option Value → va_W → Prop} (isC isR : List Nat) (hC : isC.map (fun i => ws[i]?) = wi.map some) (hCf : isC.filterMap (fun i => ws[i]?) = wi) (hCn : va_nd isC = true) (hRr : isR.map (fun i => ws[i]?) = wr.map some) (hn : va_nd isR = true) (hdis : ∀ i ∈ isR, i ∉ isC)
    (hp : ∀ r wo, post r wo → ∃ (pm : List Nat) (ws' : va_W), va_nd pm = true ∧ pm.map (fun i => (wr ++ wo)[i]?) = ws'.map some ∧ pm.filterMap (fun i => (wr ++ wo)[i]?) = ws' ∧ post' r ws') : vM l D y cc maxL ret rm av ws post' := by
  intro sz
  refine MetFree.mono (M sz) (fun a U h => ⟨h.1, h.2.sub isC hC hCf hCn⟩) (fun _ _ _ _ _ h => h) ?_
  intro a st o t ⟨ha, hsz, hP, hK, hD, hG⟩ ⟨⟨⟨r, wo, ho, hpo, hP1, hK1, hD1⟩, hz, hk⟩, L, hF, hL⟩
  subst hsz
  have hsub := va_A_sub (sz := st.heap.size) isC hC
  obtain ⟨hP2, hD2⟩ := va_join hP (hD.self (sz := st.heap.size)) isC isR hC hRr hn hdis hk hsub hP1 hD1
  obtain ⟨pm, ws', h1, h2, h3, h4⟩ := hp r wo hpo
  exact ⟨⟨⟨r, ws', ho, h4, hP2.sub pm h3, hK1, hD2.sub pm h1 h2⟩, hz, fun q g1 g2 => hk q g1 (fun z => g2 (hsub q z))⟩, L, hF, fun q hq => hsub _ (hL q hq)⟩
theorem vMX.lift {l : Launch} {D : va_G} {y : MethodName} {cc : ByteArray} {maxL : Nat} {ret : Option FieldType} {rm : Room} {av : List Value} {wi : va_W} {X : String} (M : vMX l D y cc maxL ret rm av wi X) {ws wr : va_W} (isC isR : List Nat) (hC : isC.map (fun i => ws[i]?) = wi.map some) (hCf : isC.filterMap (fun i => ws[i]?) = wi) (hCn : va_nd isC = true) (hRr : isR.map (fun i => ws[i]?) = wr.map some) (hn : va_nd isR = true) (hdis : ∀ i ∈ isR, i ∉ isC) (pm : List Nat) (h1 : va_nd pm = true) (h2 : pm.map (fun i => (wr ++ wi)[i]?) = ws.map some) (h3 : pm.filterMap (fun i => (wr ++ wi)[i]?) = ws) : vMX l D y cc maxL ret rm av ws X := by
  intro sz
  refine MetFree.mono (M sz) (fun a U h => ⟨h.1, h.2.sub isC hC hCf hCn⟩) (fun _ _ _ _ _ h => h) ?_
  intro a st o t ⟨ha, hsz, hP, hK, hD, hG⟩ ⟨⟨⟨v, ho, hP1, hK1, hD1, hc⟩, hz, hk⟩, L, hF, hL⟩
  subst hsz
  have hsub := va_A_sub (sz := st.heap.size) isC hC
  obtain ⟨hP2, hD2⟩ := va_join hP (hD.self (sz := st.heap.size)) isC isR hC hRr hn hdis hk hsub hP1 hD1
  exact ⟨⟨⟨v, ho, hP2.sub pm h3, hK1, hD2.sub pm h1 h2, hc⟩, hz, fun q g1 g2 => hk q g1 (fun z => g2 (hsub q z))⟩, L, hF, fun q hq => hsub _ (hL q hq)⟩
/-! frames at the right and at the left -/
theorem va_P.left {D : va_G} {cl : List vw_C} {a b : va_W} {H : Heap} (h : va_P D cl (a ++ b) H) : va_P D cl a H := fun k q hk => h k q (by rw [List.getElem?_append_left (List.getElem?_eq_some_iff.mp hk).1]; exact hk)
theorem va_P.right {D : va_G} {cl : List vw_C} {a b : va_W} {H : Heap} (h : va_P D cl (a ++ b) H) : va_P D cl b H := fun k q hk => h (a.length + k) q (by rw [List.getElem?_append_right (by omega), show a.length + k - a.length = k by omega]; exact hk)
theorem va_D.left {A : Nat → Prop} {a b : va_W} (h : va_D A (a ++ b)) : va_D A a := by
  have e : ∀ (k : Nat) (q : Nat × va_E), a[k]? = some q → (a ++ b)[k]? = some q := fun k q hk => by rw [List.getElem?_append_left (List.getElem?_eq_some_iff.mp hk).1]; exact hk
  exact ⟨fun i j p q hi hj => h.1 i j p q (e i p hi) (e j q hj), fun k q hk => h.2 k q (e k q hk)⟩
theorem va_D.right {A : Nat → Prop} {a b : va_W} (h : va_D A (a ++ b)) : va_D A b := by
  have e : ∀ (k : Nat) (q : Nat × va_E), b[k]? = some q → (a ++ b)[a.length + k]? = some q := fun k q hk => by rw [List.getElem?_append_right (by omega), show a.length + k - a.length = k by omega]; exact hk
  exact ⟨fun i j p q hi hj hpq => by have := h.1 _ _ p q (e i p hi) (e j q hj) hpq; omega, fun k q hk => h.2 _ q (e k q hk)⟩
theorem va_D.apart {A : Nat → Prop} {a b : va_W} (h : va_D A (a ++ b)) : ∀ (i j : Nat) (p q : Nat × va_E), a[i]? = some p → b[j]? = some q → p.1 ≠ q.1 := fun i j p q hi hj hpq => by
  have hl := (List.getElem?_eq_some_iff.mp hi).1
  have := h.1 i (a.length + j) p q (by rw [List.getElem?_append_left hl]; exact hi) (by rw [List.getElem?_append_right (by omega), show a.length + j - a.length = j by omega]; exact hj) hpq
  omega
theorem va_A_l {a b : va_W} {sz : Nat} : ∀ q, va_A a sz q → va_A (a ++ b) sz q := fun q h => h.elim (fun ⟨k, e, hk⟩ => Or.inl ⟨k, e, by rw [List.getElem?_append_left (List.getElem?_eq_some_iff.mp hk).1]; exact hk⟩) Or.inr
theorem va_A_r {a b : va_W} {sz : Nat} : ∀ q, va_A b sz q → va_A (a ++ b) sz q := fun q h => h.elim (fun ⟨k, e, hk⟩ => Or.inl ⟨a.length + k, e, by rw [List.getElem?_append_right (by omega), show a.length + k - a.length = k by omega]; exact hk⟩) Or.inr
/-- cells apart from wi stand as they were -/
theorem va_P.stay {D : va_G} {cl : List vw_C} {w wi : va_W} {H H1 : Heap} (hP : va_P D cl w H) (hap : ∀ (i j : Nat) (p q : Nat × va_E), w[i]? = some p → wi[j]? = some q → p.1 ≠ q.1) (hk : ∀ q : Nat, q < H.size → ¬ va_A wi H.size q → H1[q]? = H[q]?) : va_P D cl w H1 := fun k q hq =>
  (hP k q hq).kept (hk q.1 (hP k q hq).lt (fun h => h.elim (fun ⟨j, e, hj⟩ => hap k j q (q.1, e) hq hj rfl) (fun h => absurd (hP k q hq).lt (Nat.not_lt.mpr h))))
theorem vM.frameR {l : Launch} {D : va_G} {y : MethodName} {cc : ByteArray} {maxL : Nat} {ret : Option FieldType} {rm : Room} {av : List Value} {wi : va_W} {post : Option Value → va_W → Prop} (M : vM l D y cc maxL ret rm av wi post) (wr : va_W) : vM l D y cc maxL ret rm av (wi ++ wr) (fun r ws' => ∃ wo, post r wo ∧ ws' = wo ++ wr) := by
  intro sz
  refine MetFree.mono (M sz) (fun a U h => ⟨h.1, h.2.1, h.2.2.1.left, h.2.2.2.1, h.2.2.2.2.1.left, h.2.2.2.2.2.go (State.WarmedH.refl U) (fun _ _ _ => rfl) va_A_l⟩) (fun _ _ _ _ _ h => h) ?_
  intro a st o t ⟨ha, hsz, hP, hK, hD, hG⟩ ⟨⟨⟨r, wo, ho, hpo, hP1, hK1, hD1⟩, hz, hk⟩, L, hF, hL⟩
  subst hsz
  have hD' := hD.self (sz := st.heap.size)
  have hap : ∀ (i j : Nat) (p q : Nat × va_E), wr[i]? = some p → wi[j]? = some q → p.1 ≠ q.1 := fun i j p q hi hj e => hD.apart j i q p hj hi e.symm
  refine ⟨⟨⟨r, wo ++ wr, ho, ⟨wo, hpo, rfl⟩, va_P.app hP1 (hP.right.stay hap hk), hK1, va_D.app (hD1.weaken (fun k q _ h => va_A_l q.1 h)) hD'.right (fun i j x y hx hy hxy => ?_)⟩, hz, fun q g1 g2 => hk q g1 (fun z => g2 (va_A_l q z))⟩, L, hF, fun q hq => va_A_l _ (hL q hq)⟩
  rcases hD1.2 i x hx with ⟨k, e, h⟩ | h
  · exact hap j k y (x.1, e) hy h hxy.symm
  · have := (hP.right j y hy).lt
    omega
theorem vM.frameL {l : Launch} {D : va_G} {y : MethodName} {cc : ByteArray} {maxL : Nat} {ret : Option FieldType} {rm : Room} {av : List Value} {wi : va_W} {post : Option Value → va_W → Prop} (M : vM l D y cc maxL ret rm av wi post) (wl : va_W) : vM l D y cc maxL ret rm av (wl ++ wi) (fun r ws' => ∃ wo, post r wo ∧ ws' = wl ++ wo) := by
  intro sz
  refine MetFree.mono (M sz) (fun a U h => ⟨h.1, h.2.1, h.2.2.1.right, h.2.2.2.1, h.2.2.2.2.1.right, h.2.2.2.2.2.go (State.WarmedH.refl U) (fun _ _ _ => rfl) va_A_r⟩) (fun _ _ _ _ _ h => h) ?_
  intro a st o t ⟨ha, hsz, hP, hK, hD, hG⟩ ⟨⟨⟨r, wo, ho, hpo, hP1, hK1, hD1⟩, hz, hk⟩, L, hF, hL⟩
  subst hsz
  have hD' := hD.self (sz := st.heap.size)
  have hap : ∀ (i j : Nat) (p q : Nat × va_E), wl[i]? = some p → wi[j]? = some q → p.1 ≠ q.1 := hD.apart
  refine ⟨⟨⟨r, wl ++ wo, ho, ⟨wo, hpo, rfl⟩, va_P.app (hP.left.stay hap hk) hP1, hK1, va_D.app hD'.left (hD1.weaken (fun k q _ h => va_A_r q.1 h)) (fun i j x y hx hy hxy => ?_)⟩, hz, fun q g1 g2 => hk q g1 (fun z => g2 (va_A_r q z))⟩, L, hF, fun q hq => va_A_r _ (hL q hq)⟩
  rcases hD1.2 j y hy with ⟨k, e, h⟩ | h
  · exact hap i k x (y.1, e) hx h hxy
  · have := (hP.left i x hx).lt
    omega
theorem vM.post {l : Launch} {D : va_G} {y : MethodName} {cc : ByteArray} {maxL : Nat} {ret : Option FieldType} {rm : Room} {av : List Value} {wi : va_W} {post post' : Option Value → va_W → Prop} (M : vM l D y cc maxL ret rm av wi post) (h : ∀ r wo, post r wo → post' r wo) : vM l D y cc maxL ret rm av wi post' := by
  intro sz
  refine MetFree.mono (M sz) (fun a U h => h) (fun _ _ _ _ _ h => h) ?_
  intro a st o t _ ⟨⟨⟨r, wo, ho, hpo, hr⟩, hf⟩, hL⟩
  exact ⟨⟨⟨r, wo, ho, h r wo hpo, hr⟩, hf⟩, hL⟩
