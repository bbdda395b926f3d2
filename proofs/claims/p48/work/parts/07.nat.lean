/-- a whole row anew -/
def a_ur {α : Type} (f : Nat → Nat → α) (o : Nat) (g : Nat → α) : Nat → Nat → α := fun a => if a = o then g else f a
theorem a_ur_self {α : Type} {f : Nat → Nat → α} {o : Nat} {g : Nat → α} : a_ur f o g o = g := if_pos rfl
theorem a_ur_ne {α : Type} {f : Nat → Nat → α} {o a : Nat} {g : Nat → α} (h : a ≠ o) : a_ur f o g a = f a := if_neg h
section AWNAT
variable {y : MethodName} {cc : ByteArray} {nL : Nat} {ret : Option FieldType} {fr lo kc ks : Nat} {hh : List (Nat × Nat × Nat × Nat)} {X : aX} {cells slots pc : Nat} {L : List (Option Value)} {st : List Value} {T : List aT} {I : aI} {J : aJ} {R : aR}
theorem aw_copyJ (hC : aC y cc nL ret fr lo kc ks hh X) {idx a b n0 n1 : Nat} {sp dp n : Int32} (hd : decode cc pc = .ok (.invokestatic idx, 3)) (w1 : Cond.methodLink y.cls idx arraycopyName ∈ a_G) (w2 : Cond.native arraycopyName ∈ a_G) (w3 : Cond.static arraycopyName ∈ a_G) (w4 : Cond.initialized "java/lang/System" ∈ a_G) (hTa : T[a]? = some (.inl (.long, n0))) (hTb : T[b]? = some (.inl (.long, n1)))
    (g1 : ¬ sp < 0) (g2 : ¬ dp < 0) (g3 : ¬ n < 0) (g4 : sp.toNatClampNeg + n.toNatClampNeg ≤ n0) (g5 : dp.toNatClampNeg + n.toNatClampNeg ≤ n1) (hfr : 1 ≤ fr) (hcat : (st.map fun v => v.category).sum ≤ 8) (hlo : 8 + 18 ≤ lo) (k : AW X cells slots (pc + 3) L st T I (a_ur J b (va_cpy (J a) (J b) sp.toNatClampNeg dp.toNatClampNeg n.toNatClampNeg)) R) : AW X cells slots pc L (.int n :: .int dp :: .ref b :: .int sp :: .ref a :: st) T I J R := by
  obtain ⟨p, l, e, Rm, s, m, args, below, meth, c, Q, A, D, ad0, T0⟩ := X
  obtain ⟨⟨hx, hb, hml, hown, hts⟩, hr, hlocks, hname, hl9, hf1, hf2, hf3, hf4, htab, hA, hN, hZ⟩ := hC
  intro tys ad ws H locs ls h1 h2 h3 h4 h5 h6 hK hP hD hS hl
  obtain ⟨cA, t0, z1, z2⟩ := a_rel_arr h1 hTa
  obtain ⟨cB, t1, z3, z4⟩ := a_rel_arr h1 hTb
  have hcat9 : ((st.map (a_cv ad)).map fun v => v.category).sum ≤ 8 := by
    rw [List.map_map]; simpa [Function.comp_def, a_cat] using hcat
  refine va_copyl hx hb (hml.trans (hl.1.trans hml).symm) hown (hts _ w1) (hts _ w2) (hts _ w3) (hts _ w4) hK hP hD hS a b t0 t1 z1 z3 z2 z4 rfl g1 g2 g3 g4 g5 (fun _ _ => rfl) (by rw [hf1]; exact hfr) (by rw [hf2, show nativeFrameWords "java/lang/System" "arraycopy" 5 = 7 from by decide]; omega) hd (fun H1 locs1 hP1 hD1 hS1 => ?_)
  refine k tys ad _ H1 locs1 ls (a_rel_set h1 hTb (cA := cB) (fun ty n q => by cases q; exact ⟨t1, z4⟩) (fun _ _ => rfl) (fun o9 h9 => a_ur_ne h9) (fun _ _ => rfl) ?_) ⟨h2.1, fun o ho => ⟨(h2.2 o ho).1, by rw [a_ur_ne (by have := a_rel_lt hTb; omega)]; exact (h2.2 o ho).2.1, (h2.2 o ho).2.2⟩⟩ h3 (a_okS_tl (a_okS_tl (a_okS_tl (a_okS_tl (a_okS_tl h4))))) h5 h6 hK hP1 hD1 hS1 hl
  show Sum.inl (cB, n1, Sum.inr (Sum.inl (va_cpy (J a) (J b) sp.toNatClampNeg dp.toNatClampNeg n.toNatClampNeg))) = Sum.inl (cB, n1, Sum.inr (Sum.inl (a_ur J b (va_cpy (J a) (J b) sp.toNatClampNeg dp.toNatClampNeg n.toNatClampNeg) b)))
  rw [a_ur_self]
theorem aw_copyI (hC : aC y cc nL ret fr lo kc ks hh X) {idx a b n0 n1 : Nat} {sp dp n : Int32} (hd : decode cc pc = .ok (.invokestatic idx, 3)) (w1 : Cond.methodLink y.cls idx arraycopyName ∈ a_G) (w2 : Cond.native arraycopyName ∈ a_G) (w3 : Cond.static arraycopyName ∈ a_G) (w4 : Cond.initialized "java/lang/System" ∈ a_G) (hTa : T[a]? = some (.inl (.int, n0))) (hTb : T[b]? = some (.inl (.int, n1)))
    (g1 : ¬ sp < 0) (g2 : ¬ dp < 0) (g3 : ¬ n < 0) (g4 : sp.toNatClampNeg + n.toNatClampNeg ≤ n0) (g5 : dp.toNatClampNeg + n.toNatClampNeg ≤ n1) (hfr : 1 ≤ fr) (hcat : (st.map fun v => v.category).sum ≤ 8) (hlo : 8 + 18 ≤ lo) (k : AW X cells slots (pc + 3) L st T (a_ur I b (va_cpy (I a) (I b) sp.toNatClampNeg dp.toNatClampNeg n.toNatClampNeg)) J R) : AW X cells slots pc L (.int n :: .int dp :: .ref b :: .int sp :: .ref a :: st) T I J R := by
  obtain ⟨p, l, e, Rm, s, m, args, below, meth, c, Q, A, D, ad0, T0⟩ := X
  obtain ⟨⟨hx, hb, hml, hown, hts⟩, hr, hlocks, hname, hl9, hf1, hf2, hf3, hf4, htab, hA, hN, hZ⟩ := hC
  intro tys ad ws H locs ls h1 h2 h3 h4 h5 h6 hK hP hD hS hl
  obtain ⟨cA, t0, z1, z2⟩ := a_rel_arr h1 hTa
  obtain ⟨cB, t1, z3, z4⟩ := a_rel_arr h1 hTb
  have hcat9 : ((st.map (a_cv ad)).map fun v => v.category).sum ≤ 8 := by
    rw [List.map_map]; simpa [Function.comp_def, a_cat] using hcat
  refine va_copyi hx hb (hml.trans (hl.1.trans hml).symm) hown (hts _ w1) (hts _ w2) (hts _ w3) (hts _ w4) hK hP hD hS a b t0 t1 z1 z3 z2 z4 rfl g1 g2 g3 g4 g5 (fun _ _ => rfl) (by rw [hf1]; exact hfr) (by rw [hf2, show nativeFrameWords "java/lang/System" "arraycopy" 5 = 7 from by decide]; omega) hd (fun H1 locs1 hP1 hD1 hS1 => ?_)
  refine k tys ad _ H1 locs1 ls (a_rel_set h1 hTb (cA := cB) (fun ty n q => by cases q; exact ⟨t1, z4⟩) (fun o9 h9 => a_ur_ne h9) (fun _ _ => rfl) (fun _ _ => rfl) ?_) ⟨h2.1, fun o ho => ⟨by rw [a_ur_ne (by have := a_rel_lt hTb; omega)]; exact (h2.2 o ho).1, (h2.2 o ho).2.1, (h2.2 o ho).2.2⟩⟩ h3 (a_okS_tl (a_okS_tl (a_okS_tl (a_okS_tl (a_okS_tl h4))))) h5 h6 hK hP1 hD1 hS1 hl
  show Sum.inl (cB, n1, Sum.inl (va_cpy (I a) (I b) sp.toNatClampNeg dp.toNatClampNeg n.toNatClampNeg)) = Sum.inl (cB, n1, Sum.inl (a_ur I b (va_cpy (I a) (I b) sp.toNatClampNeg dp.toNatClampNeg n.toNatClampNeg) b))
  rw [a_ur_self]
theorem aw_cloneI (hC : aC y cc nL ret fr lo kc ks hh X) {idx ix a n0 : Nat} (hd : decode cc pc = .ok (.invokevirtual idx, 3)) (hd2 : decode cc (pc + 3) = .ok (.checkcast ix, 3)) (w1 : Cond.methodLink y.cls idx ⟨"[I", "clone", "()Ljava/lang/Object;"⟩ ∈ a_G) (w2 : Cond.sameMethod "[I" "java/lang/Object" "clone" "()Ljava/lang/Object;" ∈ a_G) (w3 : Cond.native ⟨"java/lang/Object", "clone", "()Ljava/lang/Object;"⟩ ∈ a_G) (w4 : Cond.instanceMethod ⟨"java/lang/Object", "clone", "()Ljava/lang/Object;"⟩ ∈ a_G)
    (w5 : Cond.selects "[I" ⟨"[I", "clone", "()Ljava/lang/Object;"⟩ ⟨"java/lang/Object", "clone", "()Ljava/lang/Object;"⟩ ∈ a_G) (w6 : Cond.classLink y.cls ix "[I" ∈ a_G) (hTa : T[a]? = some (.inl (.int, n0))) (hfr : 1 ≤ fr) (hcat : (st.map fun v => v.category).sum ≤ 8) (hlo : 8 + 14 ≤ lo) (hc : cells + 1 ≤ kc) (hs : slots + n0 ≤ ks)
    (k : AW X (cells + 1) (slots + n0) (pc + 6) L (.ref T.length :: st) (T ++ [.inl (.int, n0)]) (a_ur I T.length (I a)) J R) : AW X cells slots pc L (.ref a :: st) T I J R := by
  obtain ⟨p, l, e, Rm, s, m, args, below, meth, c, Q, A, D, ad0, T0⟩ := X
  obtain ⟨⟨hx, hb, hml, hown, hts⟩, hr, hlocks, hname, hl9, hf1, hf2, hf3, hf4, htab, hA, hN, hZ⟩ := hC
  intro tys ad ws H locs ls h1 h2 h3 h4 h5 h6 hK hP hD hS hl
  obtain ⟨cA, t0, z1, z2⟩ := a_rel_arr h1 hTa
  have z := h2.2 T.length (Nat.le_refl _)
  have hcat9 : ((st.map (a_cv ad)).map fun v => v.category).sum ≤ 8 := by
    rw [List.map_map]; simpa [Function.comp_def, a_cat] using hcat
  have hnm : s.vm.findClass "[I" = some cA := va_nm_int (hK.2 t0 _ z2).2
  refine va_clone (x := (n0, .inl (I a))) (ty := .int) hx hb (hml.trans (hl.1.trans hml).symm) hown (hts _ w1) (hts _ w2) (hts _ w3) (hts _ w4) (hts _ w5) (hN.2.2.2.2.1 _ (by simp [a_B])) hK hP hD hS hA a t0 z1 z2 hnm (fun i v hv => ?_) (by rw [hf1]; exact hfr) (by rw [hf2]; omega) (by rw [hf3]; exact hc) (by rw [hf4]; exact hs) hd (fun q H1 hK1 hP1 hD1 hS1 => ?_)
  · by_cases hi : i < n0
    · have hv2 : (arrV cA n0 (fun j => .int (I a j))).slots[i]? = some v := hv
      rw [arrV_read _ _ hi] at hv2
      cases hv2
      rfl
    · have hv2 : (arrV cA n0 (fun j => .int (I a j))).slots[i]? = some v := hv
      rw [Array.getElem?_eq_none (by rw [arrV_size]; omega)] at hv2
      cases hv2
  · refine va_castA (q0 := ws.length) (x := (n0, .inl (I a))) (cA := cA) hx hb hown (hts _ w6) hP1 (by simp) hnm hd2 ?_
    have hI9 : ∀ i, i < T.length → a_ur I T.length (I a) i = I i := fun i hi => a_ur_ne (by omega)
    have h19 : a_rel T (a_ur I T.length (I a)) J R tys ad ws := ⟨h1.1, fun i t hi => by
      obtain ⟨cA', g1, g2⟩ := h1.2 i t hi
      exact ⟨cA', by rw [g1, a_cell_eq (hI9 i (a_rel_lt hi)) rfl rfl], g2⟩⟩
    have had : ∀ i, i < T.length → (fun j => if j = T.length then q else ad j) i = ad i := fun i hi => if_neg (by omega)
    have hle : T.length ≤ (T ++ [(.inl (.int, n0) : aT)]).length := by simp
    have hpush : a_rel (T ++ [.inl (.int, n0)]) (a_ur I T.length (I a)) J R (tys ++ [(cA, .int)]) (fun j => if j = T.length then q else ad j) (ws ++ [(q, .inl (cA, n0, .inl (I a)))]) := by
      refine ⟨by simp [h1.1], fun i t' hi => ?_⟩
      by_cases c9 : i < T.length
      · rw [List.getElem?_append_left c9] at hi
        obtain ⟨cA', g1, g2⟩ := h19.2 i t' hi
        refine ⟨cA', ?_, fun ty n q9 => ?_⟩
        · rw [List.getElem?_append_left (by rw [h1.1]; exact c9), g1, a_cell_eq (I := I) (hI9 i c9) rfl rfl, a_cell_eq (I := I) (hI9 i c9) rfl rfl, a_cell_ad (n := T.length) (ad := ad) (fun j hj => if_neg (by omega)) h2]
          simp only [if_neg (show ¬ i = T.length by omega)]
        · obtain ⟨t0, g3⟩ := g2 ty n q9
          exact ⟨t0, by rw [List.getElem?_append_left (List.getElem?_eq_some_iff.mp g3).1]; exact g3⟩
      · rw [List.getElem?_append_right (by omega)] at hi
        have hz : i - T.length < 1 := (List.getElem?_eq_some_iff.mp hi).1
        have hi2 : i = T.length := by omega
        subst hi2
        simp only [Nat.sub_self, List.getElem?_cons_zero, Option.some.injEq] at hi
        subst hi
        refine ⟨cA, ?_, fun ty n q9 => by cases q9; exact ⟨tys.length, by simp⟩⟩
        rw [List.getElem?_append_right (by rw [h1.1]; exact Nat.le_refl _), h1.1]
        simp [a_cell, a_av, a_ur_self]
    have hok2 : a_ok (T ++ [(.inl (.int, n0) : aT)]).length (a_ur I T.length (I a)) J R := by
      rw [List.length_append]
      refine ⟨fun o k q e => Nat.lt_succ_of_lt (h2.1 o k q e), fun o ho => ?_⟩
      have ho2 : T.length + 1 ≤ o := ho
      exact ⟨by rw [a_ur_ne (by omega)]; exact (h2.2 o (by omega)).1, (h2.2 o (by omega)).2⟩
    have k9 := k _ (fun j => if j = T.length then q else ad j) _ H1 locs ls hpush hok2 (a_okL_le hle h3) (a_okS_cons (a_okv_ref (by simp)) (a_okS_le hle (a_okS_tl h4))) (h5.trans (List.prefix_append _ _)) (fun i hi => (had i (Nat.lt_of_lt_of_le hi h5.length_le)).trans (h6 i hi)) hK1 hP1 hD1 hS1 (a_lv_le hl (a_lv_eq had h3))
    rw [List.map_cons, a_cvS_le had (a_okS_tl h4)] at k9
    have e9 : a_cv (fun j => if j = T.length then q else ad j) (.ref T.length) = .ref q := by simp [a_cv]
    rw [e9] at k9
    exact k9
theorem aw_objInit (hC : aC y cc nL ret fr lo kc ks hh X) {idx o9 : Nat} (hd : decode cc pc = .ok (.invokespecial idx, 3)) (w1 : Cond.methodLink y.cls idx objectInit ∈ a_G) (w2 : Cond.instanceMethod objectInit ∈ a_G) (w3 : Cond.code objectInit ⟨#[0xb1]⟩ 1 none ∈ a_G) (hfr : 1 ≤ fr) (hlo : 12 ≤ lo) (k : AW X cells slots (pc + 3) L [] T I J R) : AW X cells slots pc L [.ref o9] T I J R := by
  obtain ⟨p, l, e, Rm, s, m, args, below, meth, c, Q, A, D, ad0, T0⟩ := X
  obtain ⟨⟨hx, hb, hml, hown, hts⟩, hr, hlocks, hname, hl9, hf1, hf2, hf3, hf4, htab, hA, hN, hZ⟩ := hC
  intro tys ad ws H locs ls h1 h2 h3 h4 h5 h6 hK hP hD hS hl
  refine W.objInit hx hb hown (hts _ w1) (hts _ w2) (hts _ w3) rfl (by rw [hml]; exact hl.1.trans hml) rfl hd (by rw [hf1]; exact hfr) (by rw [hf2]; exact hlo) ?_
  exact k tys ad ws H locs ls h1 h2 h3 a_okS_nil h5 h6 hK hP hD hS hl
end AWNAT
