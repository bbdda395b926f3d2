/-! CONTRACTS -/
abbrev aP : Type := Option Value ⊕ String → List aT → aI → aJ → aR → Prop
/-- where a body has ended: the store, in the heap -/
def aEnd (D : va_G) (T0 : List aT) (ad0 : Nat → Nat) (A : Nat → Prop) (T : List aT) (I : aI) (J : aJ) (R : aR) (ad : Nat → Nat) (t : State) : Prop :=
  ∃ (tys : List (ClassId × FieldType)) (ws : va_W), a_rel T I J R tys ad ws ∧ a_ok T.length I J R ∧ T0 <+: T ∧ (∀ i, i < T0.length → ad i = ad0 i) ∧ va_K D vwCl tys t ∧ va_P D vwCl ws t.heap ∧ va_D A ws
def aQc (P : aP) (D : va_G) (T0 : List aT) (ad0 : Nat → Nat) (A : Nat → Prop) : Array Value → State → Outcome → State → Prop := fun _ st oc t =>
  (∃ (v : Option Value) (T : List aT) (I : aI) (J : aJ) (R : aR) (ad : Nat → Nat), oc = .returned (v.map (a_cv ad)) ∧ (∀ w, v = some w → a_okv T.length w) ∧ P (.inl v) T I J R ∧ aEnd D T0 ad0 A T I J R ad t) ∧ va_F A st t
def aXc (P : aP) (D : va_G) (T0 : List aT) (ad0 : Nat → Nat) (A : Nat → Prop) : String → State → State → Prop := fun E st t =>
  (∃ (T : List aT) (I : aI) (J : aJ) (R : aR) (ad : Nat → Nat), P (.inr E) T I J R ∧ aEnd D T0 ad0 A T I J R ad t) ∧ va_F A st t
def a_wd (y : MethodName) (cc : ByteArray) (nL : Nat) (ret : Option FieldType) (hh : List (Nat × Nat × Nat × Nat)) : Cond := match hh with
  | [] => .code y cc nL ret
  | h :: t => .codeWith y cc nL ret (h :: t)
def AMet (y : MethodName) (cc : ByteArray) (nL : Nat) (ret : Option FieldType) (fr lo kc ks : Nat) (hh : List (Nat × Nat × Nat × Nat)) (As : List Value) (T : List aT) (I : aI) (J : aJ) (R : aR) (P : aP) : Prop :=
  ∀ (l : Launch), l.stackTraces = false → ∀ (D : va_G) (tys : List (ClassId × FieldType)) (ad : Nat → Nat) (ws : va_W) (sz : Nat), a_rel T I J R tys ad ws → a_ok T.length I J R → a_okS T.length As →
    vx_Met l y (a_wd y cc nL ret hh :: a_G) { frames := fr, cells := kc, slots := ks, locals := lo } (va_Pc (As.map (a_cv ad)) (fun U => U.heap.size = sz ∧ va_P D vwCl ws U.heap ∧ va_K D vwCl tys U ∧ va_D (fun _ => True) ws ∧ a_N U ∧ aZ (va_A ws sz) U))
      (aQc P D T ad (va_A ws sz)) (aXc P D T ad (va_A ws sz)) kc ks (va_A ws sz)
/-- what a body owes at its end -/
def aRet (X : aX) (kc ks : Nat) (P : aP) : Prop := match X with
  | (p, l, e, Rm, s, m, args, below, meth, c, Q, A, D, ad0, T0) => Q = vx_MQ below (aQc P D T0 ad0 A) (aXc P D T0 ad0 A) args s kc ks A
/-- the frame, with a thing of the class E thrown over it -/
def AE (X : aX) (cells slots pc : Nat) (L : List (Option Value)) (E : String) (T : List aT) (I : aI) (J : aJ) (R : aR) : Prop := match X with
  | (p, l, e, Rm, s, m, args, below, meth, c, Q, A, D, ad0, T0) =>
    ∀ (tys : List (ClassId × FieldType)) (ad : Nat → Nat) (ws : va_W) (H : Heap) (locs : List Loc) (ls : Array Slot) (rest : List Value) (q : Nat) (ce : Cell), a_rel T I J R tys ad ws → a_ok T.length I J R → a_okL T.length L → T0 <+: T → (∀ i, i < T0.length → ad i = ad0 i) →
      va_K D vwCl tys s → va_P D vwCl ws H → va_D A ws → va_S A s.heap H locs → lv_has ls c.maxLocals (a_lv ad L) → H[q]? = some ce → ce.vm = .none → s.vm.findClass E = some ce.cls → vx_W p l e Rm s m args below meth c H locs cells slots Q (F0 m pc ls rest) q
/-! the locals with which a body begins -/
def a_args : List Value → List (Option Value)
  | [] => []
  | v :: vs => if v.category = 2 then some v :: none :: a_args vs else some v :: a_args vs
def a_L0 (As : List Value) (nL : Nat) : List (Option Value) := a_args As ++ List.replicate (nL - (a_args As).length) none
theorem a_args_mem {ad : Nat → Nat} : ∀ (As : List Value) (b : Nat) (i : Nat) (v : Value), (a_args As)[i]? = some (some v) → (b + i, a_cv ad v) ∈ lv_args b (As.map (a_cv ad))
  | [], b, i, v, h => by simp [a_args] at h
  | w :: vs, b, i, v, h => by
    rw [List.map_cons, lv_args, a_cat]
    unfold a_args at h
    by_cases c : w.category = 2
    · rw [if_pos c] at h
      rw [if_pos c]
      match i, h with
      | 0, h => simp at h; subst h; exact List.mem_cons_self
      | 1, h => simp at h
      | j + 2, h =>
        simp only [List.getElem?_cons_succ] at h
        have := a_args_mem (ad := ad) vs (b + 2) j v h
        rw [show b + 2 + j = b + (j + 2) by omega] at this
        exact List.mem_cons_of_mem _ this
    · rw [if_neg c] at h
      rw [if_neg c]
      match i, h with
      | 0, h => simp at h; subst h; exact List.mem_cons_self
      | j + 1, h =>
        simp only [List.getElem?_cons_succ] at h
        have := a_args_mem (ad := ad) vs (b + 1) j v h
        rw [show b + 1 + j = b + (j + 1) by omega] at this
        exact List.mem_cons_of_mem _ this
theorem a_L0_mem {ad : Nat → Nat} {As : List Value} {nL : Nat} : ∀ q ∈ a_lv ad (a_L0 As nL), q ∈ lv_args 0 (As.map (a_cv ad)) := by
  rintro ⟨i, w⟩ hq
  obtain ⟨v, h1, h2⟩ := a_lv_mem.mp hq
  dsimp only at h1 h2
  subst h2
  have h3 : (a_args As)[i]? = some (some v) := by
    unfold a_L0 at h1
    by_cases c : i < (a_args As).length
    · rw [List.getElem?_append_left c] at h1; exact h1
    · rw [List.getElem?_append_right (by omega)] at h1
      rw [List.getElem?_replicate] at h1
      split at h1 <;> simp at h1
  have := a_args_mem (ad := ad) As 0 i v h3
  simpa using this
theorem a_args_ok {n : Nat} : ∀ {As : List Value}, a_okS n As → a_okL n (a_args As)
  | [], _ => fun v hv => nomatch hv
  | w :: vs, h => by
    intro v hv
    unfold a_args at hv
    by_cases c : w.category = 2
    · rw [if_pos c] at hv
      rcases List.mem_cons.mp hv with q | q
      · cases q; exact a_okS_hd h
      · rcases List.mem_cons.mp q with q | q
        · cases q
        · exact a_args_ok (a_okS_tl h) v q
    · rw [if_neg c] at hv
      rcases List.mem_cons.mp hv with q | q
      · cases q; exact a_okS_hd h
      · exact a_args_ok (a_okS_tl h) v q
theorem a_L0_ok {n nL : Nat} {As : List Value} (h : a_okS n As) : a_okL n (a_L0 As nL) := by
  intro v hv
  rcases List.mem_append.mp hv with q | q
  · exact a_args_ok h v q
  · rw [List.mem_replicate] at q; cases q.2
def a_sz (As : List Value) : Nat := (As.map fun v => if v.category = 2 then 2 else 1).sum
theorem a_lg_sl (ad : Nat → Nat) : ∀ As : List Value, (lg_sl (As.map (a_cv ad))).length = a_sz As
  | [] => rfl
  | v :: vs => by
    have ih := a_lg_sl ad vs
    unfold lg_sl a_sz at *
    rw [List.map_cons, List.flatMap_cons, List.length_append, ih, List.map_cons, List.sum_cons, a_cat]
    congr 1
    by_cases c : v.category = 2 <;> simp [c]
theorem a_met {y : MethodName} {cc : ByteArray} {nL : Nat} {ret : Option FieldType} {fr lo kc ks : Nat} {As : List Value} {T : List aT} {I : aI} {J : aJ} {R : aR} {P : aP} (hy : plainName y.cls = true) (hn : a_sz As ≤ nL)
    (body : ∀ X : aX, aC y cc nL ret fr lo kc ks [] X → aRet X kc ks P → AW X 0 0 0 (a_L0 As nL) [] T I J R) : AMet y cc nL ret fr lo kc ks [] As T I J R P := by
  intro l hl D tys ad ws sz h1 h2 h3
  refine vx_ofW (cc := cc) (maxL := nL) (ret := ret) hy rfl ?_
  intro p e s m args below meth c s₁ B hml htab hv
  obtain ⟨rfl, hsz, hP, hK, hD0, hN, hZ⟩ := hv
  subst hsz
  have hts := atoms_spec B.pre
  have hX : aC y cc nL ret fr lo kc ks [] (p, l, e, { frames := fr, cells := kc, slots := ks, locals := lo }, s, m, (As.map (a_cv ad)).toArray, below, meth, c, vx_MQ below (aQc P D T ad (va_A ws s.heap.size)) (aXc P D T ad (va_A ws s.heap.size)) (As.map (a_cv ad)).toArray s kc ks (va_A ws s.heap.size), va_A ws s.heap.size, D, ad, T) :=
    ⟨⟨B.exec, B.bytes, hml, findClass_of_methodNamed B.named, fun w hw => hts w (List.mem_cons_of_mem _ hw)⟩, B.returns, B.notSynchronized, (name_of_methodNamed B.named B.method).1, hl, rfl, rfl, rfl, rfl, (List.eq_nil_iff_forall_not_mem.mpr htab), fun q h => Or.inr h, hN, hZ⟩
  have hl0 := lv_entry (As.map (a_cv ad)) (n := nL) (by rw [a_lg_sl]; exact hn)
  rw [lg_entry_eq]
  exact body _ hX rfl tys ad ws s.heap [] _ h1 h2 (a_L0_ok h3) a_okS_nil (List.prefix_refl T) (fun _ _ => rfl) hK hP hD0.self va_S.rf (by rw [hml]; exact a_lv_le hl0 a_L0_mem)
theorem a_metW {y : MethodName} {cc : ByteArray} {nL : Nat} {ret : Option FieldType} {fr lo kc ks : Nat} {h0 : Nat × Nat × Nat × Nat} {hh : List (Nat × Nat × Nat × Nat)} {As : List Value} {T : List aT} {I : aI} {J : aJ} {R : aR} {P : aP} (hy : plainName y.cls = true) (hn : a_sz As ≤ nL)
    (body : ∀ X : aX, aC y cc nL ret fr lo kc ks (h0 :: hh) X → aRet X kc ks P → AW X 0 0 0 (a_L0 As nL) [] T I J R) : AMet y cc nL ret fr lo kc ks (h0 :: hh) As T I J R P := by
  intro l hl D tys ad ws sz h1 h2 h3
  refine vx_ofWH (cc := cc) (maxL := nL) (ret := ret) (hh := h0 :: hh) hy rfl ?_
  intro p e s m args below meth c s₁ B hml hv
  obtain ⟨rfl, hsz, hP, hK, hD0, hN, hZ⟩ := hv
  subst hsz
  have hts := atoms_spec B.pre
  have htab : c.exceptionTable.toList = tableOf (h0 :: hh) := vx_table (x := y) B (hts _ List.mem_cons_self)
  have hX : aC y cc nL ret fr lo kc ks (h0 :: hh) (p, l, e, { frames := fr, cells := kc, slots := ks, locals := lo }, s, m, (As.map (a_cv ad)).toArray, below, meth, c, vx_MQ below (aQc P D T ad (va_A ws s.heap.size)) (aXc P D T ad (va_A ws s.heap.size)) (As.map (a_cv ad)).toArray s kc ks (va_A ws s.heap.size), va_A ws s.heap.size, D, ad, T) :=
    ⟨⟨B.exec, B.bytes, hml, findClass_of_methodNamed B.named, fun w hw => hts w (List.mem_cons_of_mem _ hw)⟩, B.returns, B.notSynchronized, (name_of_methodNamed B.named B.method).1, hl, rfl, rfl, rfl, rfl, htab, fun q h => Or.inr h, hN, hZ⟩
  have hl0 := lv_entry (As.map (a_cv ad)) (n := nL) (by rw [a_lg_sl]; exact hn)
  rw [lg_entry_eq]
  exact body _ hX rfl tys ad ws s.heap [] _ h1 h2 (a_L0_ok h3) a_okS_nil (List.prefix_refl T) (fun _ _ => rfl) hK hP hD0.self va_S.rf (by rw [hml]; exact a_lv_le hl0 a_L0_mem)
section AWEND
variable {y : MethodName} {cc : ByteArray} {nL : Nat} {ret : Option FieldType} {fr lo kc ks : Nat} {hh : List (Nat × Nat × Nat × Nat)} {X : aX} {cells slots pc : Nat} {L : List (Option Value)} {st : List Value} {T : List aT} {I : aI} {J : aJ} {R : aR} {P : aP}
theorem aw_widen {c2 s2 : Nat} (h1 : cells ≤ c2) (h2 : slots ≤ s2) (k : AW X c2 s2 pc L st T I J R) : AW X cells slots pc L st T I J R := by
  obtain ⟨p, l, e, Rm, s, m, args, below, meth, c, Q, A, D, ad0, T0⟩ := X
  intro tys ad ws H locs ls g1 g2 g3 g4 g5 g6 hK hP hD hS hl
  exact W.widen h1 h2 (k tys ad ws H locs ls g1 g2 g3 g4 g5 g6 hK hP hD hS hl)
theorem aw_ireturn (hC : aC y cc nL ret fr lo kc ks hh X) (hq : aRet X kc ks P) {x : Int32} (hret : ret = some .int) (hd : decode cc pc = .ok (.ireturn, 1)) (hc : cells ≤ kc) (hs : slots ≤ ks) (hP9 : P (.inl (some (.int x))) T I J R) : AW X cells slots pc L [.int x] T I J R := by
  obtain ⟨p, l, e, Rm, s, m, args, below, meth, c, Q, A, D, ad0, T0⟩ := X
  obtain ⟨⟨hx, hb, hml, hown, hts⟩, hr, hlocks, hname, hl9, hf1, hf2, hf3, hf4, htab, hA, hN, hZ⟩ := hC
  have hq : Q = vx_MQ below (aQc P D T0 ad0 A) (aXc P D T0 ad0 A) args s kc ks A := hq
  subst hq
  intro tys ad ws H locs ls h1 h2 h3 h4 h5 h6 hK hP hD hS hl
  refine W.widen hc hs (vx_ret (W.iret hx hb (hr.trans hret) (fun t ht hW => ⟨⟨(some (.int x)), T, I, J, R, ad, rfl, ?_, hP9, tys, ws, h1, h2, h5, h6, va_K.moved hW.alike hK, by rw [ht]; exact hP, hD⟩, hS.F ht⟩) hS.2.2 hd))
  intro w9 e9
  cases e9; exact a_okS_hd h4
theorem aw_zreturn (hC : aC y cc nL ret fr lo kc ks hh X) (hq : aRet X kc ks P) {x : Int32} (hret : ret = some .boolean) (hx0 : x = 0 ∨ x = 1) (hd : decode cc pc = .ok (.ireturn, 1)) (hc : cells ≤ kc) (hs : slots ≤ ks) (hP9 : P (.inl (some (.int x))) T I J R) : AW X cells slots pc L [.int x] T I J R := by
  obtain ⟨p, l, e, Rm, s, m, args, below, meth, c, Q, A, D, ad0, T0⟩ := X
  obtain ⟨⟨hx, hb, hml, hown, hts⟩, hr, hlocks, hname, hl9, hf1, hf2, hf3, hf4, htab, hA, hN, hZ⟩ := hC
  have hq : Q = vx_MQ below (aQc P D T0 ad0 A) (aXc P D T0 ad0 A) args s kc ks A := hq
  subst hq
  intro tys ad ws H locs ls h1 h2 h3 h4 h5 h6 hK hP hD hS hl
  refine W.widen hc hs (vx_ret (W.zret hx hb (hr.trans hret) (by rcases hx0 with rfl | rfl <;> rfl) (fun t ht hW => ⟨⟨(some (.int x)), T, I, J, R, ad, rfl, ?_, hP9, tys, ws, h1, h2, h5, h6, va_K.moved hW.alike hK, by rw [ht]; exact hP, hD⟩, hS.F ht⟩) hS.2.2 hd))
  intro w9 e9
  cases e9; exact a_okS_hd h4
theorem aw_lreturn (hC : aC y cc nL ret fr lo kc ks hh X) (hq : aRet X kc ks P) {x : Int64} (hret : ret = some .long) (hd : decode cc pc = .ok (.lreturn, 1)) (hc : cells ≤ kc) (hs : slots ≤ ks) (hP9 : P (.inl (some (.long x))) T I J R) : AW X cells slots pc L [.long x] T I J R := by
  obtain ⟨p, l, e, Rm, s, m, args, below, meth, c, Q, A, D, ad0, T0⟩ := X
  obtain ⟨⟨hx, hb, hml, hown, hts⟩, hr, hlocks, hname, hl9, hf1, hf2, hf3, hf4, htab, hA, hN, hZ⟩ := hC
  have hq : Q = vx_MQ below (aQc P D T0 ad0 A) (aXc P D T0 ad0 A) args s kc ks A := hq
  subst hq
  intro tys ad ws H locs ls h1 h2 h3 h4 h5 h6 hK hP hD hS hl
  refine W.widen hc hs (vx_ret (W.lret hx hb (hr.trans hret) (fun t ht hW => ⟨⟨(some (.long x)), T, I, J, R, ad, rfl, ?_, hP9, tys, ws, h1, h2, h5, h6, va_K.moved hW.alike hK, by rw [ht]; exact hP, hD⟩, hS.F ht⟩) hS.2.2 hd))
  intro w9 e9
  cases e9; exact a_okS_hd h4
theorem aw_return (hC : aC y cc nL ret fr lo kc ks hh X) (hq : aRet X kc ks P) (hret : ret = none) (hd : decode cc pc = .ok (.return_, 1)) (hc : cells ≤ kc) (hs : slots ≤ ks) (hP9 : P (.inl none) T I J R) : AW X cells slots pc L [] T I J R := by
  obtain ⟨p, l, e, Rm, s, m, args, below, meth, c, Q, A, D, ad0, T0⟩ := X
  obtain ⟨⟨hx, hb, hml, hown, hts⟩, hr, hlocks, hname, hl9, hf1, hf2, hf3, hf4, htab, hA, hN, hZ⟩ := hC
  have hq : Q = vx_MQ below (aQc P D T0 ad0 A) (aXc P D T0 ad0 A) args s kc ks A := hq
  subst hq
  intro tys ad ws H locs ls h1 h2 h3 h4 h5 h6 hK hP hD hS hl
  refine W.widen hc hs (vx_ret (W.vret hx hb (hr.trans hret) (fun t ht hW => ⟨⟨none, T, I, J, R, ad, rfl, ?_, hP9, tys, ws, h1, h2, h5, h6, va_K.moved hW.alike hK, by rw [ht]; exact hP, hD⟩, hS.F ht⟩) hS.2.2 hd))
  intro w9 e9
  cases e9
theorem aw_areturn (hC : aC y cc nL ret fr lo kc ks hh X) (hq : aRet X kc ks P) {x : Nat} {rt : FieldType} (hret : ret = some rt) (hrt : (∃ n, rt = .object n) ∨ ∃ t, rt = .array t) (hd : decode cc pc = .ok (.areturn, 1)) (hc : cells ≤ kc) (hs : slots ≤ ks) (hP9 : P (.inl (some (.ref x))) T I J R) : AW X cells slots pc L [.ref x] T I J R := by
  obtain ⟨p, l, e, Rm, s, m, args, below, meth, c, Q, A, D, ad0, T0⟩ := X
  obtain ⟨⟨hx, hb, hml, hown, hts⟩, hr, hlocks, hname, hl9, hf1, hf2, hf3, hf4, htab, hA, hN, hZ⟩ := hC
  have hq : Q = vx_MQ below (aQc P D T0 ad0 A) (aXc P D T0 ad0 A) args s kc ks A := hq
  subst hq
  intro tys ad ws H locs ls h1 h2 h3 h4 h5 h6 hK hP hD hS hl
  refine W.widen hc hs (vx_ret (W.aret (v := .ref (ad x)) hx hb (hr.trans hret) hrt (Or.inr ⟨_, rfl⟩) (fun t ht hW => ⟨⟨(some (.ref x)), T, I, J, R, ad, rfl, ?_, hP9, tys, ws, h1, h2, h5, h6, va_K.moved hW.alike hK, by rw [ht]; exact hP, hD⟩, hS.F ht⟩) hS.2.2 hd))
  intro w9 e9
  cases e9; exact a_okS_hd h4
theorem aw_areturnN (hC : aC y cc nL ret fr lo kc ks hh X) (hq : aRet X kc ks P) {rt : FieldType} (hret : ret = some rt) (hrt : (∃ n, rt = .object n) ∨ ∃ t, rt = .array t) (hd : decode cc pc = .ok (.areturn, 1)) (hc : cells ≤ kc) (hs : slots ≤ ks) (hP9 : P (.inl (some .null)) T I J R) : AW X cells slots pc L [.null] T I J R := by
  obtain ⟨p, l, e, Rm, s, m, args, below, meth, c, Q, A, D, ad0, T0⟩ := X
  obtain ⟨⟨hx, hb, hml, hown, hts⟩, hr, hlocks, hname, hl9, hf1, hf2, hf3, hf4, htab, hA, hN, hZ⟩ := hC
  have hq : Q = vx_MQ below (aQc P D T0 ad0 A) (aXc P D T0 ad0 A) args s kc ks A := hq
  subst hq
  intro tys ad ws H locs ls h1 h2 h3 h4 h5 h6 hK hP hD hS hl
  refine W.widen hc hs (vx_ret (W.aret (v := .null) hx hb (hr.trans hret) hrt (Or.inl rfl) (fun t ht hW => ⟨⟨(some .null), T, I, J, R, ad, rfl, ?_, hP9, tys, ws, h1, h2, h5, h6, va_K.moved hW.alike hK, by rw [ht]; exact hP, hD⟩, hS.F ht⟩) hS.2.2 hd))
  intro w9 e9
  cases e9; exact a_okS_hd h4
theorem ae_out (hC : aC y cc nL ret fr lo kc ks [] X) (hq : aRet X kc ks P) {E : String} (hc : cells ≤ kc) (hs : slots ≤ ks) (hP9 : P (.inr E) T I J R) : AE X cells slots pc L E T I J R := by
  obtain ⟨p, l, e, Rm, s, m, args, below, meth, c, Q, A, D, ad0, T0⟩ := X
  obtain ⟨⟨hx, hb, hml, hown, hts⟩, hr, hlocks, hname, hl9, hf1, hf2, hf3, hf4, htab, hA, hN, hZ⟩ := hC
  have hq : Q = vx_MQ below (aQc P D T0 ad0 A) (aXc P D T0 ad0 A) args s kc ks A := hq
  subst hq
  intro tys ad ws H locs ls rest q ce h1 h2 h3 h5 h6 hK hP hD hS hl hce hv hcl
  exact vx_out (fun x9 h9 => by rw [htab] at h9; cases h9) hlocks hce hv hcl (fun t ht hW => ⟨⟨T, I, J, R, ad, hP9, tys, ws, h1, h2, h5, h6, va_K.moved hW hK, by rw [ht]; exact hP, hD⟩, hS.F ht⟩) hS.2.2 hc hs
theorem aw_throw (hC : aC y cc nL ret fr lo kc ks [] X) (hq : aRet X kc ks P) {ik ic : Nat} {E : String} {names : List String} (hcls : Bundle.fit E = true) (hnames : ∀ n ∈ names, Bundle.fit n = true) (w1 : Cond.classLink y.cls ik E ∈ a_G) (w2 : Cond.initialized E ∈ a_G) (w3 : ∀ w ∈ (vx_at0 y.cls ic E names).filter goodWord, w ∈ a_G) (w4 : ∀ w ∈ (vx_at0 y.cls ic E names).filter (fun w => !goodWord w), w ∈ a_B)
    (d0 : decode cc pc = .ok (.new ik, 3)) (d3 : decode cc (pc + 3) = .ok (.dup, 1)) (d4 : decode cc (pc + 4) = .ok (.invokespecial ic, 3)) (d7 : decode cc (pc + 7) = .ok (.athrow, 1)) (hf : names.length + 3 < fr) (hlo : 13 * (names.length + 1) + 42 ≤ lo) (hc : cells + 1 ≤ kc) (hs : slots + 6 ≤ ks) (hP9 : P (.inr E) T I J R) : AW X cells slots pc L [] T I J R := by
  obtain ⟨p, l, e, Rm, s, m, args, below, meth, c, Q, A, D, ad0, T0⟩ := X
  obtain ⟨⟨hx, hb, hml, hown, hts⟩, hr, hlocks, hname, hl9, hf1, hf2, hf3, hf4, htab, hA, hN, hZ⟩ := hC
  have hq : Q = vx_MQ below (aQc P D T0 ad0 A) (aXc P D T0 ad0 A) args s kc ks A := hq
  subst hq
  intro tys ad ws H locs ls h1 h2 h3 h4 h5 h6 hK hP hD hS hl
  have hgood : ∀ w ∈ a_G, vx_ot w = true := fun w hw => by
    unfold vx_ot
    rw [(List.mem_filter.mp hw).2, Bool.or_true]
  refine vx_throw0 (cls := E) (names := names) (ik := ik) (ic := ic) (rest := []) hx hb hl9 hown hcls hnames (hts _ w1) (hts _ w2) (vx_hat (fun w hw => hts w (w3 w hw)) w4 (fun w hw => a_B_use hw (hN.2.2.2.2.1 w hw))) (fun w hw => ?_) hZ.1 hZ.2 hS hl.1 d0 d3 d4 d7 (fun x9 h9 => by rw [htab] at h9; cases h9) (by rw [hf1]; exact hf) (by rw [hf2]; simpa using hlo) (by rw [hf3]; exact hc) (by rw [hf4]; exact hs) hlocks (fun t ht hz hk => ?_) hS.2.2 hc hs
  · rcases List.mem_cons.mp hw with rfl | hw
    · exact hgood _ w1
    · rcases List.mem_cons.mp hw with rfl | hw
      · exact hgood _ w2
      · by_cases hg : goodWord w = true
        · exact hgood _ (w3 w (List.mem_filter.mpr ⟨hw, hg⟩))
        · have hb9 := w4 w (List.mem_filter.mpr ⟨hw, by simpa using hg⟩)
          simp only [a_B, List.mem_cons, List.not_mem_nil, or_false] at hb9
          rcases hb9 with rfl | rfl | rfl | rfl | rfl | rfl | rfl <;> rfl
  · exact ⟨⟨T, I, J, R, ad, hP9, tys, ws, h1, h2, h5, h6, va_K.moved ht hK, va_P.kept hP (fun k x hx9 => hk x.1 ((hP k x hx9).lt)), hD⟩, ⟨Nat.le_trans hS.1 hz, fun q g1 g2 => (hk q (Nat.lt_of_lt_of_le g1 hS.1)).trans (hS.2.1 q g1 g2)⟩⟩
theorem aw_callV (hC : aC y cc nL ret fr lo kc ks hh X) {idx n : Nat} {y2 : MethodName} {cc2 : ByteArray} {nL2 : Nat} {ret2 : Option FieldType} {fr2 lo2 kc2 ks2 : Nat} {As : List Value} {P2 : aP} {stk : List Value} {o9 ci : Nat} {As9 : List Value} {Tb : u_T} {N : Nat} (hAs : As = .ref o9 :: As9) (hT9 : T[o9]? = some (.inr ci)) (hcl9 : vwCl[ci]? = some (y2.cls, Tb, N)) (hM : AMet y2 cc2 nL2 ret2 fr2 lo2 kc2 ks2 [] As T I J R P2) (hd : decode cc pc = .ok (.invokevirtual idx, 3)) (w0 : a_wd y2 cc2 nL2 ret2 [] ∈ a_G) (w1 : Cond.methodLink y.cls idx y2 ∈ a_G) (w2 : Cond.instanceMethod y2 ∈ a_G) (w3 : Cond.selects y2.cls y2 y2 ∈ a_G) (w9 : Cond.initialized y2.cls ∈ a_G)
    (hdesc : y2.cls ≠ "java/lang/invoke/MethodHandle" ∧ y2.cls ≠ "java/lang/invoke/VarHandle" ∧ (parseMethodDescriptor y2.desc).map (fun d => d.parameters.length) = some n) (hn : As9.length = n) (hfr : fr2 + 1 ≤ fr) (hlo : 8 + (nL2 + 11) + lo2 ≤ lo) (hcat : (st.map fun v => v.category).sum ≤ 8) (hc : cells + kc2 ≤ kc) (hs : slots + ks2 ≤ ks) (hstk : stk = As9.reverse ++ .ref o9 :: st)
    (kx : ∀ (E : String) (T2 : List aT) (I2 : aI) (J2 : aJ) (R2 : aR), T <+: T2 → P2 (.inr E) T2 I2 J2 R2 → AE X (cells + kc2) (slots + ks2) pc L E T2 I2 J2 R2)
    (k : ∀ (v : Option Value) (T2 : List aT) (I2 : aI) (J2 : aJ) (R2 : aR), T <+: T2 → P2 (.inl v) T2 I2 J2 R2 → AW X (cells + kc2) (slots + ks2) (pc + 3) L (v.toList ++ st) T2 I2 J2 R2) : AW X cells slots pc L stk T I J R := by
  subst hstk
  obtain ⟨p, l, e, Rm, s, m, args, below, meth, c, Q, A, D, ad0, T0⟩ := X
  obtain ⟨⟨hx, hb, hml, hown, hts⟩, hr, hlocks, hname, hl9, hf1, hf2, hf3, hf4, htab, hA, hN, hZ⟩ := hC
  intro tys ad ws H locs ls h1 h2 h3 h4 h5 h6 hK hP hD hS hl
  subst hAs
  have hst4 : a_okS T.length st := a_okS_tl (a_okS_right h4)
  have hAs4 : a_okS T.length (.ref o9 :: As9) := a_okS_cons (a_okS_hd (a_okS_right h4)) (a_okS_rev (a_okS_left h4))
  have hblind : FrameBlind (va_Pc ((.ref o9 :: As9 : List Value).map (a_cv ad)) (fun U => U.heap.size = H.size ∧ va_P D vwCl ws U.heap ∧ va_K D vwCl tys U ∧ va_D (fun _ => True) ws ∧ a_N U ∧ aZ (va_A ws H.size) U)) := fun a U g mk q => by
    obtain ⟨q0, q1, qP, qK, qD, qN, qZ⟩ := q
    exact ⟨q0, q1, qP, va_K.moved (u := U) (U := U.calling g mk a) (Vm.Alike.refl U.vm) qK, qD, a_N_moved (s := U) (U := U.calling g mk a) (State.WarmedH.refl U) qN, ⟨vx_Zq.moved (u := U) (U := U.calling g mk a) (Vm.Alike.refl U.vm) qZ.1, vx_Zq.moved (u := U) (U := U.calling g mk a) (Vm.Alike.refl U.vm) qZ.2⟩⟩
  have hFc : ∀ q, va_A ws H.size q → A q := fun q h => by
    rcases h with ⟨k0, e0, h⟩ | h
    · exact hD.2 k0 (q, e0) h
    · exact hA q (Nat.le_trans hS.1 h)
  have hPc : ∀ U : State, U.heap = H → s.WarmedH U.vm → va_Pc ((.ref o9 :: As9 : List Value).map (a_cv ad)) (fun U => U.heap.size = H.size ∧ va_P D vwCl ws U.heap ∧ va_K D vwCl tys U ∧ va_D (fun _ => True) ws ∧ a_N U ∧ aZ (va_A ws H.size) U) ((.ref o9 :: As9 : List Value).map (a_cv ad)).toArray U := fun U hU hW => by
    refine ⟨rfl, by rw [hU], by rw [hU]; exact hP, va_K.moved hW.alike hK, hD.weaken (fun _ _ _ _ => trivial), a_N_moved hW hN, ?_, ?_⟩
    · rw [hU]; exact vx_Zq.narrow (vx_Zq.moved hW.alike (hZ.1.kept hS.2.1)) hFc
    · rw [hU]; exact vx_Zq.narrow (vx_Zq.moved hW.alike (hZ.2.kept hS.2.1)) hFc
  have hG : GoodIn a_G (a_wd y2 cc2 nL2 ret2 [] :: a_G) := fun w hw => by
    rcases List.mem_cons.mp hw with rfl | hw
    · exact ⟨w0, good_of_word (List.mem_filter.mp w0).2⟩
    · exact a_G_good w hw
  have hM9 := hM l hl9 D tys ad ws H.size h1 h2 hAs4
  have hcat9 : ((st.map (a_cv ad)).map fun v => v.category).sum ≤ 8 := by
    rw [List.map_map]; simpa [Function.comp_def, a_cat] using hcat
  have hcw : CallB Rm s args y.cls idx y2 cc2 nL2 ret2 (a_wd y2 cc2 nL2 ret2 [] :: a_G) { frames := fr2, cells := kc2, slots := ks2, locals := lo2 } kc2 ks2 n := callB_of (Ts := a_G) n hts hG rfl rfl rfl (hts _ w9) (hts _ w1) hdesc ⟨by rw [hf1]; exact hfr, by rw [hf2]; exact hlo⟩
  have hrec := va_recv hK hP hcl9 (a_rel_at h1 hT9)
  have hr9 := vx_runV (e := e) (meth := meth) (below := below) (H := H) (locs := locs) (cells := cells) (slots := slots) (g := F0 m pc ls (List.map (a_cv ad) (As9.reverse ++ .ref o9 :: st))) (As := As9.map (a_cv ad)) (rest := st.map (a_cv ad)) (b := ad o9) (C := y2.cls) ⟨hx, hb, hml, hown, hts⟩ hM9 ⟨hcw, hts _ w2, hts _ w3⟩ ⟨hblind, hrec, hPc⟩ rfl (by simpa using hn) (hl.1.trans hml) (by show List.map (a_cv ad) (As9.reverse ++ .ref o9 :: st) = _; rw [List.map_append, List.map_reverse]; rfl) (lv_room hcat9) hd ⟨by rw [hf3]; exact hc, by rw [hf4]; exact hs⟩
  intro T' hT' X'
  rcases hr9 T' hT' X' with ⟨v9, st₀, t, T1, L1, z0, X1, hL1, e1, e2, ⟨⟨v, T2, I2, J2, R2, ad2, hv, hvok, hP9, tys2, ws2, r1, r2, r3, r4, r5, r6, r7⟩, hF⟩, hst9⟩ | ⟨q9, st₀, t, T1, L1, E, ce, z0, X1, hL1, e1, e2, ⟨⟨T2, I2, J2, R2, ad2, hP9, tys2, ws2, r1, r2, r3, r4, r5, r6, r7⟩, hF⟩, hce, hcv, hcl, hst9⟩
  · cases hv
    obtain ⟨k1, k2, k3⟩ := vx_keep z0 e1 hS (fun q _ h => hFc q h) hFc hL1 hF
    have hle : T.length ≤ T2.length := r3.length_le
    have k9 := k v T2 I2 J2 R2 r3 hP9 tys2 ad2 ws2 T1.heap (locs ++ L1) ls r1 r2 (a_okL_le hle h3) (a_okS_app (fun w hw => hvok w (by cases v <;> simp at hw; rw [hw])) (a_okS_le hle hst4)) (h5.trans r3) (fun i hi => (r4 i (Nat.lt_of_lt_of_le hi h5.length_le)).trans (h6 i hi)) (va_K.moved (by rw [← e2]; exact X1.warmed.alike.symm) r5) (by rw [e1]; exact r6) (r7.weaken (fun k q _ h => hFc q.1 h)) k3 (a_lv_le hl (a_lv_eq r4 h3))
    rw [List.map_append, a_cvS_le r4 hst4] at k9
    have e9 : (Option.map (a_cv ad2) v).toList = v.toList.map (a_cv ad2) := by cases v <;> rfl
    rw [e9] at hst9
    obtain ⟨t2, a1, b1⟩ := k9 T1 rfl X1
    exact ⟨t2, hst9 t2 a1, b1⟩
  · obtain ⟨k1, k2, k3⟩ := vx_keep z0 e1 hS (fun q _ h => hFc q h) hFc hL1 hF
    have hle : T.length ≤ T2.length := r3.length_le
    have k9 := kx E T2 I2 J2 R2 r3 hP9 tys2 ad2 ws2 T1.heap (locs ++ L1) ls (st.map (a_cv ad)) q9 ce r1 r2 (a_okL_le hle h3) (h5.trans r3) (fun i hi => (r4 i (Nat.lt_of_lt_of_le hi h5.length_le)).trans (h6 i hi)) (va_K.moved (by rw [← e2]; exact X1.warmed.alike.symm) r5) (by rw [e1]; exact r6) (r7.weaken (fun k q _ h => hFc q.1 h)) k3 (a_lv_le hl (a_lv_eq r4 h3)) (by rw [e1]; exact hce) hcv hcl
    obtain ⟨t2, a1, b1⟩ := k9 T1 rfl X1
    exact ⟨t2, hst9.trans a1, b1⟩
theorem aw_callS (hC : aC y cc nL ret fr lo kc ks hh X) {idx n : Nat} {y2 : MethodName} {cc2 : ByteArray} {nL2 : Nat} {ret2 : Option FieldType} {fr2 lo2 kc2 ks2 : Nat} {As : List Value} {P2 : aP} {stk : List Value}  (hM : AMet y2 cc2 nL2 ret2 fr2 lo2 kc2 ks2 [] As T I J R P2) (hd : decode cc pc = .ok (.invokestatic idx, 3)) (w0 : a_wd y2 cc2 nL2 ret2 [] ∈ a_G) (w1 : Cond.methodLink y.cls idx y2 ∈ a_G) (w2 : Cond.static y2 ∈ a_G) (w9 : Cond.initialized y2.cls ∈ a_G)
    (hdesc : y2.cls ≠ "java/lang/invoke/MethodHandle" ∧ y2.cls ≠ "java/lang/invoke/VarHandle" ∧ (parseMethodDescriptor y2.desc).map (fun d => d.parameters.length) = some n) (hn : As.length = n) (hfr : fr2 + 1 ≤ fr) (hlo : 8 + (nL2 + 11) + lo2 ≤ lo) (hcat : (st.map fun v => v.category).sum ≤ 8) (hc : cells + kc2 ≤ kc) (hs : slots + ks2 ≤ ks) (hstk : stk = As.reverse ++ st)
    (kx : ∀ (E : String) (T2 : List aT) (I2 : aI) (J2 : aJ) (R2 : aR), T <+: T2 → P2 (.inr E) T2 I2 J2 R2 → AE X (cells + kc2) (slots + ks2) pc L E T2 I2 J2 R2)
    (k : ∀ (v : Option Value) (T2 : List aT) (I2 : aI) (J2 : aJ) (R2 : aR), T <+: T2 → P2 (.inl v) T2 I2 J2 R2 → AW X (cells + kc2) (slots + ks2) (pc + 3) L (v.toList ++ st) T2 I2 J2 R2) : AW X cells slots pc L stk T I J R := by
  subst hstk
  obtain ⟨p, l, e, Rm, s, m, args, below, meth, c, Q, A, D, ad0, T0⟩ := X
  obtain ⟨⟨hx, hb, hml, hown, hts⟩, hr, hlocks, hname, hl9, hf1, hf2, hf3, hf4, htab, hA, hN, hZ⟩ := hC
  intro tys ad ws H locs ls h1 h2 h3 h4 h5 h6 hK hP hD hS hl
  have hst4 : a_okS T.length st := a_okS_right h4
  have hAs4 : a_okS T.length As := a_okS_rev (a_okS_left h4)
  have hblind : FrameBlind (va_Pc (As.map (a_cv ad)) (fun U => U.heap.size = H.size ∧ va_P D vwCl ws U.heap ∧ va_K D vwCl tys U ∧ va_D (fun _ => True) ws ∧ a_N U ∧ aZ (va_A ws H.size) U)) := fun a U g mk q => by
    obtain ⟨q0, q1, qP, qK, qD, qN, qZ⟩ := q
    exact ⟨q0, q1, qP, va_K.moved (u := U) (U := U.calling g mk a) (Vm.Alike.refl U.vm) qK, qD, a_N_moved (s := U) (U := U.calling g mk a) (State.WarmedH.refl U) qN, ⟨vx_Zq.moved (u := U) (U := U.calling g mk a) (Vm.Alike.refl U.vm) qZ.1, vx_Zq.moved (u := U) (U := U.calling g mk a) (Vm.Alike.refl U.vm) qZ.2⟩⟩
  have hFc : ∀ q, va_A ws H.size q → A q := fun q h => by
    rcases h with ⟨k0, e0, h⟩ | h
    · exact hD.2 k0 (q, e0) h
    · exact hA q (Nat.le_trans hS.1 h)
  have hPc : ∀ U : State, U.heap = H → s.WarmedH U.vm → va_Pc (As.map (a_cv ad)) (fun U => U.heap.size = H.size ∧ va_P D vwCl ws U.heap ∧ va_K D vwCl tys U ∧ va_D (fun _ => True) ws ∧ a_N U ∧ aZ (va_A ws H.size) U) (As.map (a_cv ad)).toArray U := fun U hU hW => by
    refine ⟨rfl, by rw [hU], by rw [hU]; exact hP, va_K.moved hW.alike hK, hD.weaken (fun _ _ _ _ => trivial), a_N_moved hW hN, ?_, ?_⟩
    · rw [hU]; exact vx_Zq.narrow (vx_Zq.moved hW.alike (hZ.1.kept hS.2.1)) hFc
    · rw [hU]; exact vx_Zq.narrow (vx_Zq.moved hW.alike (hZ.2.kept hS.2.1)) hFc
  have hG : GoodIn a_G (a_wd y2 cc2 nL2 ret2 [] :: a_G) := fun w hw => by
    rcases List.mem_cons.mp hw with rfl | hw
    · exact ⟨w0, good_of_word (List.mem_filter.mp w0).2⟩
    · exact a_G_good w hw
  have hM9 := hM l hl9 D tys ad ws H.size h1 h2 hAs4
  have hcat9 : ((st.map (a_cv ad)).map fun v => v.category).sum ≤ 8 := by
    rw [List.map_map]; simpa [Function.comp_def, a_cat] using hcat
  have hcw : CallB Rm s args y.cls idx y2 cc2 nL2 ret2 (a_wd y2 cc2 nL2 ret2 [] :: a_G) { frames := fr2, cells := kc2, slots := ks2, locals := lo2 } kc2 ks2 n := callB_of (Ts := a_G) n hts hG rfl rfl rfl (hts _ w9) (hts _ w1) hdesc ⟨by rw [hf1]; exact hfr, by rw [hf2]; exact hlo⟩
  have hr9 := vx_runS (e := e) (meth := meth) (below := below) (H := H) (locs := locs) (cells := cells) (slots := slots) (g := F0 m pc ls (List.map (a_cv ad) (As.reverse ++ st))) (As := As.map (a_cv ad)) (rest := st.map (a_cv ad)) ⟨hx, hb, hml, hown, hts⟩ hM9 ⟨hcw, hts _ w2⟩ ⟨hblind, hPc⟩ rfl (by simpa using hn) (hl.1.trans hml) (by show List.map (a_cv ad) (As.reverse ++ st) = _; rw [List.map_append, List.map_reverse]) (lv_room hcat9) hd ⟨by rw [hf3]; exact hc, by rw [hf4]; exact hs⟩
  intro T' hT' X'
  rcases hr9 T' hT' X' with ⟨v9, st₀, t, T1, L1, z0, X1, hL1, e1, e2, ⟨⟨v, T2, I2, J2, R2, ad2, hv, hvok, hP9, tys2, ws2, r1, r2, r3, r4, r5, r6, r7⟩, hF⟩, hst9⟩ | ⟨q9, st₀, t, T1, L1, E, ce, z0, X1, hL1, e1, e2, ⟨⟨T2, I2, J2, R2, ad2, hP9, tys2, ws2, r1, r2, r3, r4, r5, r6, r7⟩, hF⟩, hce, hcv, hcl, hst9⟩
  · cases hv
    obtain ⟨k1, k2, k3⟩ := vx_keep z0 e1 hS (fun q _ h => hFc q h) hFc hL1 hF
    have hle : T.length ≤ T2.length := r3.length_le
    have k9 := k v T2 I2 J2 R2 r3 hP9 tys2 ad2 ws2 T1.heap (locs ++ L1) ls r1 r2 (a_okL_le hle h3) (a_okS_app (fun w hw => hvok w (by cases v <;> simp at hw; rw [hw])) (a_okS_le hle hst4)) (h5.trans r3) (fun i hi => (r4 i (Nat.lt_of_lt_of_le hi h5.length_le)).trans (h6 i hi)) (va_K.moved (by rw [← e2]; exact X1.warmed.alike.symm) r5) (by rw [e1]; exact r6) (r7.weaken (fun k q _ h => hFc q.1 h)) k3 (a_lv_le hl (a_lv_eq r4 h3))
    rw [List.map_append, a_cvS_le r4 hst4] at k9
    have e9 : (Option.map (a_cv ad2) v).toList = v.toList.map (a_cv ad2) := by cases v <;> rfl
    rw [e9] at hst9
    obtain ⟨t2, a1, b1⟩ := k9 T1 rfl X1
    exact ⟨t2, hst9 t2 a1, b1⟩
  · obtain ⟨k1, k2, k3⟩ := vx_keep z0 e1 hS (fun q _ h => hFc q h) hFc hL1 hF
    have hle : T.length ≤ T2.length := r3.length_le
    have k9 := kx E T2 I2 J2 R2 r3 hP9 tys2 ad2 ws2 T1.heap (locs ++ L1) ls (st.map (a_cv ad)) q9 ce r1 r2 (a_okL_le hle h3) (h5.trans r3) (fun i hi => (r4 i (Nat.lt_of_lt_of_le hi h5.length_le)).trans (h6 i hi)) (va_K.moved (by rw [← e2]; exact X1.warmed.alike.symm) r5) (by rw [e1]; exact r6) (r7.weaken (fun k q _ h => hFc q.1 h)) k3 (a_lv_le hl (a_lv_eq r4 h3)) (by rw [e1]; exact hce) hcv hcl
    obtain ⟨t2, a1, b1⟩ := k9 T1 rfl X1
    exact ⟨t2, hst9.trans a1, b1⟩
theorem aw_callI (hC : aC y cc nL ret fr lo kc ks hh X) {idx n : Nat} {y2 : MethodName} {cc2 : ByteArray} {nL2 : Nat} {ret2 : Option FieldType} {fr2 lo2 kc2 ks2 : Nat} {As : List Value} {P2 : aP} {stk : List Value} {o9 : Nat} {As9 : List Value} (hAs : As = .ref o9 :: As9) (hret2 : ret2 = none) (hM : AMet y2 cc2 nL2 ret2 fr2 lo2 kc2 ks2 [] As T I J R P2) (hd : decode cc pc = .ok (.invokespecial idx, 3)) (w0 : a_wd y2 cc2 nL2 ret2 [] ∈ a_G) (w1 : Cond.methodLink y.cls idx y2 ∈ a_G) (w2 : Cond.instanceMethod y2 ∈ a_G) (hinit : y2.name = "<init>") (w9 : Cond.initialized y2.cls ∈ a_G)
    (hdesc : y2.cls ≠ "java/lang/invoke/MethodHandle" ∧ y2.cls ≠ "java/lang/invoke/VarHandle" ∧ (parseMethodDescriptor y2.desc).map (fun d => d.parameters.length) = some n) (hn : As9.length = n) (hfr : fr2 + 1 ≤ fr) (hlo : 8 + (nL2 + 11) + lo2 ≤ lo) (hcat : (st.map fun v => v.category).sum ≤ 8) (hc : cells + kc2 ≤ kc) (hs : slots + ks2 ≤ ks) (hstk : stk = As9.reverse ++ .ref o9 :: st)
    (kx : ∀ (E : String) (T2 : List aT) (I2 : aI) (J2 : aJ) (R2 : aR), T <+: T2 → P2 (.inr E) T2 I2 J2 R2 → AE X (cells + kc2) (slots + ks2) pc L E T2 I2 J2 R2)
    (k : ∀ (v : Option Value) (T2 : List aT) (I2 : aI) (J2 : aJ) (R2 : aR), T <+: T2 → P2 (.inl v) T2 I2 J2 R2 → AW X (cells + kc2) (slots + ks2) (pc + 3) L (v.toList ++ st) T2 I2 J2 R2) : AW X cells slots pc L stk T I J R := by
  subst hstk
  obtain ⟨p, l, e, Rm, s, m, args, below, meth, c, Q, A, D, ad0, T0⟩ := X
  obtain ⟨⟨hx, hb, hml, hown, hts⟩, hr, hlocks, hname, hl9, hf1, hf2, hf3, hf4, htab, hA, hN, hZ⟩ := hC
  intro tys ad ws H locs ls h1 h2 h3 h4 h5 h6 hK hP hD hS hl
  subst hAs
  have hst4 : a_okS T.length st := a_okS_tl (a_okS_right h4)
  have hAs4 : a_okS T.length (.ref o9 :: As9) := a_okS_cons (a_okS_hd (a_okS_right h4)) (a_okS_rev (a_okS_left h4))
  have hblind : FrameBlind (va_Pc ((.ref o9 :: As9 : List Value).map (a_cv ad)) (fun U => U.heap.size = H.size ∧ va_P D vwCl ws U.heap ∧ va_K D vwCl tys U ∧ va_D (fun _ => True) ws ∧ a_N U ∧ aZ (va_A ws H.size) U)) := fun a U g mk q => by
    obtain ⟨q0, q1, qP, qK, qD, qN, qZ⟩ := q
    exact ⟨q0, q1, qP, va_K.moved (u := U) (U := U.calling g mk a) (Vm.Alike.refl U.vm) qK, qD, a_N_moved (s := U) (U := U.calling g mk a) (State.WarmedH.refl U) qN, ⟨vx_Zq.moved (u := U) (U := U.calling g mk a) (Vm.Alike.refl U.vm) qZ.1, vx_Zq.moved (u := U) (U := U.calling g mk a) (Vm.Alike.refl U.vm) qZ.2⟩⟩
  have hFc : ∀ q, va_A ws H.size q → A q := fun q h => by
    rcases h with ⟨k0, e0, h⟩ | h
    · exact hD.2 k0 (q, e0) h
    · exact hA q (Nat.le_trans hS.1 h)
  have hPc : ∀ U : State, U.heap = H → s.WarmedH U.vm → va_Pc ((.ref o9 :: As9 : List Value).map (a_cv ad)) (fun U => U.heap.size = H.size ∧ va_P D vwCl ws U.heap ∧ va_K D vwCl tys U ∧ va_D (fun _ => True) ws ∧ a_N U ∧ aZ (va_A ws H.size) U) ((.ref o9 :: As9 : List Value).map (a_cv ad)).toArray U := fun U hU hW => by
    refine ⟨rfl, by rw [hU], by rw [hU]; exact hP, va_K.moved hW.alike hK, hD.weaken (fun _ _ _ _ => trivial), a_N_moved hW hN, ?_, ?_⟩
    · rw [hU]; exact vx_Zq.narrow (vx_Zq.moved hW.alike (hZ.1.kept hS.2.1)) hFc
    · rw [hU]; exact vx_Zq.narrow (vx_Zq.moved hW.alike (hZ.2.kept hS.2.1)) hFc
  have hG : GoodIn a_G (a_wd y2 cc2 nL2 ret2 [] :: a_G) := fun w hw => by
    rcases List.mem_cons.mp hw with rfl | hw
    · exact ⟨w0, good_of_word (List.mem_filter.mp w0).2⟩
    · exact a_G_good w hw
  have hM9 := hM l hl9 D tys ad ws H.size h1 h2 hAs4
  have hcat9 : ((st.map (a_cv ad)).map fun v => v.category).sum ≤ 8 := by
    rw [List.map_map]; simpa [Function.comp_def, a_cat] using hcat
  subst hret2
  have hcw : CallB Rm s args y.cls idx y2 cc2 nL2 none (a_wd y2 cc2 nL2 none [] :: a_G) { frames := fr2, cells := kc2, slots := ks2, locals := lo2 } kc2 ks2 n := callB_of (Ts := a_G) n hts hG rfl rfl rfl (hts _ w9) (hts _ w1) hdesc ⟨by rw [hf1]; exact hfr, by rw [hf2]; exact hlo⟩
  have hr9 := vx_runI (e := e) (meth := meth) (below := below) (H := H) (locs := locs) (cells := cells) (slots := slots) (g := F0 m pc ls (List.map (a_cv ad) (As9.reverse ++ .ref o9 :: st))) (As := As9.map (a_cv ad)) (rest := st.map (a_cv ad)) (b := ad o9) ⟨hx, hb, hml, hown, hts⟩ hM9 ⟨hcw, hinit, hts _ w2⟩ ⟨hblind, hPc⟩ rfl (by simpa using hn) (hl.1.trans hml) (by show List.map (a_cv ad) (As9.reverse ++ .ref o9 :: st) = _; rw [List.map_append, List.map_reverse]; rfl) (lv_room hcat9) hd ⟨by rw [hf3]; exact hc, by rw [hf4]; exact hs⟩
  intro T' hT' X'
  rcases hr9 T' hT' X' with ⟨v9, st₀, t, T1, L1, z0, X1, hL1, e1, e2, ⟨⟨v, T2, I2, J2, R2, ad2, hv, hvok, hP9, tys2, ws2, r1, r2, r3, r4, r5, r6, r7⟩, hF⟩, hst9⟩ | ⟨q9, st₀, t, T1, L1, E, ce, z0, X1, hL1, e1, e2, ⟨⟨T2, I2, J2, R2, ad2, hP9, tys2, ws2, r1, r2, r3, r4, r5, r6, r7⟩, hF⟩, hce, hcv, hcl, hst9⟩
  · cases hv
    obtain ⟨k1, k2, k3⟩ := vx_keep z0 e1 hS (fun q _ h => hFc q h) hFc hL1 hF
    have hle : T.length ≤ T2.length := r3.length_le
    have k9 := k v T2 I2 J2 R2 r3 hP9 tys2 ad2 ws2 T1.heap (locs ++ L1) ls r1 r2 (a_okL_le hle h3) (a_okS_app (fun w hw => hvok w (by cases v <;> simp at hw; rw [hw])) (a_okS_le hle hst4)) (h5.trans r3) (fun i hi => (r4 i (Nat.lt_of_lt_of_le hi h5.length_le)).trans (h6 i hi)) (va_K.moved (by rw [← e2]; exact X1.warmed.alike.symm) r5) (by rw [e1]; exact r6) (r7.weaken (fun k q _ h => hFc q.1 h)) k3 (a_lv_le hl (a_lv_eq r4 h3))
    rw [List.map_append, a_cvS_le r4 hst4] at k9
    have e9 : (Option.map (a_cv ad2) v).toList = v.toList.map (a_cv ad2) := by cases v <;> rfl
    rw [e9] at hst9
    obtain ⟨t2, a1, b1⟩ := k9 T1 rfl X1
    exact ⟨t2, hst9 t2 a1, b1⟩
  · obtain ⟨k1, k2, k3⟩ := vx_keep z0 e1 hS (fun q _ h => hFc q h) hFc hL1 hF
    have hle : T.length ≤ T2.length := r3.length_le
    have k9 := kx E T2 I2 J2 R2 r3 hP9 tys2 ad2 ws2 T1.heap (locs ++ L1) ls (st.map (a_cv ad)) q9 ce r1 r2 (a_okL_le hle h3) (h5.trans r3) (fun i hi => (r4 i (Nat.lt_of_lt_of_le hi h5.length_le)).trans (h6 i hi)) (va_K.moved (by rw [← e2]; exact X1.warmed.alike.symm) r5) (by rw [e1]; exact r6) (r7.weaken (fun k q _ h => hFc q.1 h)) k3 (a_lv_le hl (a_lv_eq r4 h3)) (by rw [e1]; exact hce) hcv hcl
    obtain ⟨t2, a1, b1⟩ := k9 T1 rfl X1
    exact ⟨t2, hst9.trans a1, b1⟩
theorem aw_callSN (hC : aC y cc nL ret fr lo kc ks hh X) {idx n : Nat} {y2 : MethodName} {cc2 : ByteArray} {nL2 : Nat} {ret2 : Option FieldType} {fr2 lo2 kc2 ks2 : Nat} {As : List Value} {P2 : aP} {stk : List Value}  (hM : AMet y2 cc2 nL2 ret2 fr2 lo2 kc2 ks2 [] As T I J R P2) (hd : decode cc pc = .ok (.invokestatic idx, 3)) (w0 : a_wd y2 cc2 nL2 ret2 [] ∈ a_G) (w1 : ∀ U : State, a_N U → va_Nw (.methodLinkNest y.cls idx y2 "Layerwright") U) (w2 : Cond.static y2 ∈ a_G) (w9 : Cond.initialized y2.cls ∈ a_G)
    (hdesc : y2.cls ≠ "java/lang/invoke/MethodHandle" ∧ y2.cls ≠ "java/lang/invoke/VarHandle" ∧ (parseMethodDescriptor y2.desc).map (fun d => d.parameters.length) = some n) (hn : As.length = n) (hfr : fr2 + 1 ≤ fr) (hlo : 8 + (nL2 + 11) + lo2 ≤ lo) (hcat : (st.map fun v => v.category).sum ≤ 8) (hc : cells + kc2 ≤ kc) (hs : slots + ks2 ≤ ks) (hstk : stk = As.reverse ++ st)
    (kx : ∀ (E : String) (T2 : List aT) (I2 : aI) (J2 : aJ) (R2 : aR), T <+: T2 → P2 (.inr E) T2 I2 J2 R2 → AE X (cells + kc2) (slots + ks2) pc L E T2 I2 J2 R2)
    (k : ∀ (v : Option Value) (T2 : List aT) (I2 : aI) (J2 : aJ) (R2 : aR), T <+: T2 → P2 (.inl v) T2 I2 J2 R2 → AW X (cells + kc2) (slots + ks2) (pc + 3) L (v.toList ++ st) T2 I2 J2 R2) : AW X cells slots pc L stk T I J R := by
  subst hstk
  obtain ⟨p, l, e, Rm, s, m, args, below, meth, c, Q, A, D, ad0, T0⟩ := X
  obtain ⟨⟨hx, hb, hml, hown, hts⟩, hr, hlocks, hname, hl9, hf1, hf2, hf3, hf4, htab, hA, hN, hZ⟩ := hC
  intro tys ad ws H locs ls h1 h2 h3 h4 h5 h6 hK hP hD hS hl
  have hst4 : a_okS T.length st := a_okS_right h4
  have hAs4 : a_okS T.length As := a_okS_rev (a_okS_left h4)
  have hblind : FrameBlind (va_Pc (As.map (a_cv ad)) (fun U => U.heap.size = H.size ∧ va_P D vwCl ws U.heap ∧ va_K D vwCl tys U ∧ va_D (fun _ => True) ws ∧ a_N U ∧ aZ (va_A ws H.size) U)) := fun a U g mk q => by
    obtain ⟨q0, q1, qP, qK, qD, qN, qZ⟩ := q
    exact ⟨q0, q1, qP, va_K.moved (u := U) (U := U.calling g mk a) (Vm.Alike.refl U.vm) qK, qD, a_N_moved (s := U) (U := U.calling g mk a) (State.WarmedH.refl U) qN, ⟨vx_Zq.moved (u := U) (U := U.calling g mk a) (Vm.Alike.refl U.vm) qZ.1, vx_Zq.moved (u := U) (U := U.calling g mk a) (Vm.Alike.refl U.vm) qZ.2⟩⟩
  have hFc : ∀ q, va_A ws H.size q → A q := fun q h => by
    rcases h with ⟨k0, e0, h⟩ | h
    · exact hD.2 k0 (q, e0) h
    · exact hA q (Nat.le_trans hS.1 h)
  have hPc : ∀ U : State, U.heap = H → s.WarmedH U.vm → va_Pc (As.map (a_cv ad)) (fun U => U.heap.size = H.size ∧ va_P D vwCl ws U.heap ∧ va_K D vwCl tys U ∧ va_D (fun _ => True) ws ∧ a_N U ∧ aZ (va_A ws H.size) U) (As.map (a_cv ad)).toArray U := fun U hU hW => by
    refine ⟨rfl, by rw [hU], by rw [hU]; exact hP, va_K.moved hW.alike hK, hD.weaken (fun _ _ _ _ => trivial), a_N_moved hW hN, ?_, ?_⟩
    · rw [hU]; exact vx_Zq.narrow (vx_Zq.moved hW.alike (hZ.1.kept hS.2.1)) hFc
    · rw [hU]; exact vx_Zq.narrow (vx_Zq.moved hW.alike (hZ.2.kept hS.2.1)) hFc
  have hG : GoodIn a_G (a_wd y2 cc2 nL2 ret2 [] :: a_G) := fun w hw => by
    rcases List.mem_cons.mp hw with rfl | hw
    · exact ⟨w0, good_of_word (List.mem_filter.mp w0).2⟩
    · exact a_G_good w hw
  have hM9 := hM l hl9 D tys ad ws H.size h1 h2 hAs4
  have hcat9 : ((st.map (a_cv ad)).map fun v => v.category).sum ≤ 8 := by
    rw [List.map_map]; simpa [Function.comp_def, a_cat] using hcat
  have hcw : va_CN Rm s args y.cls idx y2 "Layerwright" cc2 nL2 ret2 (a_wd y2 cc2 nL2 ret2 [] :: a_G) { frames := fr2, cells := kc2, slots := ks2, locals := lo2 } kc2 ks2 n := va_cnB (Ts := a_G) n hts hG rfl rfl rfl (w1 s hN) (hts _ w9) hdesc ⟨by rw [hf1]; exact hfr, by rw [hf2]; exact hlo⟩
  have hr9 := vx_runSN (e := e) (meth := meth) (below := below) (H := H) (locs := locs) (cells := cells) (slots := slots) (g := F0 m pc ls (List.map (a_cv ad) (As.reverse ++ st))) (As := As.map (a_cv ad)) (rest := st.map (a_cv ad)) ⟨hx, hb, hml, hown, hts⟩ hM9 ⟨hcw, hts _ w2, trivial⟩ ⟨hblind, hPc⟩ rfl (by simpa using hn) (hl.1.trans hml) (by show List.map (a_cv ad) (As.reverse ++ st) = _; rw [List.map_append, List.map_reverse]) (lv_room hcat9) hd ⟨by rw [hf3]; exact hc, by rw [hf4]; exact hs⟩
  intro T' hT' X'
  rcases hr9 T' hT' X' with ⟨v9, st₀, t, T1, L1, z0, X1, hL1, e1, e2, ⟨⟨v, T2, I2, J2, R2, ad2, hv, hvok, hP9, tys2, ws2, r1, r2, r3, r4, r5, r6, r7⟩, hF⟩, hst9⟩ | ⟨q9, st₀, t, T1, L1, E, ce, z0, X1, hL1, e1, e2, ⟨⟨T2, I2, J2, R2, ad2, hP9, tys2, ws2, r1, r2, r3, r4, r5, r6, r7⟩, hF⟩, hce, hcv, hcl, hst9⟩
  · cases hv
    obtain ⟨k1, k2, k3⟩ := vx_keep z0 e1 hS (fun q _ h => hFc q h) hFc hL1 hF
    have hle : T.length ≤ T2.length := r3.length_le
    have k9 := k v T2 I2 J2 R2 r3 hP9 tys2 ad2 ws2 T1.heap (locs ++ L1) ls r1 r2 (a_okL_le hle h3) (a_okS_app (fun w hw => hvok w (by cases v <;> simp at hw; rw [hw])) (a_okS_le hle hst4)) (h5.trans r3) (fun i hi => (r4 i (Nat.lt_of_lt_of_le hi h5.length_le)).trans (h6 i hi)) (va_K.moved (by rw [← e2]; exact X1.warmed.alike.symm) r5) (by rw [e1]; exact r6) (r7.weaken (fun k q _ h => hFc q.1 h)) k3 (a_lv_le hl (a_lv_eq r4 h3))
    rw [List.map_append, a_cvS_le r4 hst4] at k9
    have e9 : (Option.map (a_cv ad2) v).toList = v.toList.map (a_cv ad2) := by cases v <;> rfl
    rw [e9] at hst9
    obtain ⟨t2, a1, b1⟩ := k9 T1 rfl X1
    exact ⟨t2, hst9 t2 a1, b1⟩
  · obtain ⟨k1, k2, k3⟩ := vx_keep z0 e1 hS (fun q _ h => hFc q h) hFc hL1 hF
    have hle : T.length ≤ T2.length := r3.length_le
    have k9 := kx E T2 I2 J2 R2 r3 hP9 tys2 ad2 ws2 T1.heap (locs ++ L1) ls (st.map (a_cv ad)) q9 ce r1 r2 (a_okL_le hle h3) (h5.trans r3) (fun i hi => (r4 i (Nat.lt_of_lt_of_le hi h5.length_le)).trans (h6 i hi)) (va_K.moved (by rw [← e2]; exact X1.warmed.alike.symm) r5) (by rw [e1]; exact r6) (r7.weaken (fun k q _ h => hFc q.1 h)) k3 (a_lv_le hl (a_lv_eq r4 h3)) (by rw [e1]; exact hce) hcv hcl
    obtain ⟨t2, a1, b1⟩ := k9 T1 rfl X1
    exact ⟨t2, hst9.trans a1, b1⟩
theorem aw_callIN (hC : aC y cc nL ret fr lo kc ks hh X) {idx n : Nat} {y2 : MethodName} {cc2 : ByteArray} {nL2 : Nat} {ret2 : Option FieldType} {fr2 lo2 kc2 ks2 : Nat} {As : List Value} {P2 : aP} {stk : List Value} {o9 : Nat} {As9 : List Value} (hAs : As = .ref o9 :: As9) (hret2 : ret2 = none) (hM : AMet y2 cc2 nL2 ret2 fr2 lo2 kc2 ks2 [] As T I J R P2) (hd : decode cc pc = .ok (.invokespecial idx, 3)) (w0 : a_wd y2 cc2 nL2 ret2 [] ∈ a_G) (w1 : ∀ U : State, a_N U → va_Nw (.methodLinkNest y.cls idx y2 "Layerwright") U) (w2 : Cond.instanceMethod y2 ∈ a_G) (hinit : y2.name = "<init>") (w9 : Cond.initialized y2.cls ∈ a_G)
    (hdesc : y2.cls ≠ "java/lang/invoke/MethodHandle" ∧ y2.cls ≠ "java/lang/invoke/VarHandle" ∧ (parseMethodDescriptor y2.desc).map (fun d => d.parameters.length) = some n) (hn : As9.length = n) (hfr : fr2 + 1 ≤ fr) (hlo : 8 + (nL2 + 11) + lo2 ≤ lo) (hcat : (st.map fun v => v.category).sum ≤ 8) (hc : cells + kc2 ≤ kc) (hs : slots + ks2 ≤ ks) (hstk : stk = As9.reverse ++ .ref o9 :: st)
    (kx : ∀ (E : String) (T2 : List aT) (I2 : aI) (J2 : aJ) (R2 : aR), T <+: T2 → P2 (.inr E) T2 I2 J2 R2 → AE X (cells + kc2) (slots + ks2) pc L E T2 I2 J2 R2)
    (k : ∀ (v : Option Value) (T2 : List aT) (I2 : aI) (J2 : aJ) (R2 : aR), T <+: T2 → P2 (.inl v) T2 I2 J2 R2 → AW X (cells + kc2) (slots + ks2) (pc + 3) L (v.toList ++ st) T2 I2 J2 R2) : AW X cells slots pc L stk T I J R := by
  subst hstk
  obtain ⟨p, l, e, Rm, s, m, args, below, meth, c, Q, A, D, ad0, T0⟩ := X
  obtain ⟨⟨hx, hb, hml, hown, hts⟩, hr, hlocks, hname, hl9, hf1, hf2, hf3, hf4, htab, hA, hN, hZ⟩ := hC
  intro tys ad ws H locs ls h1 h2 h3 h4 h5 h6 hK hP hD hS hl
  subst hAs
  have hst4 : a_okS T.length st := a_okS_tl (a_okS_right h4)
  have hAs4 : a_okS T.length (.ref o9 :: As9) := a_okS_cons (a_okS_hd (a_okS_right h4)) (a_okS_rev (a_okS_left h4))
  have hblind : FrameBlind (va_Pc ((.ref o9 :: As9 : List Value).map (a_cv ad)) (fun U => U.heap.size = H.size ∧ va_P D vwCl ws U.heap ∧ va_K D vwCl tys U ∧ va_D (fun _ => True) ws ∧ a_N U ∧ aZ (va_A ws H.size) U)) := fun a U g mk q => by
    obtain ⟨q0, q1, qP, qK, qD, qN, qZ⟩ := q
    exact ⟨q0, q1, qP, va_K.moved (u := U) (U := U.calling g mk a) (Vm.Alike.refl U.vm) qK, qD, a_N_moved (s := U) (U := U.calling g mk a) (State.WarmedH.refl U) qN, ⟨vx_Zq.moved (u := U) (U := U.calling g mk a) (Vm.Alike.refl U.vm) qZ.1, vx_Zq.moved (u := U) (U := U.calling g mk a) (Vm.Alike.refl U.vm) qZ.2⟩⟩
  have hFc : ∀ q, va_A ws H.size q → A q := fun q h => by
    rcases h with ⟨k0, e0, h⟩ | h
    · exact hD.2 k0 (q, e0) h
    · exact hA q (Nat.le_trans hS.1 h)
  have hPc : ∀ U : State, U.heap = H → s.WarmedH U.vm → va_Pc ((.ref o9 :: As9 : List Value).map (a_cv ad)) (fun U => U.heap.size = H.size ∧ va_P D vwCl ws U.heap ∧ va_K D vwCl tys U ∧ va_D (fun _ => True) ws ∧ a_N U ∧ aZ (va_A ws H.size) U) ((.ref o9 :: As9 : List Value).map (a_cv ad)).toArray U := fun U hU hW => by
    refine ⟨rfl, by rw [hU], by rw [hU]; exact hP, va_K.moved hW.alike hK, hD.weaken (fun _ _ _ _ => trivial), a_N_moved hW hN, ?_, ?_⟩
    · rw [hU]; exact vx_Zq.narrow (vx_Zq.moved hW.alike (hZ.1.kept hS.2.1)) hFc
    · rw [hU]; exact vx_Zq.narrow (vx_Zq.moved hW.alike (hZ.2.kept hS.2.1)) hFc
  have hG : GoodIn a_G (a_wd y2 cc2 nL2 ret2 [] :: a_G) := fun w hw => by
    rcases List.mem_cons.mp hw with rfl | hw
    · exact ⟨w0, good_of_word (List.mem_filter.mp w0).2⟩
    · exact a_G_good w hw
  have hM9 := hM l hl9 D tys ad ws H.size h1 h2 hAs4
  have hcat9 : ((st.map (a_cv ad)).map fun v => v.category).sum ≤ 8 := by
    rw [List.map_map]; simpa [Function.comp_def, a_cat] using hcat
  subst hret2
  have hcw : va_CN Rm s args y.cls idx y2 "Layerwright" cc2 nL2 none (a_wd y2 cc2 nL2 none [] :: a_G) { frames := fr2, cells := kc2, slots := ks2, locals := lo2 } kc2 ks2 n := va_cnB (Ts := a_G) n hts hG rfl rfl rfl (w1 s hN) (hts _ w9) hdesc ⟨by rw [hf1]; exact hfr, by rw [hf2]; exact hlo⟩
  have hr9 := vx_runIN (e := e) (meth := meth) (below := below) (H := H) (locs := locs) (cells := cells) (slots := slots) (g := F0 m pc ls (List.map (a_cv ad) (As9.reverse ++ .ref o9 :: st))) (As := As9.map (a_cv ad)) (rest := st.map (a_cv ad)) (b := ad o9) ⟨hx, hb, hml, hown, hts⟩ hM9 ⟨hcw, hinit, hts _ w2⟩ ⟨hblind, hPc⟩ rfl (by simpa using hn) (hl.1.trans hml) (by show List.map (a_cv ad) (As9.reverse ++ .ref o9 :: st) = _; rw [List.map_append, List.map_reverse]; rfl) (lv_room hcat9) hd ⟨by rw [hf3]; exact hc, by rw [hf4]; exact hs⟩
  intro T' hT' X'
  rcases hr9 T' hT' X' with ⟨v9, st₀, t, T1, L1, z0, X1, hL1, e1, e2, ⟨⟨v, T2, I2, J2, R2, ad2, hv, hvok, hP9, tys2, ws2, r1, r2, r3, r4, r5, r6, r7⟩, hF⟩, hst9⟩ | ⟨q9, st₀, t, T1, L1, E, ce, z0, X1, hL1, e1, e2, ⟨⟨T2, I2, J2, R2, ad2, hP9, tys2, ws2, r1, r2, r3, r4, r5, r6, r7⟩, hF⟩, hce, hcv, hcl, hst9⟩
  · cases hv
    obtain ⟨k1, k2, k3⟩ := vx_keep z0 e1 hS (fun q _ h => hFc q h) hFc hL1 hF
    have hle : T.length ≤ T2.length := r3.length_le
    have k9 := k v T2 I2 J2 R2 r3 hP9 tys2 ad2 ws2 T1.heap (locs ++ L1) ls r1 r2 (a_okL_le hle h3) (a_okS_app (fun w hw => hvok w (by cases v <;> simp at hw; rw [hw])) (a_okS_le hle hst4)) (h5.trans r3) (fun i hi => (r4 i (Nat.lt_of_lt_of_le hi h5.length_le)).trans (h6 i hi)) (va_K.moved (by rw [← e2]; exact X1.warmed.alike.symm) r5) (by rw [e1]; exact r6) (r7.weaken (fun k q _ h => hFc q.1 h)) k3 (a_lv_le hl (a_lv_eq r4 h3))
    rw [List.map_append, a_cvS_le r4 hst4] at k9
    have e9 : (Option.map (a_cv ad2) v).toList = v.toList.map (a_cv ad2) := by cases v <;> rfl
    rw [e9] at hst9
    obtain ⟨t2, a1, b1⟩ := k9 T1 rfl X1
    exact ⟨t2, hst9 t2 a1, b1⟩
  · obtain ⟨k1, k2, k3⟩ := vx_keep z0 e1 hS (fun q _ h => hFc q h) hFc hL1 hF
    have hle : T.length ≤ T2.length := r3.length_le
    have k9 := kx E T2 I2 J2 R2 r3 hP9 tys2 ad2 ws2 T1.heap (locs ++ L1) ls (st.map (a_cv ad)) q9 ce r1 r2 (a_okL_le hle h3) (h5.trans r3) (fun i hi => (r4 i (Nat.lt_of_lt_of_le hi h5.length_le)).trans (h6 i hi)) (va_K.moved (by rw [← e2]; exact X1.warmed.alike.symm) r5) (by rw [e1]; exact r6) (r7.weaken (fun k q _ h => hFc q.1 h)) k3 (a_lv_le hl (a_lv_eq r4 h3)) (by rw [e1]; exact hce) hcv hcl
    obtain ⟨t2, a1, b1⟩ := k9 T1 rfl X1
    exact ⟨t2, hst9.trans a1, b1⟩
theorem aw_callSX (hC : aC y cc nL ret fr lo kc ks hh X) {idx n : Nat} {y2 : MethodName} {cc2 : ByteArray} {nL2 : Nat} {ret2 : Option FieldType} {fr2 lo2 kc2 ks2 : Nat} {As : List Value} {P2 : aP} {stk : List Value} {h0 : Nat × Nat × Nat × Nat} {ht : List (Nat × Nat × Nat × Nat)} (hM : AMet y2 cc2 nL2 ret2 fr2 lo2 kc2 ks2 (h0 :: ht) As T I J R P2) (hd : decode cc pc = .ok (.invokestatic idx, 3)) (w0 : a_wd y2 cc2 nL2 ret2 (h0 :: ht) ∈ a_G) (w1 : Cond.methodLink y.cls idx y2 ∈ a_G) (w2 : Cond.static y2 ∈ a_G) (w9 : Cond.initialized y2.cls ∈ a_G)
    (hdesc : y2.cls ≠ "java/lang/invoke/MethodHandle" ∧ y2.cls ≠ "java/lang/invoke/VarHandle" ∧ (parseMethodDescriptor y2.desc).map (fun d => d.parameters.length) = some n) (hn : As.length = n) (hfr : fr2 + 1 ≤ fr) (hlo : 8 + (nL2 + 11) + lo2 ≤ lo) (hcat : (st.map fun v => v.category).sum ≤ 8) (hc : cells + kc2 ≤ kc) (hs : slots + ks2 ≤ ks) (hstk : stk = As.reverse ++ st)
    (kx : ∀ (E : String) (T2 : List aT) (I2 : aI) (J2 : aJ) (R2 : aR), T <+: T2 → P2 (.inr E) T2 I2 J2 R2 → AE X (cells + kc2) (slots + ks2) pc L E T2 I2 J2 R2)
    (k : ∀ (v : Option Value) (T2 : List aT) (I2 : aI) (J2 : aJ) (R2 : aR), T <+: T2 → P2 (.inl v) T2 I2 J2 R2 → AW X (cells + kc2) (slots + ks2) (pc + 3) L (v.toList ++ st) T2 I2 J2 R2) : AW X cells slots pc L stk T I J R := by
  subst hstk
  obtain ⟨p, l, e, Rm, s, m, args, below, meth, c, Q, A, D, ad0, T0⟩ := X
  obtain ⟨⟨hx, hb, hml, hown, hts⟩, hr, hlocks, hname, hl9, hf1, hf2, hf3, hf4, htab, hA, hN, hZ⟩ := hC
  intro tys ad ws H locs ls h1 h2 h3 h4 h5 h6 hK hP hD hS hl
  have hst4 : a_okS T.length st := a_okS_right h4
  have hAs4 : a_okS T.length As := a_okS_rev (a_okS_left h4)
  have hblind : FrameBlind (va_Pc (As.map (a_cv ad)) (fun U => U.heap.size = H.size ∧ va_P D vwCl ws U.heap ∧ va_K D vwCl tys U ∧ va_D (fun _ => True) ws ∧ a_N U ∧ aZ (va_A ws H.size) U)) := fun a U g mk q => by
    obtain ⟨q0, q1, qP, qK, qD, qN, qZ⟩ := q
    exact ⟨q0, q1, qP, va_K.moved (u := U) (U := U.calling g mk a) (Vm.Alike.refl U.vm) qK, qD, a_N_moved (s := U) (U := U.calling g mk a) (State.WarmedH.refl U) qN, ⟨vx_Zq.moved (u := U) (U := U.calling g mk a) (Vm.Alike.refl U.vm) qZ.1, vx_Zq.moved (u := U) (U := U.calling g mk a) (Vm.Alike.refl U.vm) qZ.2⟩⟩
  have hFc : ∀ q, va_A ws H.size q → A q := fun q h => by
    rcases h with ⟨k0, e0, h⟩ | h
    · exact hD.2 k0 (q, e0) h
    · exact hA q (Nat.le_trans hS.1 h)
  have hPc : ∀ U : State, U.heap = H → s.WarmedH U.vm → va_Pc (As.map (a_cv ad)) (fun U => U.heap.size = H.size ∧ va_P D vwCl ws U.heap ∧ va_K D vwCl tys U ∧ va_D (fun _ => True) ws ∧ a_N U ∧ aZ (va_A ws H.size) U) (As.map (a_cv ad)).toArray U := fun U hU hW => by
    refine ⟨rfl, by rw [hU], by rw [hU]; exact hP, va_K.moved hW.alike hK, hD.weaken (fun _ _ _ _ => trivial), a_N_moved hW hN, ?_, ?_⟩
    · rw [hU]; exact vx_Zq.narrow (vx_Zq.moved hW.alike (hZ.1.kept hS.2.1)) hFc
    · rw [hU]; exact vx_Zq.narrow (vx_Zq.moved hW.alike (hZ.2.kept hS.2.1)) hFc
  have hG : GoodIn a_G (a_wd y2 cc2 nL2 ret2 (h0 :: ht) :: a_G) := fun w hw => by
    rcases List.mem_cons.mp hw with rfl | hw
    · exact ⟨w0, good_of_word (List.mem_filter.mp w0).2⟩
    · exact a_G_good w hw
  have hM9 := hM l hl9 D tys ad ws H.size h1 h2 hAs4
  have hcat9 : ((st.map (a_cv ad)).map fun v => v.category).sum ≤ 8 := by
    rw [List.map_map]; simpa [Function.comp_def, a_cat] using hcat
  have hcw : vx_CSW Rm s args y.cls idx y2 cc2 nL2 ret2 (h0 :: ht) (a_wd y2 cc2 nL2 ret2 (h0 :: ht) :: a_G) { frames := fr2, cells := kc2, slots := ks2, locals := lo2 } kc2 ks2 n := vx_cwSW (Ts := a_G) n hts (fun w hw => by
    unfold va_wsS at hw
    rcases List.mem_append.mp hw with hw | hw
    · simp only [List.mem_cons, List.not_mem_nil, or_false] at hw
      rcases hw with rfl | rfl | rfl
      · exact ⟨w1, good_of_word (List.mem_filter.mp w1).2⟩
      · exact ⟨w2, good_of_word (List.mem_filter.mp w2).2⟩
      · exact ⟨w9, good_of_word (List.mem_filter.mp w9).2⟩
    · exact hG w hw) rfl rfl rfl hdesc ⟨by rw [hf1]; exact hfr, by rw [hf2]; exact hlo⟩
  have hr9 := vx_runSX (e := e) (meth := meth) (below := below) (H := H) (locs := locs) (cells := cells) (slots := slots) (g := F0 m pc ls (List.map (a_cv ad) (As.reverse ++ st))) (As := As.map (a_cv ad)) (rest := st.map (a_cv ad)) ⟨hx, hb, hml, hown, hts⟩ hM9 hcw ⟨hblind, hPc⟩ rfl (by simpa using hn) (hl.1.trans hml) (by show List.map (a_cv ad) (As.reverse ++ st) = _; rw [List.map_append, List.map_reverse]) (lv_room hcat9) hd ⟨by rw [hf3]; exact hc, by rw [hf4]; exact hs⟩
  intro T' hT' X'
  rcases hr9 T' hT' X' with ⟨v9, st₀, t, T1, L1, z0, X1, hL1, e1, e2, ⟨⟨v, T2, I2, J2, R2, ad2, hv, hvok, hP9, tys2, ws2, r1, r2, r3, r4, r5, r6, r7⟩, hF⟩, hst9⟩ | ⟨q9, st₀, t, T1, L1, E, ce, z0, X1, hL1, e1, e2, ⟨⟨T2, I2, J2, R2, ad2, hP9, tys2, ws2, r1, r2, r3, r4, r5, r6, r7⟩, hF⟩, hce, hcv, hcl, hst9⟩
  · cases hv
    obtain ⟨k1, k2, k3⟩ := vx_keep z0 e1 hS (fun q _ h => hFc q h) hFc hL1 hF
    have hle : T.length ≤ T2.length := r3.length_le
    have k9 := k v T2 I2 J2 R2 r3 hP9 tys2 ad2 ws2 T1.heap (locs ++ L1) ls r1 r2 (a_okL_le hle h3) (a_okS_app (fun w hw => hvok w (by cases v <;> simp at hw; rw [hw])) (a_okS_le hle hst4)) (h5.trans r3) (fun i hi => (r4 i (Nat.lt_of_lt_of_le hi h5.length_le)).trans (h6 i hi)) (va_K.moved (by rw [← e2]; exact X1.warmed.alike.symm) r5) (by rw [e1]; exact r6) (r7.weaken (fun k q _ h => hFc q.1 h)) k3 (a_lv_le hl (a_lv_eq r4 h3))
    rw [List.map_append, a_cvS_le r4 hst4] at k9
    have e9 : (Option.map (a_cv ad2) v).toList = v.toList.map (a_cv ad2) := by cases v <;> rfl
    rw [e9] at hst9
    obtain ⟨t2, a1, b1⟩ := k9 T1 rfl X1
    exact ⟨t2, hst9 t2 a1, b1⟩
  · obtain ⟨k1, k2, k3⟩ := vx_keep z0 e1 hS (fun q _ h => hFc q h) hFc hL1 hF
    have hle : T.length ≤ T2.length := r3.length_le
    have k9 := kx E T2 I2 J2 R2 r3 hP9 tys2 ad2 ws2 T1.heap (locs ++ L1) ls (st.map (a_cv ad)) q9 ce r1 r2 (a_okL_le hle h3) (h5.trans r3) (fun i hi => (r4 i (Nat.lt_of_lt_of_le hi h5.length_le)).trans (h6 i hi)) (va_K.moved (by rw [← e2]; exact X1.warmed.alike.symm) r5) (by rw [e1]; exact r6) (r7.weaken (fun k q _ h => hFc q.1 h)) k3 (a_lv_le hl (a_lv_eq r4 h3)) (by rw [e1]; exact hce) hcv hcl
    obtain ⟨t2, a1, b1⟩ := k9 T1 rfl X1
    exact ⟨t2, hst9.trans a1, b1⟩
theorem ae_catch (hC : aC y cc nL ret fr lo kc ks hh X) {E : String} (pre : List ExceptionTableEntry) (x : ExceptionTableEntry) (suf : List ExceptionTableEntry) (hsplit : tableOf hh = pre ++ x :: suf) (hE : E ∈ (["java/lang/IndexOutOfBoundsException", "java/lang/IllegalArgumentException", "java/lang/IllegalStateException"] : List String))
    (hpass : ∀ z ∈ pre, covers z pc = false ∨ (z.catchType ≠ 0 ∧ ∃ nm : String, nm ∈ (["java/lang/IndexOutOfBoundsException", "java/lang/IllegalArgumentException", "java/lang/IllegalStateException"] : List String) ∧ E ≠ nm ∧ Cond.classLink y.cls z.catchType nm ∈ a_G)) (hx0 : covers x pc = true) (h0 : x.catchType ≠ 0) (w1 : Cond.classLink y.cls x.catchType E ∈ a_G)
    {i len : Nat} {L2 : List (Option Value)} (hd : (decode cc x.handlerPc = .ok (.astore i, 2) ∧ len = 2) ∨ ∃ k0 : Fin 4, decode cc x.handlerPc = .ok (.astore_n k0, 1) ∧ (k0 : Nat) = i ∧ len = 1) (hn : i < nL) (hL : (a_pre L i).set i none = L2)
    (k : AW X cells slots (x.handlerPc + len) L2 [] T I J R) : AE X cells slots pc L E T I J R := by
  subst hL
  obtain ⟨p, l, e, Rm, s, m, args, below, meth, c, Q, A, D, ad0, T0⟩ := X
  obtain ⟨⟨hx, hb, hml, hown, hts⟩, hr, hlocks, hname, hl9, hf1, hf2, hf3, hf4, htab, hA, hN, hZ⟩ := hC
  intro tys ad ws H locs ls rest q ce h1 h2 h3 h5 h6 hK hP hD hS hl hce hv hcl
  have hEB : Cond.castable E E ∈ a_B := by
    simp only [List.mem_cons, List.not_mem_nil, or_false] at hE
    rcases hE with rfl | rfl | rfl <;> simp [a_B]
  refine vx_catch (own := y.cls) (name := E) hown pre x suf (htab.trans hsplit) (fun z hz => ?_) hx0 h0 (hts _ w1) (a_B_use hEB (hN.2.2.2.2.1 _ hEB)) hce hv hcl ?_
  · rcases hpass z hz with g | ⟨g1, nm, g2, g3, g4⟩
    · exact Or.inl g
    · exact Or.inr ⟨g1, nm, hts _ g4, hN.2.2.2.2.2 E hE nm g2 g3⟩
  · have hsub : ∀ q9 ∈ a_lv ad ((a_pre L i).set i none), q9 ∈ (i, Value.ref q) :: (a_lv ad L).filter (fun q => !(q.1 == i) && !(q.1 + 1 == i && q.2.category == 2)) := fun q9 hq9 => by
      obtain ⟨v1, f1, f2⟩ := a_lv_mem.mp hq9
      rw [List.getElem?_set] at f1
      by_cases e : i = q9.1
      · rw [if_pos e] at f1
        split at f1 <;> simp at f1
      · have hm : q9 ∈ a_lv ad (a_set L i .null) := a_lv_mem.mpr ⟨v1, by rw [a_set, List.getElem?_set, if_neg e]; rw [if_neg e] at f1; exact f1, f2⟩
        rcases List.mem_cons.mp (a_lv_set q9 hm) with g | g
        · rw [g] at e; exact absurd rfl e
        · exact List.mem_cons_of_mem _ g
    have h39 : a_okL T.length ((a_pre L i).set i none) := a_okL_sets (a_okL_pre h3) (fun v e => nomatch e)
    rcases hd with ⟨d1, rfl⟩ | ⟨k0, d1, hi, rfl⟩
    · exact lv_astore hx hb d1 hl (by rw [hml]; exact hn) rfl (fun ls9 hl9 => k tys ad ws H locs ls9 h1 h2 h39 a_okS_nil h5 h6 hK hP hD hS (a_lv_le hl9 hsub))
    · exact lv_astore_n hx hb d1 hi hl (by rw [hml]; exact hn) rfl (fun ls9 hl9 => k tys ad ws H locs ls9 h1 h2 h39 a_okS_nil h5 h6 hK hP hD hS (a_lv_le hl9 hsub))
end AWEND
