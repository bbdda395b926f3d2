/-! THE LAW'S OWN BODY: the script's cell stands in local 0, outside the store -/
def YW (sb : Nat) (X : aX) (cells slots pc : Nat) (L : List (Option Value)) (st : List Value) (T : List aT) (I : aI) (J : aJ) (R : aR) : Prop := match X with
  | (p, l, e, Rm, s, m, args, below, meth, c, Q, A, D, ad0, T0) =>
    ∀ (tys : List (ClassId × FieldType)) (ad : Nat → Nat) (ws : va_W) (H : Heap) (locs : List Loc) (ls : Array Slot), a_rel T I J R tys ad ws → a_ok T.length I J R → a_okL T.length L → a_okS T.length st → T0 <+: T → (∀ i, i < T0.length → ad i = ad0 i) →
      va_K D vwCl tys s → va_P D vwCl ws H → va_D A ws → va_S A s.heap H locs → lv_has ls c.maxLocals ((0, Value.ref sb) :: a_lv ad L) → W p l e Rm s m args below meth c H locs cells slots Q (F0 m pc ls (st.map (a_cv ad)))
def YC (y : MethodName) (cc : ByteArray) (nL fr lo kc ks sb N : Nat) (xs : Nat → Int32) (X : aX) : Prop := match X with
  | (p, l, e, Rm, s, m, args, below, meth, c, Q, A, D, ad0, T0) =>
    (p.tables.exec = Jvm.exec ∧ c.code = cc ∧ c.maxLocals = nL ∧ s.vm.findClass y.cls = some m.cls ∧ ∀ w ∈ a_G, w.before args s = true) ∧ l.stackTraces = false ∧
    Rm.frames = fr ∧ Rm.locals = lo ∧ Rm.cells = kc ∧ Rm.slots = ks ∧ (∀ q, s.heap.size ≤ q → A q) ∧ a_N s ∧ aZ A s ∧ (va_X sb N xs s s.heap ∧ sb < s.heap.size ∧ ¬ A sb)
theorem lx_tl {ls : Array Slot} {nL sb : Nat} {l : List (Nat × Value)} (h : lv_has ls nL ((0, Value.ref sb) :: l)) : lv_has ls nL l := a_lv_le h (fun _ hq => List.mem_cons_of_mem _ hq)
theorem lx_set {ad : Nat → Nat} {L : List (Option Value)} {i sb : Nat} {v : Value} (hi : 0 < i) : ∀ q ∈ (0, Value.ref sb) :: a_lv ad (a_set L i v), q ∈ (i, a_cv ad v) :: ((0, Value.ref sb) :: a_lv ad L).filter (fun q => !(q.1 == i) && !(q.1 + 1 == i && q.2.category == 2)) := by
  intro q hq
  rcases List.mem_cons.mp hq with rfl | hq
  · refine List.mem_cons_of_mem _ (List.mem_filter.mpr ⟨List.mem_cons_self, ?_⟩)
    have e1 : (0 == i) = false := by simpa using fun z : 0 = i => absurd z (by omega)
    have e2 : ((Value.ref sb).category == 2) = false := rfl
    show (!(0 == i) && !(0 + 1 == i && (Value.ref sb).category == 2)) = true
    rw [e1, e2, Bool.and_false]; rfl
  · rcases List.mem_cons.mp (a_lv_set q hq) with h | h
    · rw [h]; exact List.mem_cons_self
    · obtain ⟨h1, h2⟩ := List.mem_filter.mp h
      exact List.mem_cons_of_mem _ (List.mem_filter.mpr ⟨List.mem_cons_of_mem _ h1, h2⟩)
theorem lx_eq {ad ad' : Nat → Nat} {n sb : Nat} {L : List (Option Value)} (h : ∀ i, i < n → ad' i = ad i) (hv : a_okL n L) : ∀ q ∈ (0, Value.ref sb) :: a_lv ad' L, q ∈ (0, Value.ref sb) :: a_lv ad L := by
  intro q hq
  rcases List.mem_cons.mp hq with rfl | hq
  · exact List.mem_cons_self
  · exact List.mem_cons_of_mem _ (a_lv_eq h hv q hq)
section LWROWS
variable {y : MethodName} {cc : ByteArray} {nL fr lo kc ks sb N : Nat} {xs : Nat → Int32} {X : aX} {cells slots pc : Nat} {L : List (Option Value)} {st : List Value} {T : List aT} {I : aI} {J : aJ} {R : aR}
theorem lx_forget (i : Nat) {L2 : List (Option Value)} (hL : L.set i none = L2) (k : YW sb X cells slots pc L2 st T I J R) : YW sb X cells slots pc L st T I J R := by
  subst hL
  obtain ⟨p, l, e, Rm, s, m, args, below, meth, c, Q, A, D, ad0, T0⟩ := X
  intro tys ad ws H locs ls h1 h2 h3 h4 h5 h6 hK hP hD hS hl
  refine k tys ad ws H locs ls h1 h2 (fun v hv => ?_) h4 h5 h6 hK hP hD hS (a_lv_le hl (fun q hq => ?_))
  · rcases List.mem_or_eq_of_mem_set hv with h | h
    · exact h3 v h
    · cases h
  · rcases List.mem_cons.mp hq with rfl | hq
    · exact List.mem_cons_self
    · refine List.mem_cons_of_mem _ ?_
      obtain ⟨v, g1, g2⟩ := a_lv_mem.mp hq
      refine a_lv_mem.mpr ⟨v, ?_, g2⟩
      rw [List.getElem?_set] at g1
      split at g1
      · split at g1 <;> simp at g1
      · exact g1
theorem lx_slen {v : Int32} (hC : YC y cc nL fr lo kc ks sb N xs X) (hd0 : decode cc pc = .ok (.aload_n 0, 1)) (hd1 : decode cc (pc + 1) = .ok (.arraylength, 1)) (hv : Int32.ofNat N = v) (k : YW sb X cells slots (pc + 2) L (.int v :: st) T I J R) : YW sb X cells slots pc L st T I J R := by
  subst hv
  obtain ⟨p, l, e, Rm, s, m, args, below, meth, c, Q, A, D, ad0, T0⟩ := X
  obtain ⟨⟨hx, hb, hml, hown, hts⟩, hl9, hf1, hf2, hf3, hf4, hA, hN, hZ, hX, hsb, hnA⟩ := hC
  intro tys ad ws H locs ls h1 h2 h3 h4 h5 h6 hK hP hD hS hl
  refine lv_aload_n hx hb hd0 rfl (hl.2.2 (0, Value.ref sb) List.mem_cons_self) ?_
  exact va_slen hx hb hX hsb hnA hS hd1 (k tys ad ws H locs ls h1 h2 h3 (a_okS_cons a_okv_int h4) h5 h6 hK hP hD hS hl)
theorem lx_iconst {n : Int} {v : Int32} (hC : YC y cc nL fr lo kc ks sb N xs X) (hd : decode cc pc = .ok (.iconst n, 1)) (hv : Int32.ofInt n = v) (k : YW sb X cells slots (pc + 1) L (.int v :: st) T I J R) : YW sb X cells slots pc L st T I J R := by
  obtain ⟨p, l, e, Rm, s, m, args, below, meth, c, Q, A, D, ad0, T0⟩ := X
  obtain ⟨⟨hx, hb, hml, hown, hts⟩, hl9, hf1, hf2, hf3, hf4, hA, hN, hZ, hScr⟩ := hC
  intro tys ad ws H locs ls h1 h2 h3 h4 h5 h6 hK hP hD hS hl
  exact lv_iconst hx hb hd hv (k tys ad ws H locs ls h1 h2 h3 (a_okS_cons a_okv_int h4) h5 h6 hK hP hD hS hl)
theorem lx_bipush {n : Int} {v : Int32} (hC : YC y cc nL fr lo kc ks sb N xs X) (hd : decode cc pc = .ok (.bipush n, 2)) (hv : (Int8.ofInt n).toInt32 = v) (k : YW sb X cells slots (pc + 2) L (.int v :: st) T I J R) : YW sb X cells slots pc L st T I J R := by
  obtain ⟨p, l, e, Rm, s, m, args, below, meth, c, Q, A, D, ad0, T0⟩ := X
  obtain ⟨⟨hx, hb, hml, hown, hts⟩, hl9, hf1, hf2, hf3, hf4, hA, hN, hZ, hScr⟩ := hC
  intro tys ad ws H locs ls h1 h2 h3 h4 h5 h6 hK hP hD hS hl
  exact lv_bipush hx hb hd hv (k tys ad ws H locs ls h1 h2 h3 (a_okS_cons a_okv_int h4) h5 h6 hK hP hD hS hl)
theorem lx_sipush {n : Int} {v : Int32} (hC : YC y cc nL fr lo kc ks sb N xs X) (hd : decode cc pc = .ok (.sipush n, 3)) (hv : (Int16.ofInt n).toInt32 = v) (k : YW sb X cells slots (pc + 3) L (.int v :: st) T I J R) : YW sb X cells slots pc L st T I J R := by
  obtain ⟨p, l, e, Rm, s, m, args, below, meth, c, Q, A, D, ad0, T0⟩ := X
  obtain ⟨⟨hx, hb, hml, hown, hts⟩, hl9, hf1, hf2, hf3, hf4, hA, hN, hZ, hScr⟩ := hC
  intro tys ad ws H locs ls h1 h2 h3 h4 h5 h6 hK hP hD hS hl
  exact lv_sipush hx hb hd hv (k tys ad ws H locs ls h1 h2 h3 (a_okS_cons a_okv_int h4) h5 h6 hK hP hD hS hl)
theorem lx_iload_n {k0 : Fin 4} {x : Int32} (hC : YC y cc nL fr lo kc ks sb N xs X) (hd : decode cc pc = .ok (.iload_n k0, 1)) (hL : L[(k0 : Nat)]? = some (some (.int x))) (k : YW sb X cells slots (pc + 1) L (.int x :: st) T I J R) : YW sb X cells slots pc L st T I J R := by
  obtain ⟨p, l, e, Rm, s, m, args, below, meth, c, Q, A, D, ad0, T0⟩ := X
  obtain ⟨⟨hx, hb, hml, hown, hts⟩, hl9, hf1, hf2, hf3, hf4, hA, hN, hZ, hScr⟩ := hC
  intro tys ad ws H locs ls h1 h2 h3 h4 h5 h6 hK hP hD hS hl
  exact lv_iload_n hx hb hd rfl (a_lvat (lx_tl hl) hL) (k tys ad ws H locs ls h1 h2 h3 (a_okS_cons a_okv_int h4) h5 h6 hK hP hD hS hl)
theorem lx_iload {i : Nat} {x : Int32} (hC : YC y cc nL fr lo kc ks sb N xs X) (hd : decode cc pc = .ok (.iload i, 2)) (hL : L[i]? = some (some (.int x))) (k : YW sb X cells slots (pc + 2) L (.int x :: st) T I J R) : YW sb X cells slots pc L st T I J R := by
  obtain ⟨p, l, e, Rm, s, m, args, below, meth, c, Q, A, D, ad0, T0⟩ := X
  obtain ⟨⟨hx, hb, hml, hown, hts⟩, hl9, hf1, hf2, hf3, hf4, hA, hN, hZ, hScr⟩ := hC
  intro tys ad ws H locs ls h1 h2 h3 h4 h5 h6 hK hP hD hS hl
  exact lv_iload hx hb hd (a_lvat (lx_tl hl) hL) (k tys ad ws H locs ls h1 h2 h3 (a_okS_cons a_okv_int h4) h5 h6 hK hP hD hS hl)
theorem lx_aload_n {k0 : Fin 4} {x : Nat} (hC : YC y cc nL fr lo kc ks sb N xs X) (hd : decode cc pc = .ok (.aload_n k0, 1)) (hL : L[(k0 : Nat)]? = some (some (.ref x))) (k : YW sb X cells slots (pc + 1) L (.ref x :: st) T I J R) : YW sb X cells slots pc L st T I J R := by
  obtain ⟨p, l, e, Rm, s, m, args, below, meth, c, Q, A, D, ad0, T0⟩ := X
  obtain ⟨⟨hx, hb, hml, hown, hts⟩, hl9, hf1, hf2, hf3, hf4, hA, hN, hZ, hScr⟩ := hC
  intro tys ad ws H locs ls h1 h2 h3 h4 h5 h6 hK hP hD hS hl
  exact lv_aload_n hx hb hd rfl (a_lvat (lx_tl hl) hL) (k tys ad ws H locs ls h1 h2 h3 (a_okS_cons (a_okL_at h3 hL) h4) h5 h6 hK hP hD hS hl)
theorem lx_istore {i : Nat} {x : Int32} {L2 : List (Option Value)} (hC : YC y cc nL fr lo kc ks sb N xs X) (hd : decode cc pc = .ok (.istore i, 2)) (hn : i < nL) (h0i : 0 < i) (hL : a_set L i (.int x) = L2) (k : YW sb X cells slots (pc + 2) L2 st T I J R) : YW sb X cells slots pc L ((.int x) :: st) T I J R := by
  obtain ⟨p, l, e, Rm, s, m, args, below, meth, c, Q, A, D, ad0, T0⟩ := X
  obtain ⟨⟨hx, hb, hml, hown, hts⟩, hl9, hf1, hf2, hf3, hf4, hA, hN, hZ, hScr⟩ := hC
  intro tys ad ws H locs ls h1 h2 h3 h4 h5 h6 hK hP hD hS hl
  subst hL
  exact lv_istore hx hb hd hl (by rw [hml]; exact hn) rfl (fun ls9 hl9 => k tys ad ws H locs ls9 h1 h2 (a_okL_set h3 (a_okS_hd h4)) (a_okS_tl h4) h5 h6 hK hP hD hS (a_lv_le hl9 (lx_set h0i)))
theorem lx_istore_n {k0 : Fin 4} {i : Nat} {x : Int32} {L2 : List (Option Value)} (hC : YC y cc nL fr lo kc ks sb N xs X) (hd : decode cc pc = .ok (.istore_n k0, 1)) (hi : (k0 : Nat) = i) (hn : i < nL) (h0i : 0 < i) (hL : a_set L i (.int x) = L2) (k : YW sb X cells slots (pc + 1) L2 st T I J R) : YW sb X cells slots pc L ((.int x) :: st) T I J R := by
  obtain ⟨p, l, e, Rm, s, m, args, below, meth, c, Q, A, D, ad0, T0⟩ := X
  obtain ⟨⟨hx, hb, hml, hown, hts⟩, hl9, hf1, hf2, hf3, hf4, hA, hN, hZ, hScr⟩ := hC
  intro tys ad ws H locs ls h1 h2 h3 h4 h5 h6 hK hP hD hS hl
  subst hL
  exact lv_istore_n hx hb hd hi hl (by rw [hml]; exact hn) rfl (fun ls9 hl9 => k tys ad ws H locs ls9 h1 h2 (a_okL_set h3 (a_okS_hd h4)) (a_okS_tl h4) h5 h6 hK hP hD hS (a_lv_le hl9 (lx_set h0i)))
theorem lx_astore_n {k0 : Fin 4} {i : Nat} {x : Nat} {L2 : List (Option Value)} (hC : YC y cc nL fr lo kc ks sb N xs X) (hd : decode cc pc = .ok (.astore_n k0, 1)) (hi : (k0 : Nat) = i) (hn : i < nL) (h0i : 0 < i) (hL : a_set L i (.ref x) = L2) (k : YW sb X cells slots (pc + 1) L2 st T I J R) : YW sb X cells slots pc L ((.ref x) :: st) T I J R := by
  obtain ⟨p, l, e, Rm, s, m, args, below, meth, c, Q, A, D, ad0, T0⟩ := X
  obtain ⟨⟨hx, hb, hml, hown, hts⟩, hl9, hf1, hf2, hf3, hf4, hA, hN, hZ, hScr⟩ := hC
  intro tys ad ws H locs ls h1 h2 h3 h4 h5 h6 hK hP hD hS hl
  subst hL
  exact lv_astore_n hx hb hd hi hl (by rw [hml]; exact hn) rfl (fun ls9 hl9 => k tys ad ws H locs ls9 h1 h2 (a_okL_set h3 (a_okS_hd h4)) (a_okS_tl h4) h5 h6 hK hP hD hS (a_lv_le hl9 (lx_set h0i)))
theorem lx_iinc {i : Nat} {n : Int} {x v : Int32} {L2 : List (Option Value)} (hC : YC y cc nL fr lo kc ks sb N xs X) (hd : decode cc pc = .ok (.iinc i n, 3)) (hx0 : L[i]? = some (some (.int x))) (hv : x + Int32.ofInt n = v) (hn : i < nL) (h0i : 0 < i) (hL : a_set L i (.int v) = L2) (k : YW sb X cells slots (pc + 3) L2 st T I J R) : YW sb X cells slots pc L st T I J R := by
  obtain ⟨p, l, e, Rm, s, m, args, below, meth, c, Q, A, D, ad0, T0⟩ := X
  obtain ⟨⟨hx, hb, hml, hown, hts⟩, hl9, hf1, hf2, hf3, hf4, hA, hN, hZ, hScr⟩ := hC
  intro tys ad ws H locs ls h1 h2 h3 h4 h5 h6 hK hP hD hS hl
  subst hL
  obtain ⟨k9, hk9⟩ := List.getElem?_of_mem (List.mem_cons_of_mem (0, Value.ref sb) (a_lv_mem.mpr ⟨_, hx0, rfl⟩ : (i, a_cv ad (.int x)) ∈ a_lv ad L))
  exact lv_iinc hx hb hd hl (k := k9) hk9 hv (by rw [hml]; exact hn) rfl (fun ls9 hl9 => k tys ad ws H locs ls9 h1 h2 (a_okL_set h3 a_okv_int) h4 h5 h6 hK hP hD hS (a_lv_le hl9 (lx_set h0i)))
theorem lx_isub {x z : Int32} (hC : YC y cc nL fr lo kc ks sb N xs X) (hd : decode cc pc = .ok (.isub, 1)) (k : YW sb X cells slots (pc + 1) L (.int (x - z) :: st) T I J R) : YW sb X cells slots pc L (.int z :: .int x :: st) T I J R := by
  obtain ⟨p, l, e, Rm, s, m, args, below, meth, c, Q, A, D, ad0, T0⟩ := X
  obtain ⟨⟨hx, hb, hml, hown, hts⟩, hl9, hf1, hf2, hf3, hf4, hA, hN, hZ, hScr⟩ := hC
  intro tys ad ws H locs ls h1 h2 h3 h4 h5 h6 hK hP hD hS hl
  exact lv_isub hx hb hd (k tys ad ws H locs ls h1 h2 h3 (a_okS_cons a_okv_int (a_okS_tl (a_okS_tl h4))) h5 h6 hK hP hD hS hl)
theorem lx_iadd {x z : Int32} (hC : YC y cc nL fr lo kc ks sb N xs X) (hd : decode cc pc = .ok (.iadd, 1)) (k : YW sb X cells slots (pc + 1) L (.int (x + z) :: st) T I J R) : YW sb X cells slots pc L (.int z :: .int x :: st) T I J R := by
  obtain ⟨p, l, e, Rm, s, m, args, below, meth, c, Q, A, D, ad0, T0⟩ := X
  obtain ⟨⟨hx, hb, hml, hown, hts⟩, hl9, hf1, hf2, hf3, hf4, hA, hN, hZ, hScr⟩ := hC
  intro tys ad ws H locs ls h1 h2 h3 h4 h5 h6 hK hP hD hS hl
  exact lv_iadd hx hb hd (k tys ad ws H locs ls h1 h2 h3 (a_okS_cons a_okv_int (a_okS_tl (a_okS_tl h4))) h5 h6 hK hP hD hS hl)
theorem lx_imul {x z : Int32} (hC : YC y cc nL fr lo kc ks sb N xs X) (hd : decode cc pc = .ok (.imul, 1)) (k : YW sb X cells slots (pc + 1) L (.int (x * z) :: st) T I J R) : YW sb X cells slots pc L (.int z :: .int x :: st) T I J R := by
  obtain ⟨p, l, e, Rm, s, m, args, below, meth, c, Q, A, D, ad0, T0⟩ := X
  obtain ⟨⟨hx, hb, hml, hown, hts⟩, hl9, hf1, hf2, hf3, hf4, hA, hN, hZ, hScr⟩ := hC
  intro tys ad ws H locs ls h1 h2 h3 h4 h5 h6 hK hP hD hS hl
  exact lv_imul hx hb hd (k tys ad ws H locs ls h1 h2 h3 (a_okS_cons a_okv_int (a_okS_tl (a_okS_tl h4))) h5 h6 hK hP hD hS hl)
theorem lx_irem {x z : Int32} (hC : YC y cc nL fr lo kc ks sb N xs X) (hd : decode cc pc = .ok (.irem, 1)) (hz : ¬ z = 0) (k : YW sb X cells slots (pc + 1) L (.int (x - x / z * z) :: st) T I J R) : YW sb X cells slots pc L (.int z :: .int x :: st) T I J R := by
  obtain ⟨p, l, e, Rm, s, m, args, below, meth, c, Q, A, D, ad0, T0⟩ := X
  obtain ⟨⟨hx, hb, hml, hown, hts⟩, hl9, hf1, hf2, hf3, hf4, hA, hN, hZ, hScr⟩ := hC
  intro tys ad ws H locs ls h1 h2 h3 h4 h5 h6 hK hP hD hS hl
  exact lv_irem hx hb hd hz (k tys ad ws H locs ls h1 h2 h3 (a_okS_cons a_okv_int (a_okS_tl (a_okS_tl h4))) h5 h6 hK hP hD hS hl)
theorem lx_idiv {x z : Int32} (hC : YC y cc nL fr lo kc ks sb N xs X) (hd : decode cc pc = .ok (.idiv, 1)) (hz : ¬ z = 0) (k : YW sb X cells slots (pc + 1) L (.int (x / z) :: st) T I J R) : YW sb X cells slots pc L (.int z :: .int x :: st) T I J R := by
  obtain ⟨p, l, e, Rm, s, m, args, below, meth, c, Q, A, D, ad0, T0⟩ := X
  obtain ⟨⟨hx, hb, hml, hown, hts⟩, hl9, hf1, hf2, hf3, hf4, hA, hN, hZ, hScr⟩ := hC
  intro tys ad ws H locs ls h1 h2 h3 h4 h5 h6 hK hP hD hS hl
  exact lv_idiv hx hb hd hz (k tys ad ws H locs ls h1 h2 h3 (a_okS_cons a_okv_int (a_okS_tl (a_okS_tl h4))) h5 h6 hK hP hD hS hl)
theorem lx_iushr {x z : Int32} (hC : YC y cc nL fr lo kc ks sb N xs X) (hd : decode cc pc = .ok (.iushr, 1)) (k : YW sb X cells slots (pc + 1) L (.int ((x.toUInt32 >>> (z.toUInt32 &&& Int32.toUInt32 31)).toInt32) :: st) T I J R) : YW sb X cells slots pc L (.int z :: .int x :: st) T I J R := by
  obtain ⟨p, l, e, Rm, s, m, args, below, meth, c, Q, A, D, ad0, T0⟩ := X
  obtain ⟨⟨hx, hb, hml, hown, hts⟩, hl9, hf1, hf2, hf3, hf4, hA, hN, hZ, hScr⟩ := hC
  intro tys ad ws H locs ls h1 h2 h3 h4 h5 h6 hK hP hD hS hl
  exact lv_iushr hx hb hd rfl (k tys ad ws H locs ls h1 h2 h3 (a_okS_cons a_okv_int (a_okS_tl (a_okS_tl h4))) h5 h6 hK hP hD hS hl)
theorem lx_dup {v : Value} (hC : YC y cc nL fr lo kc ks sb N xs X) (hd : decode cc pc = .ok (.dup, 1)) (hv : v.category = 1) (k : YW sb X cells slots (pc + 1) L (v :: v :: st) T I J R) : YW sb X cells slots pc L (v :: st) T I J R := by
  obtain ⟨p, l, e, Rm, s, m, args, below, meth, c, Q, A, D, ad0, T0⟩ := X
  obtain ⟨⟨hx, hb, hml, hown, hts⟩, hl9, hf1, hf2, hf3, hf4, hA, hN, hZ, hScr⟩ := hC
  intro tys ad ws H locs ls h1 h2 h3 h4 h5 h6 hK hP hD hS hl
  exact lv_dup hx hb hd (by rw [a_cat]; exact hv) (k tys ad ws H locs ls h1 h2 h3 (a_okS_cons (a_okS_hd h4) h4) h5 h6 hK hP hD hS hl)
theorem lx_if_eq (hC : YC y cc nL fr lo kc ks sb N xs X) {x : Int32} {off : Int} (hd : decode cc pc = .ok (.ifCond .eq off, 3)) {tgt : Nat} (ht : (pc : Int) + off = (tgt : Int)) (kt : x = 0 → YW sb X cells slots tgt L st T I J R) (kf : ¬ x = 0 → YW sb X cells slots (pc + 3) L st T I J R) : YW sb X cells slots pc L (.int x :: st) T I J R := by
  obtain ⟨p, l, e, Rm, s, m, args, below, meth, c, Q, A, D, ad0, T0⟩ := X
  obtain ⟨⟨hx, hb, hml, hown, hts⟩, hl9, hf1, hf2, hf3, hf4, hA, hN, hZ, hScr⟩ := hC
  intro tys ad ws H locs ls h1 h2 h3 h4 h5 h6 hK hP hD hS hl
  exact lv_if_eq hx hb hd ht (fun q => kt q tys ad ws H locs ls h1 h2 h3 (a_okS_tl h4) h5 h6 hK hP hD hS hl) (fun q => kf q tys ad ws H locs ls h1 h2 h3 (a_okS_tl h4) h5 h6 hK hP hD hS hl)
theorem lx_if_ne (hC : YC y cc nL fr lo kc ks sb N xs X) {x : Int32} {off : Int} (hd : decode cc pc = .ok (.ifCond .ne off, 3)) {tgt : Nat} (ht : (pc : Int) + off = (tgt : Int)) (kt : (¬ x = 0) → YW sb X cells slots tgt L st T I J R) (kf : x = 0 → YW sb X cells slots (pc + 3) L st T I J R) : YW sb X cells slots pc L (.int x :: st) T I J R := by
  obtain ⟨p, l, e, Rm, s, m, args, below, meth, c, Q, A, D, ad0, T0⟩ := X
  obtain ⟨⟨hx, hb, hml, hown, hts⟩, hl9, hf1, hf2, hf3, hf4, hA, hN, hZ, hScr⟩ := hC
  intro tys ad ws H locs ls h1 h2 h3 h4 h5 h6 hK hP hD hS hl
  exact lv_if_ne hx hb hd ht (fun q => kt q tys ad ws H locs ls h1 h2 h3 (a_okS_tl h4) h5 h6 hK hP hD hS hl) (fun q => kf q tys ad ws H locs ls h1 h2 h3 (a_okS_tl h4) h5 h6 hK hP hD hS hl)
theorem lx_if_lt (hC : YC y cc nL fr lo kc ks sb N xs X) {x : Int32} {off : Int} (hd : decode cc pc = .ok (.ifCond .lt off, 3)) {tgt : Nat} (ht : (pc : Int) + off = (tgt : Int)) (kt : x < 0 → YW sb X cells slots tgt L st T I J R) (kf : ¬ x < 0 → YW sb X cells slots (pc + 3) L st T I J R) : YW sb X cells slots pc L (.int x :: st) T I J R := by
  obtain ⟨p, l, e, Rm, s, m, args, below, meth, c, Q, A, D, ad0, T0⟩ := X
  obtain ⟨⟨hx, hb, hml, hown, hts⟩, hl9, hf1, hf2, hf3, hf4, hA, hN, hZ, hScr⟩ := hC
  intro tys ad ws H locs ls h1 h2 h3 h4 h5 h6 hK hP hD hS hl
  exact lv_if_lt hx hb hd ht (fun q => kt q tys ad ws H locs ls h1 h2 h3 (a_okS_tl h4) h5 h6 hK hP hD hS hl) (fun q => kf q tys ad ws H locs ls h1 h2 h3 (a_okS_tl h4) h5 h6 hK hP hD hS hl)
theorem lx_if_ge (hC : YC y cc nL fr lo kc ks sb N xs X) {x : Int32} {off : Int} (hd : decode cc pc = .ok (.ifCond .ge off, 3)) {tgt : Nat} (ht : (pc : Int) + off = (tgt : Int)) (kt : 0 ≤ x → YW sb X cells slots tgt L st T I J R) (kf : ¬ 0 ≤ x → YW sb X cells slots (pc + 3) L st T I J R) : YW sb X cells slots pc L (.int x :: st) T I J R := by
  obtain ⟨p, l, e, Rm, s, m, args, below, meth, c, Q, A, D, ad0, T0⟩ := X
  obtain ⟨⟨hx, hb, hml, hown, hts⟩, hl9, hf1, hf2, hf3, hf4, hA, hN, hZ, hScr⟩ := hC
  intro tys ad ws H locs ls h1 h2 h3 h4 h5 h6 hK hP hD hS hl
  exact lv_if_ge hx hb hd ht (fun q => kt q tys ad ws H locs ls h1 h2 h3 (a_okS_tl h4) h5 h6 hK hP hD hS hl) (fun q => kf q tys ad ws H locs ls h1 h2 h3 (a_okS_tl h4) h5 h6 hK hP hD hS hl)
theorem lx_if_le (hC : YC y cc nL fr lo kc ks sb N xs X) {x : Int32} {off : Int} (hd : decode cc pc = .ok (.ifCond .le off, 3)) {tgt : Nat} (ht : (pc : Int) + off = (tgt : Int)) (kt : x ≤ 0 → YW sb X cells slots tgt L st T I J R) (kf : ¬ x ≤ 0 → YW sb X cells slots (pc + 3) L st T I J R) : YW sb X cells slots pc L (.int x :: st) T I J R := by
  obtain ⟨p, l, e, Rm, s, m, args, below, meth, c, Q, A, D, ad0, T0⟩ := X
  obtain ⟨⟨hx, hb, hml, hown, hts⟩, hl9, hf1, hf2, hf3, hf4, hA, hN, hZ, hScr⟩ := hC
  intro tys ad ws H locs ls h1 h2 h3 h4 h5 h6 hK hP hD hS hl
  exact lv_if_le hx hb hd ht (fun q => kt q tys ad ws H locs ls h1 h2 h3 (a_okS_tl h4) h5 h6 hK hP hD hS hl) (fun q => kf q tys ad ws H locs ls h1 h2 h3 (a_okS_tl h4) h5 h6 hK hP hD hS hl)
theorem lx_icmp_eq (hC : YC y cc nL fr lo kc ks sb N xs X) {x z : Int32} {off : Int} (hd : decode cc pc = .ok (.if_icmp .eq off, 3)) {tgt : Nat} (ht : (pc : Int) + off = (tgt : Int)) (kt : x = z → YW sb X cells slots tgt L st T I J R) (kf : ¬ x = z → YW sb X cells slots (pc + 3) L st T I J R) : YW sb X cells slots pc L (.int z :: .int x :: st) T I J R := by
  obtain ⟨p, l, e, Rm, s, m, args, below, meth, c, Q, A, D, ad0, T0⟩ := X
  obtain ⟨⟨hx, hb, hml, hown, hts⟩, hl9, hf1, hf2, hf3, hf4, hA, hN, hZ, hScr⟩ := hC
  intro tys ad ws H locs ls h1 h2 h3 h4 h5 h6 hK hP hD hS hl
  exact lv_icmp_eq hx hb hd ht (fun q => kt q tys ad ws H locs ls h1 h2 h3 (a_okS_tl (a_okS_tl h4)) h5 h6 hK hP hD hS hl) (fun q => kf q tys ad ws H locs ls h1 h2 h3 (a_okS_tl (a_okS_tl h4)) h5 h6 hK hP hD hS hl)
theorem lx_icmp_ne (hC : YC y cc nL fr lo kc ks sb N xs X) {x z : Int32} {off : Int} (hd : decode cc pc = .ok (.if_icmp .ne off, 3)) {tgt : Nat} (ht : (pc : Int) + off = (tgt : Int)) (kt : (¬ x = z) → YW sb X cells slots tgt L st T I J R) (kf : x = z → YW sb X cells slots (pc + 3) L st T I J R) : YW sb X cells slots pc L (.int z :: .int x :: st) T I J R := by
  obtain ⟨p, l, e, Rm, s, m, args, below, meth, c, Q, A, D, ad0, T0⟩ := X
  obtain ⟨⟨hx, hb, hml, hown, hts⟩, hl9, hf1, hf2, hf3, hf4, hA, hN, hZ, hScr⟩ := hC
  intro tys ad ws H locs ls h1 h2 h3 h4 h5 h6 hK hP hD hS hl
  exact lv_icmp_ne hx hb hd ht (fun q => kt q tys ad ws H locs ls h1 h2 h3 (a_okS_tl (a_okS_tl h4)) h5 h6 hK hP hD hS hl) (fun q => kf q tys ad ws H locs ls h1 h2 h3 (a_okS_tl (a_okS_tl h4)) h5 h6 hK hP hD hS hl)
theorem lx_icmp_ge (hC : YC y cc nL fr lo kc ks sb N xs X) {x z : Int32} {off : Int} (hd : decode cc pc = .ok (.if_icmp .ge off, 3)) {tgt : Nat} (ht : (pc : Int) + off = (tgt : Int)) (kt : z ≤ x → YW sb X cells slots tgt L st T I J R) (kf : ¬ z ≤ x → YW sb X cells slots (pc + 3) L st T I J R) : YW sb X cells slots pc L (.int z :: .int x :: st) T I J R := by
  obtain ⟨p, l, e, Rm, s, m, args, below, meth, c, Q, A, D, ad0, T0⟩ := X
  obtain ⟨⟨hx, hb, hml, hown, hts⟩, hl9, hf1, hf2, hf3, hf4, hA, hN, hZ, hScr⟩ := hC
  intro tys ad ws H locs ls h1 h2 h3 h4 h5 h6 hK hP hD hS hl
  exact lv_icmp_ge hx hb hd ht (fun q => kt q tys ad ws H locs ls h1 h2 h3 (a_okS_tl (a_okS_tl h4)) h5 h6 hK hP hD hS hl) (fun q => kf q tys ad ws H locs ls h1 h2 h3 (a_okS_tl (a_okS_tl h4)) h5 h6 hK hP hD hS hl)
theorem lx_icmp_le (hC : YC y cc nL fr lo kc ks sb N xs X) {x z : Int32} {off : Int} (hd : decode cc pc = .ok (.if_icmp .le off, 3)) {tgt : Nat} (ht : (pc : Int) + off = (tgt : Int)) (kt : x ≤ z → YW sb X cells slots tgt L st T I J R) (kf : ¬ x ≤ z → YW sb X cells slots (pc + 3) L st T I J R) : YW sb X cells slots pc L (.int z :: .int x :: st) T I J R := by
  obtain ⟨p, l, e, Rm, s, m, args, below, meth, c, Q, A, D, ad0, T0⟩ := X
  obtain ⟨⟨hx, hb, hml, hown, hts⟩, hl9, hf1, hf2, hf3, hf4, hA, hN, hZ, hScr⟩ := hC
  intro tys ad ws H locs ls h1 h2 h3 h4 h5 h6 hK hP hD hS hl
  exact lv_icmp_le hx hb hd ht (fun q => kt q tys ad ws H locs ls h1 h2 h3 (a_okS_tl (a_okS_tl h4)) h5 h6 hK hP hD hS hl) (fun q => kf q tys ad ws H locs ls h1 h2 h3 (a_okS_tl (a_okS_tl h4)) h5 h6 hK hP hD hS hl)
theorem lx_icmp_lt (hC : YC y cc nL fr lo kc ks sb N xs X) {x z : Int32} {off : Int} (hd : decode cc pc = .ok (.if_icmp .lt off, 3)) {tgt : Nat} (ht : (pc : Int) + off = (tgt : Int)) (kt : x < z → YW sb X cells slots tgt L st T I J R) (kf : ¬ x < z → YW sb X cells slots (pc + 3) L st T I J R) : YW sb X cells slots pc L (.int z :: .int x :: st) T I J R := by
  obtain ⟨p, l, e, Rm, s, m, args, below, meth, c, Q, A, D, ad0, T0⟩ := X
  obtain ⟨⟨hx, hb, hml, hown, hts⟩, hl9, hf1, hf2, hf3, hf4, hA, hN, hZ, hScr⟩ := hC
  intro tys ad ws H locs ls h1 h2 h3 h4 h5 h6 hK hP hD hS hl
  exact lv_icmp_lt hx hb hd ht (fun q => kt q tys ad ws H locs ls h1 h2 h3 (a_okS_tl (a_okS_tl h4)) h5 h6 hK hP hD hS hl) (fun q => kf q tys ad ws H locs ls h1 h2 h3 (a_okS_tl (a_okS_tl h4)) h5 h6 hK hP hD hS hl)
theorem lx_goto {off : Int} {tgt : Nat} (hC : YC y cc nL fr lo kc ks sb N xs X) (hd : decode cc pc = .ok (.goto off, 3)) (ht : (pc : Int) + off = (tgt : Int)) (k : YW sb X cells slots tgt L st T I J R) : YW sb X cells slots pc L st T I J R := by
  obtain ⟨p, l, e, Rm, s, m, args, below, meth, c, Q, A, D, ad0, T0⟩ := X
  obtain ⟨⟨hx, hb, hml, hown, hts⟩, hl9, hf1, hf2, hf3, hf4, hA, hN, hZ, hScr⟩ := hC
  intro tys ad ws H locs ls h1 h2 h3 h4 h5 h6 hK hP hD hS hl
  exact lv_goto hx hb hd ht (k tys ad ws H locs ls h1 h2 h3 h4 h5 h6 hK hP hD hS hl)
theorem lx_new (hC : YC y cc nL fr lo kc ks sb N xs X) {idx ci : Nat} {C : String} {Tb : u_T} (hd : decode cc pc = .ok (.new idx, 3)) (hcl : aClass ci C Tb) (w1 : Cond.classLink y.cls idx C ∈ a_G) (w2 : Cond.instantiable C (a_nf ci) ∈ a_G) (w3 : Cond.initialized C ∈ a_G) (hc : cells + 1 ≤ kc) (hs : slots + a_nf ci ≤ ks) (k : YW sb X (cells + 1) (slots + a_nf ci) (pc + 3) L (.ref T.length :: st) (T ++ [.inr ci]) I J R) : YW sb X cells slots pc L st T I J R := by
  obtain ⟨p, l, e, Rm, s, m, args, below, meth, c, Q, A, D, ad0, T0⟩ := X
  obtain ⟨⟨hx, hb, hml, hown, hts⟩, hl9, hf1, hf2, hf3, hf4, hA, hN, hZ, hScr⟩ := hC
  obtain ⟨g1, g2, g3, g4, g5, g6⟩ := hcl
  intro tys ad ws H locs ls h1 h2 h3 h4 h5 h6 hK hP hD hS hl
  have z := h2.2 T.length (Nat.le_refl _)
  refine va_new (fs := (List.range (a_nf ci)).map (fun k => a_fv (fun j => j) I J R T.length k (a_fty ci k))) hx hb hts g2 (a_fty ci) g3 hown (hts _ w1) (hts _ w2) (hts _ w3) hK hP hD hS hA g1 (fun j hj => ?_) (by rw [hf3]; exact hc) (by rw [hf4]; exact hs) hd (fun q H1 hP1 hD1 hS1 => ?_)
  · rw [vp_V, List.getD_eq_getElem?_getD, a_fs_get hj]
    exact a_dflt (g6 j hj) z.1 z.2.1 z.2.2
  have hK1 := hK
  have hok2 : a_ok (T ++ [(.inr ci : aT)]).length I J R := by rw [List.length_append]; exact a_ok_push h2
  have had : ∀ i, i < T.length → (fun j => if j = T.length then q else ad j) i = ad i := fun i hi => if_neg (by omega)
  have hle : T.length ≤ (T ++ [(.inr ci : aT)]).length := by simp
  have k9 := k _ (fun j => if j = T.length then q else ad j) _ H1 locs ls (a_rel_push h1 h2 (fun _ _ h9 => h9) (cA := 0) (fun ty n q9 => nomatch q9) (by
    show Sum.inr (ci, _) = Sum.inr (ci, _)
    congr 3
    funext j
    unfold a_fv
    simp only [z.1, z.2.1, z.2.2, Option.map_none])) hok2 (a_okL_le hle h3) (a_okS_cons (a_okv_ref (by simp)) (a_okS_le hle h4)) (h5.trans (List.prefix_append _ _)) (fun i hi => (had i (Nat.lt_of_lt_of_le hi h5.length_le)).trans (h6 i hi)) hK1 hP1 hD1 hS1 (a_lv_le hl (lx_eq had h3))
  rw [List.map_cons, a_cvS_le had h4] at k9
  have e9 : a_cv (fun j => if j = T.length then q else ad j) (.ref T.length) = .ref q := by simp [a_cv]
  rw [e9] at k9
  exact k9
theorem lx_callV (hC : YC y cc nL fr lo kc ks sb N xs X) {idx n : Nat} {y2 : MethodName} {cc2 : ByteArray} {nL2 : Nat} {ret2 : Option FieldType} {fr2 lo2 kc2 ks2 : Nat} {As : List Value} {P2 : aP} {stk : List Value} {o9 ci : Nat} {As9 : List Value} {Tb : u_T} {N9 : Nat} (hAs : As = .ref o9 :: As9) (hT9 : T[o9]? = some (.inr ci)) (hcl9 : vwCl[ci]? = some (y2.cls, Tb, N9)) (hM : AMet y2 cc2 nL2 ret2 fr2 lo2 kc2 ks2 [] As T I J R P2) (hd : decode cc pc = .ok (.invokevirtual idx, 3)) (w0 : a_wd y2 cc2 nL2 ret2 [] ∈ a_G) (w1 : Cond.methodLink y.cls idx y2 ∈ a_G) (w2 : Cond.instanceMethod y2 ∈ a_G) (w3 : Cond.selects y2.cls y2 y2 ∈ a_G) (w9 : Cond.initialized y2.cls ∈ a_G)
    (hdesc : y2.cls ≠ "java/lang/invoke/MethodHandle" ∧ y2.cls ≠ "java/lang/invoke/VarHandle" ∧ (parseMethodDescriptor y2.desc).map (fun d => d.parameters.length) = some n) (hn : As9.length = n) (hfr : fr2 + 1 ≤ fr) (hlo : 8 + (nL2 + 11) + lo2 ≤ lo) (hcat : (st.map fun v => v.category).sum ≤ 8) (hc : cells + kc2 ≤ kc) (hs : slots + ks2 ≤ ks) (hstk : stk = As9.reverse ++ .ref o9 :: st)
    (kx : ∀ (E : String) (T2 : List aT) (I2 : aI) (J2 : aJ) (R2 : aR), T <+: T2 → P2 (.inr E) T2 I2 J2 R2 → False)
    (k : ∀ (v : Option Value) (T2 : List aT) (I2 : aI) (J2 : aJ) (R2 : aR), T <+: T2 → P2 (.inl v) T2 I2 J2 R2 → YW sb X (cells + kc2) (slots + ks2) (pc + 3) L (v.toList ++ st) T2 I2 J2 R2) : YW sb X cells slots pc L stk T I J R := by
  subst hstk
  obtain ⟨p, l, e, Rm, s, m, args, below, meth, c, Q, A, D, ad0, T0⟩ := X
  obtain ⟨⟨hx, hb, hml, hown, hts⟩, hl9, hf1, hf2, hf3, hf4, hA, hN, hZ, hScr⟩ := hC
  intro tys ad ws H locs ls h1 h2 h3 h4 h5 h6 hK hP hD hS hl
  subst hAs
  have hst4 : a_okS T.length st := a_okS_tl (a_okS_right h4)
  have hAs4 : a_okS T.length (.ref o9 :: As9) := a_okS_cons (a_okS_hd (a_okS_right h4)) (a_okS_rev (a_okS_left h4))
  have hblind : FrameBlind (va_Pc ((.ref o9 :: As9 : List Value).map (a_cv ad)) (fun U => U.heap.size = H.size ∧ va_P D vwCl ws U.heap ∧ va_K D vwCl tys U ∧ va_D (fun _ => True) ws ∧ a_N U ∧ aZ (va_A ws H.size) U)) := fun a U g mk q => by
    obtain ⟨q0, q1, qP, qK, qD, qN, qZ⟩ := q
    exact ⟨q0, q1, qP, va_K.moved (u := U) (U := U.calling g mk a) (Vm.Alike.refl U.vm) qK, qD, a_N_moved (s := U) (U := U.calling g mk a) (State.WarmedH.refl U) qN, ⟨vx_Zq.moved (u := U) (U := U.calling g mk a) (Vm.Alike.refl U.vm) qZ.1, vx_Zq.moved (u := U) (U := U.calling g mk a) (Vm.Alike.refl U.vm) qZ.2⟩⟩
  have hFc : ∀ q, va_A ws H.size q → A q := fun q h => by
    rcases h with ⟨k0, e0, h⟩ | h
    · exact hD.2 k0 (q, e0) h
    · exact hA q (Nat.le_trans hS.1 h)
  have hPc : ∀ U : State, U.heap = H → s.WarmedH U.vm → va_Pc ((.ref o9 :: As9 : List Value).map (a_cv ad)) (fun U => U.heap.size = H.size ∧ va_P D vwCl ws U.heap ∧ va_K D vwCl tys U ∧ va_D (fun _ => True) ws ∧ a_N U ∧ aZ (va_A ws H.size) U) ((.ref o9 :: As9 : List Value).map (a_cv ad)).toArray U := fun U hU hW => by
    refine ⟨rfl, by rw [hU], by rw [hU]; exact hP, va_K.moved hW.alike hK, hD.weaken (fun _ _ _ _ => trivial), a_N_moved hW hN, ?_, ?_⟩
    · rw [hU]; exact vx_Zq.narrow (vx_Zq.moved hW.alike (hZ.1.kept hS.2.1)) hFc
    · rw [hU]; exact vx_Zq.narrow (vx_Zq.moved hW.alike (hZ.2.kept hS.2.1)) hFc
  have hG : GoodIn a_G (a_wd y2 cc2 nL2 ret2 [] :: a_G) := fun w hw => by
    rcases List.mem_cons.mp hw with rfl | hw
    · exact ⟨w0, good_of_word (List.mem_filter.mp w0).2⟩
    · exact a_G_good w hw
  have hM9 := hM l hl9 D tys ad ws H.size h1 h2 hAs4
  have hcat9 : ((st.map (a_cv ad)).map fun v => v.category).sum ≤ 8 := by
    rw [List.map_map]; simpa [Function.comp_def, a_cat] using hcat
  have hcw : CallB Rm s args y.cls idx y2 cc2 nL2 ret2 (a_wd y2 cc2 nL2 ret2 [] :: a_G) { frames := fr2, cells := kc2, slots := ks2, locals := lo2 } kc2 ks2 n := callB_of (Ts := a_G) n hts hG rfl rfl rfl (hts _ w9) (hts _ w1) hdesc ⟨by rw [hf1]; exact hfr, by rw [hf2]; exact hlo⟩
  have hrec := va_recv hK hP hcl9 (a_rel_at h1 hT9)
  have hr9 := vx_runV (e := e) (meth := meth) (below := below) (H := H) (locs := locs) (cells := cells) (slots := slots) (g := F0 m pc ls (List.map (a_cv ad) (As9.reverse ++ .ref o9 :: st))) (As := As9.map (a_cv ad)) (rest := st.map (a_cv ad)) (b := ad o9) (C := y2.cls) ⟨hx, hb, hml, hown, hts⟩ hM9 ⟨hcw, hts _ w2, hts _ w3⟩ ⟨hblind, hrec, hPc⟩ rfl (by simpa using hn) (hl.1.trans hml) (by show List.map (a_cv ad) (As9.reverse ++ .ref o9 :: st) = _; rw [List.map_append, List.map_reverse]; rfl) (lv_room hcat9) hd ⟨by rw [hf3]; exact hc, by rw [hf4]; exact hs⟩
  intro T' hT' X'
  rcases hr9 T' hT' X' with ⟨v9, st₀, t, T1, L1, z0, X1, hL1, e1, e2, ⟨⟨v, T2, I2, J2, R2, ad2, hv, hvok, hP9, tys2, ws2, r1, r2, r3, r4, r5, r6, r7⟩, hF⟩, hst9⟩ | ⟨q9, st₀, t, T1, L1, E, ce, z0, X1, hL1, e1, e2, ⟨⟨T2, I2, J2, R2, ad2, hP9, tys2, ws2, r1, r2, r3, r4, r5, r6, r7⟩, hF⟩, hce, hcv, hcl, hst9⟩
  · cases hv
    obtain ⟨k1, k2, k3⟩ := vx_keep z0 e1 hS (fun q _ h => hFc q h) hFc hL1 hF
    have hle : T.length ≤ T2.length := r3.length_le
    have k9 := k v T2 I2 J2 R2 r3 hP9 tys2 ad2 ws2 T1.heap (locs ++ L1) ls r1 r2 (a_okL_le hle h3) (a_okS_app (fun w hw => hvok w (by cases v <;> simp at hw; rw [hw])) (a_okS_le hle hst4)) (h5.trans r3) (fun i hi => (r4 i (Nat.lt_of_lt_of_le hi h5.length_le)).trans (h6 i hi)) (va_K.moved (by rw [← e2]; exact X1.warmed.alike.symm) r5) (by rw [e1]; exact r6) (r7.weaken (fun k q _ h => hFc q.1 h)) k3 (a_lv_le hl (lx_eq r4 h3))
    rw [List.map_append, a_cvS_le r4 hst4] at k9
    have e9 : (Option.map (a_cv ad2) v).toList = v.toList.map (a_cv ad2) := by cases v <;> rfl
    rw [e9] at hst9
    obtain ⟨t2, a1, b1⟩ := k9 T1 rfl X1
    exact ⟨t2, hst9 t2 a1, b1⟩
  · exact (kx E T2 I2 J2 R2 r3 hP9).elim
theorem lx_callS (hC : YC y cc nL fr lo kc ks sb N xs X) {idx n : Nat} {y2 : MethodName} {cc2 : ByteArray} {nL2 : Nat} {ret2 : Option FieldType} {fr2 lo2 kc2 ks2 : Nat} {As : List Value} {P2 : aP} {stk : List Value}  (hM : AMet y2 cc2 nL2 ret2 fr2 lo2 kc2 ks2 [] As T I J R P2) (hd : decode cc pc = .ok (.invokestatic idx, 3)) (w0 : a_wd y2 cc2 nL2 ret2 [] ∈ a_G) (w1 : Cond.methodLink y.cls idx y2 ∈ a_G) (w2 : Cond.static y2 ∈ a_G) (w9 : Cond.initialized y2.cls ∈ a_G)
    (hdesc : y2.cls ≠ "java/lang/invoke/MethodHandle" ∧ y2.cls ≠ "java/lang/invoke/VarHandle" ∧ (parseMethodDescriptor y2.desc).map (fun d => d.parameters.length) = some n) (hn : As.length = n) (hfr : fr2 + 1 ≤ fr) (hlo : 8 + (nL2 + 11) + lo2 ≤ lo) (hcat : (st.map fun v => v.category).sum ≤ 8) (hc : cells + kc2 ≤ kc) (hs : slots + ks2 ≤ ks) (hstk : stk = As.reverse ++ st)
    (kx : ∀ (E : String) (T2 : List aT) (I2 : aI) (J2 : aJ) (R2 : aR), T <+: T2 → P2 (.inr E) T2 I2 J2 R2 → False)
    (k : ∀ (v : Option Value) (T2 : List aT) (I2 : aI) (J2 : aJ) (R2 : aR), T <+: T2 → P2 (.inl v) T2 I2 J2 R2 → YW sb X (cells + kc2) (slots + ks2) (pc + 3) L (v.toList ++ st) T2 I2 J2 R2) : YW sb X cells slots pc L stk T I J R := by
  subst hstk
  obtain ⟨p, l, e, Rm, s, m, args, below, meth, c, Q, A, D, ad0, T0⟩ := X
  obtain ⟨⟨hx, hb, hml, hown, hts⟩, hl9, hf1, hf2, hf3, hf4, hA, hN, hZ, hScr⟩ := hC
  intro tys ad ws H locs ls h1 h2 h3 h4 h5 h6 hK hP hD hS hl
  have hst4 : a_okS T.length st := a_okS_right h4
  have hAs4 : a_okS T.length As := a_okS_rev (a_okS_left h4)
  have hblind : FrameBlind (va_Pc (As.map (a_cv ad)) (fun U => U.heap.size = H.size ∧ va_P D vwCl ws U.heap ∧ va_K D vwCl tys U ∧ va_D (fun _ => True) ws ∧ a_N U ∧ aZ (va_A ws H.size) U)) := fun a U g mk q => by
    obtain ⟨q0, q1, qP, qK, qD, qN, qZ⟩ := q
    exact ⟨q0, q1, qP, va_K.moved (u := U) (U := U.calling g mk a) (Vm.Alike.refl U.vm) qK, qD, a_N_moved (s := U) (U := U.calling g mk a) (State.WarmedH.refl U) qN, ⟨vx_Zq.moved (u := U) (U := U.calling g mk a) (Vm.Alike.refl U.vm) qZ.1, vx_Zq.moved (u := U) (U := U.calling g mk a) (Vm.Alike.refl U.vm) qZ.2⟩⟩
  have hFc : ∀ q, va_A ws H.size q → A q := fun q h => by
    rcases h with ⟨k0, e0, h⟩ | h
    · exact hD.2 k0 (q, e0) h
    · exact hA q (Nat.le_trans hS.1 h)
  have hPc : ∀ U : State, U.heap = H → s.WarmedH U.vm → va_Pc (As.map (a_cv ad)) (fun U => U.heap.size = H.size ∧ va_P D vwCl ws U.heap ∧ va_K D vwCl tys U ∧ va_D (fun _ => True) ws ∧ a_N U ∧ aZ (va_A ws H.size) U) (As.map (a_cv ad)).toArray U := fun U hU hW => by
    refine ⟨rfl, by rw [hU], by rw [hU]; exact hP, va_K.moved hW.alike hK, hD.weaken (fun _ _ _ _ => trivial), a_N_moved hW hN, ?_, ?_⟩
    · rw [hU]; exact vx_Zq.narrow (vx_Zq.moved hW.alike (hZ.1.kept hS.2.1)) hFc
    · rw [hU]; exact vx_Zq.narrow (vx_Zq.moved hW.alike (hZ.2.kept hS.2.1)) hFc
  have hG : GoodIn a_G (a_wd y2 cc2 nL2 ret2 [] :: a_G) := fun w hw => by
    rcases List.mem_cons.mp hw with rfl | hw
    · exact ⟨w0, good_of_word (List.mem_filter.mp w0).2⟩
    · exact a_G_good w hw
  have hM9 := hM l hl9 D tys ad ws H.size h1 h2 hAs4
  have hcat9 : ((st.map (a_cv ad)).map fun v => v.category).sum ≤ 8 := by
    rw [List.map_map]; simpa [Function.comp_def, a_cat] using hcat
  have hcw : CallB Rm s args y.cls idx y2 cc2 nL2 ret2 (a_wd y2 cc2 nL2 ret2 [] :: a_G) { frames := fr2, cells := kc2, slots := ks2, locals := lo2 } kc2 ks2 n := callB_of (Ts := a_G) n hts hG rfl rfl rfl (hts _ w9) (hts _ w1) hdesc ⟨by rw [hf1]; exact hfr, by rw [hf2]; exact hlo⟩
  have hr9 := vx_runS (e := e) (meth := meth) (below := below) (H := H) (locs := locs) (cells := cells) (slots := slots) (g := F0 m pc ls (List.map (a_cv ad) (As.reverse ++ st))) (As := As.map (a_cv ad)) (rest := st.map (a_cv ad)) ⟨hx, hb, hml, hown, hts⟩ hM9 ⟨hcw, hts _ w2⟩ ⟨hblind, hPc⟩ rfl (by simpa using hn) (hl.1.trans hml) (by show List.map (a_cv ad) (As.reverse ++ st) = _; rw [List.map_append, List.map_reverse]) (lv_room hcat9) hd ⟨by rw [hf3]; exact hc, by rw [hf4]; exact hs⟩
  intro T' hT' X'
  rcases hr9 T' hT' X' with ⟨v9, st₀, t, T1, L1, z0, X1, hL1, e1, e2, ⟨⟨v, T2, I2, J2, R2, ad2, hv, hvok, hP9, tys2, ws2, r1, r2, r3, r4, r5, r6, r7⟩, hF⟩, hst9⟩ | ⟨q9, st₀, t, T1, L1, E, ce, z0, X1, hL1, e1, e2, ⟨⟨T2, I2, J2, R2, ad2, hP9, tys2, ws2, r1, r2, r3, r4, r5, r6, r7⟩, hF⟩, hce, hcv, hcl, hst9⟩
  · cases hv
    obtain ⟨k1, k2, k3⟩ := vx_keep z0 e1 hS (fun q _ h => hFc q h) hFc hL1 hF
    have hle : T.length ≤ T2.length := r3.length_le
    have k9 := k v T2 I2 J2 R2 r3 hP9 tys2 ad2 ws2 T1.heap (locs ++ L1) ls r1 r2 (a_okL_le hle h3) (a_okS_app (fun w hw => hvok w (by cases v <;> simp at hw; rw [hw])) (a_okS_le hle hst4)) (h5.trans r3) (fun i hi => (r4 i (Nat.lt_of_lt_of_le hi h5.length_le)).trans (h6 i hi)) (va_K.moved (by rw [← e2]; exact X1.warmed.alike.symm) r5) (by rw [e1]; exact r6) (r7.weaken (fun k q _ h => hFc q.1 h)) k3 (a_lv_le hl (lx_eq r4 h3))
    rw [List.map_append, a_cvS_le r4 hst4] at k9
    have e9 : (Option.map (a_cv ad2) v).toList = v.toList.map (a_cv ad2) := by cases v <;> rfl
    rw [e9] at hst9
    obtain ⟨t2, a1, b1⟩ := k9 T1 rfl X1
    exact ⟨t2, hst9 t2 a1, b1⟩
  · exact (kx E T2 I2 J2 R2 r3 hP9).elim
theorem lx_callI (hC : YC y cc nL fr lo kc ks sb N xs X) {idx n : Nat} {y2 : MethodName} {cc2 : ByteArray} {nL2 : Nat} {ret2 : Option FieldType} {fr2 lo2 kc2 ks2 : Nat} {As : List Value} {P2 : aP} {stk : List Value} {o9 : Nat} {As9 : List Value} (hAs : As = .ref o9 :: As9) (hret2 : ret2 = none) (hM : AMet y2 cc2 nL2 ret2 fr2 lo2 kc2 ks2 [] As T I J R P2) (hd : decode cc pc = .ok (.invokespecial idx, 3)) (w0 : a_wd y2 cc2 nL2 ret2 [] ∈ a_G) (w1 : Cond.methodLink y.cls idx y2 ∈ a_G) (w2 : Cond.instanceMethod y2 ∈ a_G) (hinit : y2.name = "<init>") (w9 : Cond.initialized y2.cls ∈ a_G)
    (hdesc : y2.cls ≠ "java/lang/invoke/MethodHandle" ∧ y2.cls ≠ "java/lang/invoke/VarHandle" ∧ (parseMethodDescriptor y2.desc).map (fun d => d.parameters.length) = some n) (hn : As9.length = n) (hfr : fr2 + 1 ≤ fr) (hlo : 8 + (nL2 + 11) + lo2 ≤ lo) (hcat : (st.map fun v => v.category).sum ≤ 8) (hc : cells + kc2 ≤ kc) (hs : slots + ks2 ≤ ks) (hstk : stk = As9.reverse ++ .ref o9 :: st)
    (kx : ∀ (E : String) (T2 : List aT) (I2 : aI) (J2 : aJ) (R2 : aR), T <+: T2 → P2 (.inr E) T2 I2 J2 R2 → False)
    (k : ∀ (v : Option Value) (T2 : List aT) (I2 : aI) (J2 : aJ) (R2 : aR), T <+: T2 → P2 (.inl v) T2 I2 J2 R2 → YW sb X (cells + kc2) (slots + ks2) (pc + 3) L (v.toList ++ st) T2 I2 J2 R2) : YW sb X cells slots pc L stk T I J R := by
  subst hstk
  obtain ⟨p, l, e, Rm, s, m, args, below, meth, c, Q, A, D, ad0, T0⟩ := X
  obtain ⟨⟨hx, hb, hml, hown, hts⟩, hl9, hf1, hf2, hf3, hf4, hA, hN, hZ, hScr⟩ := hC
  intro tys ad ws H locs ls h1 h2 h3 h4 h5 h6 hK hP hD hS hl
  subst hAs
  have hst4 : a_okS T.length st := a_okS_tl (a_okS_right h4)
  have hAs4 : a_okS T.length (.ref o9 :: As9) := a_okS_cons (a_okS_hd (a_okS_right h4)) (a_okS_rev (a_okS_left h4))
  have hblind : FrameBlind (va_Pc ((.ref o9 :: As9 : List Value).map (a_cv ad)) (fun U => U.heap.size = H.size ∧ va_P D vwCl ws U.heap ∧ va_K D vwCl tys U ∧ va_D (fun _ => True) ws ∧ a_N U ∧ aZ (va_A ws H.size) U)) := fun a U g mk q => by
    obtain ⟨q0, q1, qP, qK, qD, qN, qZ⟩ := q
    exact ⟨q0, q1, qP, va_K.moved (u := U) (U := U.calling g mk a) (Vm.Alike.refl U.vm) qK, qD, a_N_moved (s := U) (U := U.calling g mk a) (State.WarmedH.refl U) qN, ⟨vx_Zq.moved (u := U) (U := U.calling g mk a) (Vm.Alike.refl U.vm) qZ.1, vx_Zq.moved (u := U) (U := U.calling g mk a) (Vm.Alike.refl U.vm) qZ.2⟩⟩
  have hFc : ∀ q, va_A ws H.size q → A q := fun q h => by
    rcases h with ⟨k0, e0, h⟩ | h
    · exact hD.2 k0 (q, e0) h
    · exact hA q (Nat.le_trans hS.1 h)
  have hPc : ∀ U : State, U.heap = H → s.WarmedH U.vm → va_Pc ((.ref o9 :: As9 : List Value).map (a_cv ad)) (fun U => U.heap.size = H.size ∧ va_P D vwCl ws U.heap ∧ va_K D vwCl tys U ∧ va_D (fun _ => True) ws ∧ a_N U ∧ aZ (va_A ws H.size) U) ((.ref o9 :: As9 : List Value).map (a_cv ad)).toArray U := fun U hU hW => by
    refine ⟨rfl, by rw [hU], by rw [hU]; exact hP, va_K.moved hW.alike hK, hD.weaken (fun _ _ _ _ => trivial), a_N_moved hW hN, ?_, ?_⟩
    · rw [hU]; exact vx_Zq.narrow (vx_Zq.moved hW.alike (hZ.1.kept hS.2.1)) hFc
    · rw [hU]; exact vx_Zq.narrow (vx_Zq.moved hW.alike (hZ.2.kept hS.2.1)) hFc
  have hG : GoodIn a_G (a_wd y2 cc2 nL2 ret2 [] :: a_G) := fun w hw => by
    rcases List.mem_cons.mp hw with rfl | hw
    · exact ⟨w0, good_of_word (List.mem_filter.mp w0).2⟩
    · exact a_G_good w hw
  have hM9 := hM l hl9 D tys ad ws H.size h1 h2 hAs4
  have hcat9 : ((st.map (a_cv ad)).map fun v => v.category).sum ≤ 8 := by
    rw [List.map_map]; simpa [Function.comp_def, a_cat] using hcat
  subst hret2
  have hcw : CallB Rm s args y.cls idx y2 cc2 nL2 none (a_wd y2 cc2 nL2 none [] :: a_G) { frames := fr2, cells := kc2, slots := ks2, locals := lo2 } kc2 ks2 n := callB_of (Ts := a_G) n hts hG rfl rfl rfl (hts _ w9) (hts _ w1) hdesc ⟨by rw [hf1]; exact hfr, by rw [hf2]; exact hlo⟩
  have hr9 := vx_runI (e := e) (meth := meth) (below := below) (H := H) (locs := locs) (cells := cells) (slots := slots) (g := F0 m pc ls (List.map (a_cv ad) (As9.reverse ++ .ref o9 :: st))) (As := As9.map (a_cv ad)) (rest := st.map (a_cv ad)) (b := ad o9) ⟨hx, hb, hml, hown, hts⟩ hM9 ⟨hcw, hinit, hts _ w2⟩ ⟨hblind, hPc⟩ rfl (by simpa using hn) (hl.1.trans hml) (by show List.map (a_cv ad) (As9.reverse ++ .ref o9 :: st) = _; rw [List.map_append, List.map_reverse]; rfl) (lv_room hcat9) hd ⟨by rw [hf3]; exact hc, by rw [hf4]; exact hs⟩
  intro T' hT' X'
  rcases hr9 T' hT' X' with ⟨v9, st₀, t, T1, L1, z0, X1, hL1, e1, e2, ⟨⟨v, T2, I2, J2, R2, ad2, hv, hvok, hP9, tys2, ws2, r1, r2, r3, r4, r5, r6, r7⟩, hF⟩, hst9⟩ | ⟨q9, st₀, t, T1, L1, E, ce, z0, X1, hL1, e1, e2, ⟨⟨T2, I2, J2, R2, ad2, hP9, tys2, ws2, r1, r2, r3, r4, r5, r6, r7⟩, hF⟩, hce, hcv, hcl, hst9⟩
  · cases hv
    obtain ⟨k1, k2, k3⟩ := vx_keep z0 e1 hS (fun q _ h => hFc q h) hFc hL1 hF
    have hle : T.length ≤ T2.length := r3.length_le
    have k9 := k v T2 I2 J2 R2 r3 hP9 tys2 ad2 ws2 T1.heap (locs ++ L1) ls r1 r2 (a_okL_le hle h3) (a_okS_app (fun w hw => hvok w (by cases v <;> simp at hw; rw [hw])) (a_okS_le hle hst4)) (h5.trans r3) (fun i hi => (r4 i (Nat.lt_of_lt_of_le hi h5.length_le)).trans (h6 i hi)) (va_K.moved (by rw [← e2]; exact X1.warmed.alike.symm) r5) (by rw [e1]; exact r6) (r7.weaken (fun k q _ h => hFc q.1 h)) k3 (a_lv_le hl (lx_eq r4 h3))
    rw [List.map_append, a_cvS_le r4 hst4] at k9
    have e9 : (Option.map (a_cv ad2) v).toList = v.toList.map (a_cv ad2) := by cases v <;> rfl
    rw [e9] at hst9
    obtain ⟨t2, a1, b1⟩ := k9 T1 rfl X1
    exact ⟨t2, hst9 t2 a1, b1⟩
  · exact (kx E T2 I2 J2 R2 r3 hP9).elim
theorem lx_callSX (hC : YC y cc nL fr lo kc ks sb N xs X) {idx n : Nat} {y2 : MethodName} {cc2 : ByteArray} {nL2 : Nat} {ret2 : Option FieldType} {fr2 lo2 kc2 ks2 : Nat} {As : List Value} {P2 : aP} {stk : List Value} {h0 : Nat × Nat × Nat × Nat} {ht : List (Nat × Nat × Nat × Nat)} (hM : AMet y2 cc2 nL2 ret2 fr2 lo2 kc2 ks2 (h0 :: ht) As T I J R P2) (hd : decode cc pc = .ok (.invokestatic idx, 3)) (w0 : a_wd y2 cc2 nL2 ret2 (h0 :: ht) ∈ a_G) (w1 : Cond.methodLink y.cls idx y2 ∈ a_G) (w2 : Cond.static y2 ∈ a_G) (w9 : Cond.initialized y2.cls ∈ a_G)
    (hdesc : y2.cls ≠ "java/lang/invoke/MethodHandle" ∧ y2.cls ≠ "java/lang/invoke/VarHandle" ∧ (parseMethodDescriptor y2.desc).map (fun d => d.parameters.length) = some n) (hn : As.length = n) (hfr : fr2 + 1 ≤ fr) (hlo : 8 + (nL2 + 11) + lo2 ≤ lo) (hcat : (st.map fun v => v.category).sum ≤ 8) (hc : cells + kc2 ≤ kc) (hs : slots + ks2 ≤ ks) (hstk : stk = As.reverse ++ st)
    (kx : ∀ (E : String) (T2 : List aT) (I2 : aI) (J2 : aJ) (R2 : aR), T <+: T2 → P2 (.inr E) T2 I2 J2 R2 → False)
    (k : ∀ (v : Option Value) (T2 : List aT) (I2 : aI) (J2 : aJ) (R2 : aR), T <+: T2 → P2 (.inl v) T2 I2 J2 R2 → YW sb X (cells + kc2) (slots + ks2) (pc + 3) L (v.toList ++ st) T2 I2 J2 R2) : YW sb X cells slots pc L stk T I J R := by
  subst hstk
  obtain ⟨p, l, e, Rm, s, m, args, below, meth, c, Q, A, D, ad0, T0⟩ := X
  obtain ⟨⟨hx, hb, hml, hown, hts⟩, hl9, hf1, hf2, hf3, hf4, hA, hN, hZ, hScr⟩ := hC
  intro tys ad ws H locs ls h1 h2 h3 h4 h5 h6 hK hP hD hS hl
  have hst4 : a_okS T.length st := a_okS_right h4
  have hAs4 : a_okS T.length As := a_okS_rev (a_okS_left h4)
  have hblind : FrameBlind (va_Pc (As.map (a_cv ad)) (fun U => U.heap.size = H.size ∧ va_P D vwCl ws U.heap ∧ va_K D vwCl tys U ∧ va_D (fun _ => True) ws ∧ a_N U ∧ aZ (va_A ws H.size) U)) := fun a U g mk q => by
    obtain ⟨q0, q1, qP, qK, qD, qN, qZ⟩ := q
    exact ⟨q0, q1, qP, va_K.moved (u := U) (U := U.calling g mk a) (Vm.Alike.refl U.vm) qK, qD, a_N_moved (s := U) (U := U.calling g mk a) (State.WarmedH.refl U) qN, ⟨vx_Zq.moved (u := U) (U := U.calling g mk a) (Vm.Alike.refl U.vm) qZ.1, vx_Zq.moved (u := U) (U := U.calling g mk a) (Vm.Alike.refl U.vm) qZ.2⟩⟩
  have hFc : ∀ q, va_A ws H.size q → A q := fun q h => by
    rcases h with ⟨k0, e0, h⟩ | h
    · exact hD.2 k0 (q, e0) h
    · exact hA q (Nat.le_trans hS.1 h)
  have hPc : ∀ U : State, U.heap = H → s.WarmedH U.vm → va_Pc (As.map (a_cv ad)) (fun U => U.heap.size = H.size ∧ va_P D vwCl ws U.heap ∧ va_K D vwCl tys U ∧ va_D (fun _ => True) ws ∧ a_N U ∧ aZ (va_A ws H.size) U) (As.map (a_cv ad)).toArray U := fun U hU hW => by
    refine ⟨rfl, by rw [hU], by rw [hU]; exact hP, va_K.moved hW.alike hK, hD.weaken (fun _ _ _ _ => trivial), a_N_moved hW hN, ?_, ?_⟩
    · rw [hU]; exact vx_Zq.narrow (vx_Zq.moved hW.alike (hZ.1.kept hS.2.1)) hFc
    · rw [hU]; exact vx_Zq.narrow (vx_Zq.moved hW.alike (hZ.2.kept hS.2.1)) hFc
  have hG : GoodIn a_G (a_wd y2 cc2 nL2 ret2 (h0 :: ht) :: a_G) := fun w hw => by
    rcases List.mem_cons.mp hw with rfl | hw
    · exact ⟨w0, good_of_word (List.mem_filter.mp w0).2⟩
    · exact a_G_good w hw
  have hM9 := hM l hl9 D tys ad ws H.size h1 h2 hAs4
  have hcat9 : ((st.map (a_cv ad)).map fun v => v.category).sum ≤ 8 := by
    rw [List.map_map]; simpa [Function.comp_def, a_cat] using hcat
  have hcw : vx_CSW Rm s args y.cls idx y2 cc2 nL2 ret2 (h0 :: ht) (a_wd y2 cc2 nL2 ret2 (h0 :: ht) :: a_G) { frames := fr2, cells := kc2, slots := ks2, locals := lo2 } kc2 ks2 n := vx_cwSW (Ts := a_G) n hts (fun w hw => by
    unfold va_wsS at hw
    rcases List.mem_append.mp hw with hw | hw
    · simp only [List.mem_cons, List.not_mem_nil, or_false] at hw
      rcases hw with rfl | rfl | rfl
      · exact ⟨w1, good_of_word (List.mem_filter.mp w1).2⟩
      · exact ⟨w2, good_of_word (List.mem_filter.mp w2).2⟩
      · exact ⟨w9, good_of_word (List.mem_filter.mp w9).2⟩
    · exact hG w hw) rfl rfl rfl hdesc ⟨by rw [hf1]; exact hfr, by rw [hf2]; exact hlo⟩
  have hr9 := vx_runSX (e := e) (meth := meth) (below := below) (H := H) (locs := locs) (cells := cells) (slots := slots) (g := F0 m pc ls (List.map (a_cv ad) (As.reverse ++ st))) (As := As.map (a_cv ad)) (rest := st.map (a_cv ad)) ⟨hx, hb, hml, hown, hts⟩ hM9 hcw ⟨hblind, hPc⟩ rfl (by simpa using hn) (hl.1.trans hml) (by show List.map (a_cv ad) (As.reverse ++ st) = _; rw [List.map_append, List.map_reverse]) (lv_room hcat9) hd ⟨by rw [hf3]; exact hc, by rw [hf4]; exact hs⟩
  intro T' hT' X'
  rcases hr9 T' hT' X' with ⟨v9, st₀, t, T1, L1, z0, X1, hL1, e1, e2, ⟨⟨v, T2, I2, J2, R2, ad2, hv, hvok, hP9, tys2, ws2, r1, r2, r3, r4, r5, r6, r7⟩, hF⟩, hst9⟩ | ⟨q9, st₀, t, T1, L1, E, ce, z0, X1, hL1, e1, e2, ⟨⟨T2, I2, J2, R2, ad2, hP9, tys2, ws2, r1, r2, r3, r4, r5, r6, r7⟩, hF⟩, hce, hcv, hcl, hst9⟩
  · cases hv
    obtain ⟨k1, k2, k3⟩ := vx_keep z0 e1 hS (fun q _ h => hFc q h) hFc hL1 hF
    have hle : T.length ≤ T2.length := r3.length_le
    have k9 := k v T2 I2 J2 R2 r3 hP9 tys2 ad2 ws2 T1.heap (locs ++ L1) ls r1 r2 (a_okL_le hle h3) (a_okS_app (fun w hw => hvok w (by cases v <;> simp at hw; rw [hw])) (a_okS_le hle hst4)) (h5.trans r3) (fun i hi => (r4 i (Nat.lt_of_lt_of_le hi h5.length_le)).trans (h6 i hi)) (va_K.moved (by rw [← e2]; exact X1.warmed.alike.symm) r5) (by rw [e1]; exact r6) (r7.weaken (fun k q _ h => hFc q.1 h)) k3 (a_lv_le hl (lx_eq r4 h3))
    rw [List.map_append, a_cvS_le r4 hst4] at k9
    have e9 : (Option.map (a_cv ad2) v).toList = v.toList.map (a_cv ad2) := by cases v <;> rfl
    rw [e9] at hst9
    obtain ⟨t2, a1, b1⟩ := k9 T1 rfl X1
    exact ⟨t2, hst9 t2 a1, b1⟩
  · exact (kx E T2 I2 J2 R2 r3 hP9).elim
/-- the script at k modulo its length -/
theorem lx_sldm {i : Int32} (hC : YC y cc nL fr lo kc ks sb N xs X) (hd0 : decode cc pc = .ok (.aload_n 0, 1)) (hd1 : decode cc (pc + 1) = .ok (.iload 4, 2)) (hd2 : decode cc (pc + 3) = .ok (.aload_n 0, 1)) (hd3 : decode cc (pc + 4) = .ok (.arraylength, 1)) (hd4 : decode cc (pc + 5) = .ok (.irem, 1)) (hd5 : decode cc (pc + 6) = .ok (.iaload, 1)) (hL : L[4]? = some (some (.int i))) (hz : ¬ Int32.ofNat N = 0) (hin : vp_in (i - i / Int32.ofNat N * Int32.ofNat N) N) (k : YW sb X cells slots (pc + 7) L (.int (xs (i - i / Int32.ofNat N * Int32.ofNat N).toNatClampNeg) :: st) T I J R) : YW sb X cells slots pc L st T I J R := by
  obtain ⟨p, l, e, Rm, s, m, args, below, meth, c, Q, A, D, ad0, T0⟩ := X
  obtain ⟨⟨hx, hb, hml, hown, hts⟩, hl9, hf1, hf2, hf3, hf4, hA, hN, hZ, hX, hsb, hnA⟩ := hC
  intro tys ad ws H locs ls h1 h2 h3 h4 h5 h6 hK hP hD hS hl
  refine lv_aload_n hx hb hd0 rfl (hl.2.2 (0, Value.ref sb) List.mem_cons_self) ?_
  refine lv_iload hx hb hd1 (a_lvat (lx_tl hl) hL) ?_
  refine lv_aload_n hx hb hd2 rfl (hl.2.2 (0, Value.ref sb) List.mem_cons_self) ?_
  refine va_slen hx hb hX hsb hnA hS hd3 ?_
  refine lv_irem hx hb hd4 hz ?_
  exact va_sld hx hb hX hsb hnA hS hin hd5 (k tys ad ws H locs ls h1 h2 h3 (a_okS_cons a_okv_int h4) h5 h6 hK hP hD hS hl)
end LWROWS
def xA (X : aX) : Prop := xT0 X = []
theorem lx_widen {sb : Nat} {X : aX} {cells slots c2 s2 pc : Nat} {L : List (Option Value)} {st : List Value} {T : List aT} {I : aI} {J : aJ} {R : aR} (h1 : cells ≤ c2) (h2 : slots ≤ s2) (k : YW sb X c2 s2 pc L st T I J R) : YW sb X cells slots pc L st T I J R := by
  obtain ⟨p, l, e, Rm, s, m, args, below, meth, c, Q, A, D, ad0, T0⟩ := X
  intro tys ad ws H locs ls g1 g2 g3 g4 g5 g6 hK hP hD hS hl
  exact W.widen h1 h2 (k tys ad ws H locs ls g1 g2 g3 g4 g5 g6 hK hP hD hS hl)
theorem lx_clear {sb : Nat} {X : aX} {cells slots pc : Nat} {L : List (Option Value)} {T : List aT} {I : aI} {J : aJ} {R : aR} (hX : xT0 X = []) (hL : a_okL 0 L) (k : YW sb X cells slots pc L [] [] (fun _ _ => 0) (fun _ _ => 0) (fun _ _ => none)) : YW sb X cells slots pc L [] T I J R := by
  obtain ⟨p, l, e, Rm, s, m, args, below, meth, c, Q, A, D, ad0, T0⟩ := X
  have hX : T0 = [] := hX
  subst hX
  intro tys ad ws H locs ls h1 h2 h3 h4 h5 h6 hK hP hD hS hl
  exact k tys ad [] H locs ls ⟨rfl, fun i t h => by simp at h⟩ ⟨fun o k q h => (nomatch h), fun o _ => ⟨rfl, rfl, rfl⟩⟩ hL (fun v hv => by simp at hv) (List.prefix_refl _) h6 hK (fun k q h => by simp at h) ⟨fun i j p q h => by simp at h, fun k q h => by simp at h⟩ hS hl
theorem lek_x {F : Int32 → aI → Prop} {T0 : List aT} : ∀ (E : String) (T2 : List aT) (I2 : aI) (J2 : aJ) (R2 : aR), T0 <+: T2 → EK F (.inr E) T2 I2 J2 R2 → False := by
  rintro E T2 I2 J2 R2 - ⟨w, m2, -, e, -⟩; cases e
theorem lek_k {F : Int32 → aI → Prop} {T0 : List aT} {sb : Nat} {X : aX} {c s pc : Nat} {L : List (Option Value)} {st : List Value} (k : ∀ (w : Int32) (m2 : aI) (T2 : List aT) (I2 : aI) (J2 : aJ) (R2 : aR), F w m2 → GX T2 I2 J2 R2 m2 → YW sb X c s pc L (.int w :: st) T2 I2 J2 R2) : ∀ (v2 : Option Value) (T2 : List aT) (I2 : aI) (J2 : aJ) (R2 : aR), T0 <+: T2 → EK F (.inl v2) T2 I2 J2 R2 → YW sb X c s pc L (v2.toList ++ st) T2 I2 J2 R2 := by
  rintro v2 T2 I2 J2 R2 hp ⟨w, m2, a, e, b⟩
  cases e
  exact k w m2 T2 I2 J2 R2 a b
theorem lek_p {v : Int32} {n : aI} {T0 : List aT} {sb : Nat} {X : aX} {c s pc : Nat} {L : List (Option Value)} {st : List Value} (k : ∀ (T2 : List aT) (I2 : aI) (J2 : aJ) (R2 : aR), GX T2 I2 J2 R2 n → YW sb X c s pc L (.int v :: st) T2 I2 J2 R2) : ∀ (v2 : Option Value) (T2 : List aT) (I2 : aI) (J2 : aJ) (R2 : aR), T0 <+: T2 → EK (pt v n) (.inl v2) T2 I2 J2 R2 → YW sb X c s pc L (v2.toList ++ st) T2 I2 J2 R2 := lek_k (fun w m2 T2 I2 J2 R2 hF h0 => by rw [hF.2] at h0; rw [hF.1]; exact k T2 I2 J2 R2 h0)
theorem lev_p {n : aI} {T0 : List aT} {sb : Nat} {X : aX} {c s pc : Nat} {L : List (Option Value)} {st : List Value} (k : ∀ (T2 : List aT) (I2 : aI) (J2 : aJ) (R2 : aR), GX T2 I2 J2 R2 n → YW sb X c s pc L st T2 I2 J2 R2) : ∀ (v2 : Option Value) (T2 : List aT) (I2 : aI) (J2 : aJ) (R2 : aR), T0 <+: T2 → EV (pt 0 n) (.inl v2) T2 I2 J2 R2 → YW sb X c s pc L (v2.toList ++ st) T2 I2 J2 R2 := by
  rintro v2 T2 I2 J2 R2 hp ⟨w, m2, a, b, ⟨e, e2⟩ | ⟨E, -, e, -⟩⟩
  · cases e; rw [a.2] at b; exact k T2 I2 J2 R2 b
  · cases e
theorem lev_x {n : aI} {T0 : List aT} : ∀ (E : String) (T2 : List aT) (I2 : aI) (J2 : aJ) (R2 : aR), T0 <+: T2 → EV (pt 0 n) (.inr E) T2 I2 J2 R2 → False := by
  rintro E T2 I2 J2 R2 - ⟨w, m2, a, b, ⟨e, -⟩ | ⟨E, e1, e2, e3⟩⟩
  · cases e
  · rw [a.1] at e3
    rcases e1 with rfl | rfl | rfl
    · rw [xc_I] at e3; exact absurd e3 (by decide)
    · rw [xc_A] at e3; exact absurd e3 (by decide)
    · rw [xc_S] at e3; exact absurd e3 (by decide)
theorem lpt_x {T0 : List aT} : ∀ (E : String) (T2 : List aT) (I2 : aI) (J2 : aJ) (R2 : aR), T0 <+: T2 → PT (.inr E) T2 I2 J2 R2 → False := fun _ _ _ _ _ _ h => nomatch h
theorem lpt_k {T0 : List aT} {sb : Nat} {X : aX} {c s pc : Nat} {L : List (Option Value)} {st : List Value} (k : ∀ (T2 : List aT) (I2 : aI) (J2 : aJ) (R2 : aR), YW sb X c s pc L (.int 1 :: st) T2 I2 J2 R2) : ∀ (v2 : Option Value) (T2 : List aT) (I2 : aI) (J2 : aJ) (R2 : aR), T0 <+: T2 → PT (.inl v2) T2 I2 J2 R2 → YW sb X c s pc L (v2.toList ++ st) T2 I2 J2 R2 := by
  intro v2 T2 I2 J2 R2 _ h
  unfold PT at h
  cases h
  exact k T2 I2 J2 R2
theorem kx_205 {y : MethodName} {cc : ByteArray} {nL : Nat} {fr lo kc ks sb N : Nat} {xs : Nat → Int32} {X : aX} {cells slots pc : Nat} {L : List (Option Value)} {st : List Value} {T : List aT} {I : aI} {J : aJ} {R : aR} {kc2 ks2 : Nat} {As : List Value} {P2 : aP} {stk : List Value} (hC : YC y cc nL fr lo kc ks sb N xs X) (hy : y.cls = RL) (hM : ML_values kc2 ks2 As T I J R P2) (hd : decode cc pc = .ok (.invokestatic 205, 3)) (hn : As.length = 0) (hfr : 11 + 1 ≤ fr) (hlo : 8 + (3 + 11) + 273 ≤ lo) (hcat : (st.map fun v => v.category).sum ≤ 8) (hc : cells + kc2 ≤ kc) (hs : slots + ks2 ≤ ks) (hstk : stk = As.reverse ++ st)
    (kx : ∀ (E : String) (T2 : List aT) (I2 : aI) (J2 : aJ) (R2 : aR), T <+: T2 → P2 (.inr E) T2 I2 J2 R2 → False) (k : ∀ (v : Option Value) (T2 : List aT) (I2 : aI) (J2 : aJ) (R2 : aR), T <+: T2 → P2 (.inl v) T2 I2 J2 R2 → YW sb X (cells + kc2) (slots + ks2) (pc + 3) L (v.toList ++ st) T2 I2 J2 R2) : YW sb X cells slots pc L stk T I J R := lx_callS (n := 0) hC hM hd gC_L_values (hy ▸ gL_L_205) gS_L_values gN_L ⟨by decide +kernel, by decide +kernel, by decide +kernel⟩ hn hfr hlo hcat hc hs hstk kx k
theorem kx_208 {y : MethodName} {cc : ByteArray} {nL : Nat} {fr lo kc ks sb N : Nat} {xs : Nat → Int32} {X : aX} {cells slots pc : Nat} {L : List (Option Value)} {st : List Value} {T : List aT} {I : aI} {J : aJ} {R : aR} {kc2 ks2 : Nat} {As : List Value} {P2 : aP} {stk : List Value} (hC : YC y cc nL fr lo kc ks sb N xs X) (hy : y.cls = RL) (hM : ML_faults kc2 ks2 As T I J R P2) (hd : decode cc pc = .ok (.invokestatic 208, 3)) (hn : As.length = 0) (hfr : 11 + 1 ≤ fr) (hlo : 8 + (4 + 11) + 273 ≤ lo) (hcat : (st.map fun v => v.category).sum ≤ 8) (hc : cells + kc2 ≤ kc) (hs : slots + ks2 ≤ ks) (hstk : stk = As.reverse ++ st)
    (kx : ∀ (E : String) (T2 : List aT) (I2 : aI) (J2 : aJ) (R2 : aR), T <+: T2 → P2 (.inr E) T2 I2 J2 R2 → False) (k : ∀ (v : Option Value) (T2 : List aT) (I2 : aI) (J2 : aJ) (R2 : aR), T <+: T2 → P2 (.inl v) T2 I2 J2 R2 → YW sb X (cells + kc2) (slots + ks2) (pc + 3) L (v.toList ++ st) T2 I2 J2 R2) : YW sb X cells slots pc L stk T I J R := lx_callS (n := 0) hC hM hd gC_L_faults (hy ▸ gL_L_208) gS_L_faults gN_L ⟨by decide +kernel, by decide +kernel, by decide +kernel⟩ hn hfr hlo hcat hc hs hstk kx k
theorem kx_211 {y : MethodName} {cc : ByteArray} {nL : Nat} {fr lo kc ks sb N : Nat} {xs : Nat → Int32} {X : aX} {cells slots pc : Nat} {L : List (Option Value)} {st : List Value} {T : List aT} {I : aI} {J : aJ} {R : aR} {kc2 ks2 : Nat} {As : List Value} {P2 : aP} {stk : List Value} (hC : YC y cc nL fr lo kc ks sb N xs X) (hy : y.cls = RL) (hM : ML_plans kc2 ks2 As T I J R P2) (hd : decode cc pc = .ok (.invokestatic 211, 3)) (hn : As.length = 0) (hfr : 11 + 1 ≤ fr) (hlo : 8 + (2 + 11) + 273 ≤ lo) (hcat : (st.map fun v => v.category).sum ≤ 8) (hc : cells + kc2 ≤ kc) (hs : slots + ks2 ≤ ks) (hstk : stk = As.reverse ++ st)
    (kx : ∀ (E : String) (T2 : List aT) (I2 : aI) (J2 : aJ) (R2 : aR), T <+: T2 → P2 (.inr E) T2 I2 J2 R2 → False) (k : ∀ (v : Option Value) (T2 : List aT) (I2 : aI) (J2 : aJ) (R2 : aR), T <+: T2 → P2 (.inl v) T2 I2 J2 R2 → YW sb X (cells + kc2) (slots + ks2) (pc + 3) L (v.toList ++ st) T2 I2 J2 R2) : YW sb X cells slots pc L stk T I J R := lx_callS (n := 0) hC hM hd gC_L_plans (hy ▸ gL_L_211) gS_L_plans gN_L ⟨by decide +kernel, by decide +kernel, by decide +kernel⟩ hn hfr hlo hcat hc hs hstk kx k
theorem kx_214 {y : MethodName} {cc : ByteArray} {nL : Nat} {fr lo kc ks sb N : Nat} {xs : Nat → Int32} {X : aX} {cells slots pc : Nat} {L : List (Option Value)} {st : List Value} {T : List aT} {I : aI} {J : aJ} {R : aR} {kc2 ks2 : Nat} {As : List Value} {P2 : aP} {stk : List Value} (hC : YC y cc nL fr lo kc ks sb N xs X) (hy : y.cls = RL) (hM : ML_worlds kc2 ks2 As T I J R P2) (hd : decode cc pc = .ok (.invokestatic 214, 3)) (hn : As.length = 0) (hfr : 12 + 1 ≤ fr) (hlo : 8 + (3 + 11) + 295 ≤ lo) (hcat : (st.map fun v => v.category).sum ≤ 8) (hc : cells + kc2 ≤ kc) (hs : slots + ks2 ≤ ks) (hstk : stk = As.reverse ++ st)
    (kx : ∀ (E : String) (T2 : List aT) (I2 : aI) (J2 : aJ) (R2 : aR), T <+: T2 → P2 (.inr E) T2 I2 J2 R2 → False) (k : ∀ (v : Option Value) (T2 : List aT) (I2 : aI) (J2 : aJ) (R2 : aR), T <+: T2 → P2 (.inl v) T2 I2 J2 R2 → YW sb X (cells + kc2) (slots + ks2) (pc + 3) L (v.toList ++ st) T2 I2 J2 R2) : YW sb X cells slots pc L stk T I J R := lx_callS (n := 0) hC hM hd gC_L_worlds (hy ▸ gL_L_214) gS_L_worlds gN_L ⟨by decide +kernel, by decide +kernel, by decide +kernel⟩ hn hfr hlo hcat hc hs hstk kx k
theorem kx_161 {y : MethodName} {cc : ByteArray} {nL : Nat} {fr lo kc ks sb N : Nat} {xs : Nat → Int32} {X : aX} {cells slots pc : Nat} {L : List (Option Value)} {st : List Value} {T : List aT} {I : aI} {J : aJ} {R : aR} {kc2 ks2 : Nat} {P2 : aP} {stk : List Value} {o9 : Nat} {As9 : List Value} (hC : YC y cc nL fr lo kc ks sb N xs X) (hy : y.cls = RL) (hM : MX11_init kc2 ks2 (.ref o9 :: As9) T I J R P2) (hd : decode cc pc = .ok (.invokespecial 161, 3)) (hn : As9.length = 0) (hfr : 3 + 1 ≤ fr) (hlo : 8 + (1 + 11) + 53 ≤ lo) (hcat : (st.map fun v => v.category).sum ≤ 8) (hc : cells + kc2 ≤ kc) (hs : slots + ks2 ≤ ks) (hstk : stk = As9.reverse ++ .ref o9 :: st)
    (kx : ∀ (E : String) (T2 : List aT) (I2 : aI) (J2 : aJ) (R2 : aR), T <+: T2 → P2 (.inr E) T2 I2 J2 R2 → False) (k : ∀ (v : Option Value) (T2 : List aT) (I2 : aI) (J2 : aJ) (R2 : aR), T <+: T2 → P2 (.inl v) T2 I2 J2 R2 → YW sb X (cells + kc2) (slots + ks2) (pc + 3) L (v.toList ++ st) T2 I2 J2 R2) : YW sb X cells slots pc L stk T I J R := lx_callI (n := 0) hC rfl rfl hM hd gC_X11_init (hy ▸ gL_L_161) gI_X11_init rfl gN_X11 ⟨by decide +kernel, by decide +kernel, by decide +kernel⟩ hn hfr hlo hcat hc hs hstk kx k
theorem kx_91 {y : MethodName} {cc : ByteArray} {nL : Nat} {fr lo kc ks sb N : Nat} {xs : Nat → Int32} {X : aX} {cells slots pc : Nat} {L : List (Option Value)} {st : List Value} {T : List aT} {I : aI} {J : aJ} {R : aR} {kc2 ks2 : Nat} {P2 : aP} {stk : List Value} {o9 : Nat} {As9 : List Value} (hC : YC y cc nL fr lo kc ks sb N xs X) (hy : y.cls = RL) (hM : MX11_setType kc2 ks2 (.ref o9 :: As9) T I J R P2) (hd : decode cc pc = .ok (.invokevirtual 91, 3)) (hT9 : T[o9]? = some (.inr 11)) (hn : As9.length = 6) (hfr : 7 + 1 ≤ fr) (hlo : 8 + (8 + 11) + 101 ≤ lo) (hcat : (st.map fun v => v.category).sum ≤ 8) (hc : cells + kc2 ≤ kc) (hs : slots + ks2 ≤ ks) (hstk : stk = As9.reverse ++ .ref o9 :: st)
    (kx : ∀ (E : String) (T2 : List aT) (I2 : aI) (J2 : aJ) (R2 : aR), T <+: T2 → P2 (.inr E) T2 I2 J2 R2 → False) (k : ∀ (v : Option Value) (T2 : List aT) (I2 : aI) (J2 : aJ) (R2 : aR), T <+: T2 → P2 (.inl v) T2 I2 J2 R2 → YW sb X (cells + kc2) (slots + ks2) (pc + 3) L (v.toList ++ st) T2 I2 J2 R2) : YW sb X cells slots pc L stk T I J R := lx_callV (n := 6) (ci := 11) (Tb := TX11) hC rfl hT9 rfl hM hd gC_X11_setType (hy ▸ gL_L_91) gI_X11_setType gE_X11_setType gN_X11 ⟨by decide +kernel, by decide +kernel, by decide +kernel⟩ hn hfr hlo hcat hc hs hstk kx k
theorem kx_61 {y : MethodName} {cc : ByteArray} {nL : Nat} {fr lo kc ks sb N : Nat} {xs : Nat → Int32} {X : aX} {cells slots pc : Nat} {L : List (Option Value)} {st : List Value} {T : List aT} {I : aI} {J : aJ} {R : aR} {kc2 ks2 : Nat} {P2 : aP} {stk : List Value} {o9 : Nat} {As9 : List Value} (hC : YC y cc nL fr lo kc ks sb N xs X) (hy : y.cls = RL) (hM : MX11_generator kc2 ks2 (.ref o9 :: As9) T I J R P2) (hd : decode cc pc = .ok (.invokevirtual 61, 3)) (hT9 : T[o9]? = some (.inr 11)) (hn : As9.length = 1) (hfr : 7 + 1 ≤ fr) (hlo : 8 + (2 + 11) + 101 ≤ lo) (hcat : (st.map fun v => v.category).sum ≤ 8) (hc : cells + kc2 ≤ kc) (hs : slots + ks2 ≤ ks) (hstk : stk = As9.reverse ++ .ref o9 :: st)
    (kx : ∀ (E : String) (T2 : List aT) (I2 : aI) (J2 : aJ) (R2 : aR), T <+: T2 → P2 (.inr E) T2 I2 J2 R2 → False) (k : ∀ (v : Option Value) (T2 : List aT) (I2 : aI) (J2 : aJ) (R2 : aR), T <+: T2 → P2 (.inl v) T2 I2 J2 R2 → YW sb X (cells + kc2) (slots + ks2) (pc + 3) L (v.toList ++ st) T2 I2 J2 R2) : YW sb X cells slots pc L stk T I J R := lx_callV (n := 1) (ci := 11) (Tb := TX11) hC rfl hT9 rfl hM hd gC_X11_generator (hy ▸ gL_L_61) gI_X11_generator gE_X11_generator gN_X11 ⟨by decide +kernel, by decide +kernel, by decide +kernel⟩ hn hfr hlo hcat hc hs hstk kx k
theorem kx_70 {y : MethodName} {cc : ByteArray} {nL : Nat} {fr lo kc ks sb N : Nat} {xs : Nat → Int32} {X : aX} {cells slots pc : Nat} {L : List (Option Value)} {st : List Value} {T : List aT} {I : aI} {J : aJ} {R : aR} {kc2 ks2 : Nat} {P2 : aP} {stk : List Value} {o9 : Nat} {As9 : List Value} (hC : YC y cc nL fr lo kc ks sb N xs X) (hy : y.cls = RL) (hM : MX11_bind kc2 ks2 (.ref o9 :: As9) T I J R P2) (hd : decode cc pc = .ok (.invokevirtual 70, 3)) (hT9 : T[o9]? = some (.inr 11)) (hn : As9.length = 3) (hfr : 7 + 1 ≤ fr) (hlo : 8 + (6 + 11) + 101 ≤ lo) (hcat : (st.map fun v => v.category).sum ≤ 8) (hc : cells + kc2 ≤ kc) (hs : slots + ks2 ≤ ks) (hstk : stk = As9.reverse ++ .ref o9 :: st)
    (kx : ∀ (E : String) (T2 : List aT) (I2 : aI) (J2 : aJ) (R2 : aR), T <+: T2 → P2 (.inr E) T2 I2 J2 R2 → False) (k : ∀ (v : Option Value) (T2 : List aT) (I2 : aI) (J2 : aJ) (R2 : aR), T <+: T2 → P2 (.inl v) T2 I2 J2 R2 → YW sb X (cells + kc2) (slots + ks2) (pc + 3) L (v.toList ++ st) T2 I2 J2 R2) : YW sb X cells slots pc L stk T I J R := lx_callV (n := 3) (ci := 11) (Tb := TX11) hC rfl hT9 rfl hM hd gC_X11_bind (hy ▸ gL_L_70) gI_X11_bind gE_X11_bind gN_X11 ⟨by decide +kernel, by decide +kernel, by decide +kernel⟩ hn hfr hlo hcat hc hs hstk kx k
theorem kx_157 {y : MethodName} {cc : ByteArray} {nL : Nat} {fr lo kc ks sb N : Nat} {xs : Nat → Int32} {X : aX} {cells slots pc : Nat} {L : List (Option Value)} {st : List Value} {T : List aT} {I : aI} {J : aJ} {R : aR} {kc2 ks2 : Nat} {As : List Value} {P2 : aP} {stk : List Value} (hC : YC y cc nL fr lo kc ks sb N xs X) (hy : y.cls = RL) (hM : ML_act kc2 ks2 As T I J R P2) (hd : decode cc pc = .ok (.invokestatic 157, 3)) (hn : As.length = 7) (hfr : 9 + 1 ≤ fr) (hlo : 8 + (8 + 11) + 203 ≤ lo) (hcat : (st.map fun v => v.category).sum ≤ 8) (hc : cells + kc2 ≤ kc) (hs : slots + ks2 ≤ ks) (hstk : stk = As.reverse ++ st)
    (kx : ∀ (E : String) (T2 : List aT) (I2 : aI) (J2 : aJ) (R2 : aR), T <+: T2 → P2 (.inr E) T2 I2 J2 R2 → False) (k : ∀ (v : Option Value) (T2 : List aT) (I2 : aI) (J2 : aJ) (R2 : aR), T <+: T2 → P2 (.inl v) T2 I2 J2 R2 → YW sb X (cells + kc2) (slots + ks2) (pc + 3) L (v.toList ++ st) T2 I2 J2 R2) : YW sb X cells slots pc L stk T I J R := lx_callSX (n := 7) hC hM hd gC_L_act (hy ▸ gL_L_157) gS_L_act gN_L ⟨by decide +kernel, by decide +kernel, by decide +kernel⟩ hn hfr hlo hcat hc hs hstk kx k
theorem kx_171 {y : MethodName} {cc : ByteArray} {nL : Nat} {fr lo kc ks sb N : Nat} {xs : Nat → Int32} {X : aX} {cells slots pc : Nat} {L : List (Option Value)} {st : List Value} {T : List aT} {I : aI} {J : aJ} {R : aR} {kc2 ks2 : Nat} {P2 : aP} {stk : List Value} {o9 : Nat} {As9 : List Value} (hC : YC y cc nL fr lo kc ks sb N xs X) (hy : y.cls = RL) (hM : MX11_conflict kc2 ks2 (.ref o9 :: As9) T I J R P2) (hd : decode cc pc = .ok (.invokevirtual 171, 3)) (hT9 : T[o9]? = some (.inr 11)) (hn : As9.length = 0) (hfr : 8 + 1 ≤ fr) (hlo : 8 + (1 + 11) + 176 ≤ lo) (hcat : (st.map fun v => v.category).sum ≤ 8) (hc : cells + kc2 ≤ kc) (hs : slots + ks2 ≤ ks) (hstk : stk = As9.reverse ++ .ref o9 :: st)
    (kx : ∀ (E : String) (T2 : List aT) (I2 : aI) (J2 : aJ) (R2 : aR), T <+: T2 → P2 (.inr E) T2 I2 J2 R2 → False) (k : ∀ (v : Option Value) (T2 : List aT) (I2 : aI) (J2 : aJ) (R2 : aR), T <+: T2 → P2 (.inl v) T2 I2 J2 R2 → YW sb X (cells + kc2) (slots + ks2) (pc + 3) L (v.toList ++ st) T2 I2 J2 R2) : YW sb X cells slots pc L stk T I J R := lx_callV (n := 0) (ci := 11) (Tb := TX11) hC rfl hT9 rfl hM hd gC_X11_conflict (hy ▸ gL_L_171) gI_X11_conflict gE_X11_conflict gN_X11 ⟨by decide +kernel, by decide +kernel, by decide +kernel⟩ hn hfr hlo hcat hc hs hstk kx k
theorem kx_43 {y : MethodName} {cc : ByteArray} {nL : Nat} {fr lo kc ks sb N : Nat} {xs : Nat → Int32} {X : aX} {cells slots pc : Nat} {L : List (Option Value)} {st : List Value} {T : List aT} {I : aI} {J : aJ} {R : aR} {kc2 ks2 : Nat} {P2 : aP} {stk : List Value} {o9 : Nat} {As9 : List Value} (hC : YC y cc nL fr lo kc ks sb N xs X) (hy : y.cls = RL) (hM : MX11_set kc2 ks2 (.ref o9 :: As9) T I J R P2) (hd : decode cc pc = .ok (.invokevirtual 43, 3)) (hT9 : T[o9]? = some (.inr 11)) (hn : As9.length = 1) (hfr : 7 + 1 ≤ fr) (hlo : 8 + (2 + 11) + 157 ≤ lo) (hcat : (st.map fun v => v.category).sum ≤ 8) (hc : cells + kc2 ≤ kc) (hs : slots + ks2 ≤ ks) (hstk : stk = As9.reverse ++ .ref o9 :: st)
    (kx : ∀ (E : String) (T2 : List aT) (I2 : aI) (J2 : aJ) (R2 : aR), T <+: T2 → P2 (.inr E) T2 I2 J2 R2 → False) (k : ∀ (v : Option Value) (T2 : List aT) (I2 : aI) (J2 : aJ) (R2 : aR), T <+: T2 → P2 (.inl v) T2 I2 J2 R2 → YW sb X (cells + kc2) (slots + ks2) (pc + 3) L (v.toList ++ st) T2 I2 J2 R2) : YW sb X cells slots pc L stk T I J R := lx_callV (n := 1) (ci := 11) (Tb := TX11) hC rfl hT9 rfl hM hd gC_X11_set (hy ▸ gL_L_43) gI_X11_set gE_X11_set gN_X11 ⟨by decide +kernel, by decide +kernel, by decide +kernel⟩ hn hfr hlo hcat hc hs hstk kx k
theorem kx_46 {y : MethodName} {cc : ByteArray} {nL : Nat} {fr lo kc ks sb N : Nat} {xs : Nat → Int32} {X : aX} {cells slots pc : Nat} {L : List (Option Value)} {st : List Value} {T : List aT} {I : aI} {J : aJ} {R : aR} {kc2 ks2 : Nat} {P2 : aP} {stk : List Value} {o9 : Nat} {As9 : List Value} (hC : YC y cc nL fr lo kc ks sb N xs X) (hy : y.cls = RL) (hM : MX11_setAnew kc2 ks2 (.ref o9 :: As9) T I J R P2) (hd : decode cc pc = .ok (.invokevirtual 46, 3)) (hT9 : T[o9]? = some (.inr 11)) (hn : As9.length = 1) (hfr : 7 + 1 ≤ fr) (hlo : 8 + (2 + 11) + 157 ≤ lo) (hcat : (st.map fun v => v.category).sum ≤ 8) (hc : cells + kc2 ≤ kc) (hs : slots + ks2 ≤ ks) (hstk : stk = As9.reverse ++ .ref o9 :: st)
    (kx : ∀ (E : String) (T2 : List aT) (I2 : aI) (J2 : aJ) (R2 : aR), T <+: T2 → P2 (.inr E) T2 I2 J2 R2 → False) (k : ∀ (v : Option Value) (T2 : List aT) (I2 : aI) (J2 : aJ) (R2 : aR), T <+: T2 → P2 (.inl v) T2 I2 J2 R2 → YW sb X (cells + kc2) (slots + ks2) (pc + 3) L (v.toList ++ st) T2 I2 J2 R2) : YW sb X cells slots pc L stk T I J R := lx_callV (n := 1) (ci := 11) (Tb := TX11) hC rfl hT9 rfl hM hd gC_X11_setAnew (hy ▸ gL_L_46) gI_X11_setAnew gE_X11_setAnew gN_X11 ⟨by decide +kernel, by decide +kernel, by decide +kernel⟩ hn hfr hlo hcat hc hs hstk kx k
theorem kx_40 {y : MethodName} {cc : ByteArray} {nL : Nat} {fr lo kc ks sb N : Nat} {xs : Nat → Int32} {X : aX} {cells slots pc : Nat} {L : List (Option Value)} {st : List Value} {T : List aT} {I : aI} {J : aJ} {R : aR} {kc2 ks2 : Nat} {P2 : aP} {stk : List Value} {o9 : Nat} {As9 : List Value} (hC : YC y cc nL fr lo kc ks sb N xs X) (hy : y.cls = RL) (hM : MX11_value kc2 ks2 (.ref o9 :: As9) T I J R P2) (hd : decode cc pc = .ok (.invokevirtual 40, 3)) (hT9 : T[o9]? = some (.inr 11)) (hn : As9.length = 1) (hfr : 7 + 1 ≤ fr) (hlo : 8 + (2 + 11) + 157 ≤ lo) (hcat : (st.map fun v => v.category).sum ≤ 8) (hc : cells + kc2 ≤ kc) (hs : slots + ks2 ≤ ks) (hstk : stk = As9.reverse ++ .ref o9 :: st)
    (kx : ∀ (E : String) (T2 : List aT) (I2 : aI) (J2 : aJ) (R2 : aR), T <+: T2 → P2 (.inr E) T2 I2 J2 R2 → False) (k : ∀ (v : Option Value) (T2 : List aT) (I2 : aI) (J2 : aJ) (R2 : aR), T <+: T2 → P2 (.inl v) T2 I2 J2 R2 → YW sb X (cells + kc2) (slots + ks2) (pc + 3) L (v.toList ++ st) T2 I2 J2 R2) : YW sb X cells slots pc L stk T I J R := lx_callV (n := 1) (ci := 11) (Tb := TX11) hC rfl hT9 rfl hM hd gC_X11_value (hy ▸ gL_L_40) gI_X11_value gE_X11_value gN_X11 ⟨by decide +kernel, by decide +kernel, by decide +kernel⟩ hn hfr hlo hcat hc hs hstk kx k
theorem kx_37 {y : MethodName} {cc : ByteArray} {nL : Nat} {fr lo kc ks sb N : Nat} {xs : Nat → Int32} {X : aX} {cells slots pc : Nat} {L : List (Option Value)} {st : List Value} {T : List aT} {I : aI} {J : aJ} {R : aR} {kc2 ks2 : Nat} {P2 : aP} {stk : List Value} {o9 : Nat} {As9 : List Value} (hC : YC y cc nL fr lo kc ks sb N xs X) (hy : y.cls = RL) (hM : MX11_standing kc2 ks2 (.ref o9 :: As9) T I J R P2) (hd : decode cc pc = .ok (.invokevirtual 37, 3)) (hT9 : T[o9]? = some (.inr 11)) (hn : As9.length = 1) (hfr : 7 + 1 ≤ fr) (hlo : 8 + (3 + 11) + 157 ≤ lo) (hcat : (st.map fun v => v.category).sum ≤ 8) (hc : cells + kc2 ≤ kc) (hs : slots + ks2 ≤ ks) (hstk : stk = As9.reverse ++ .ref o9 :: st)
    (kx : ∀ (E : String) (T2 : List aT) (I2 : aI) (J2 : aJ) (R2 : aR), T <+: T2 → P2 (.inr E) T2 I2 J2 R2 → False) (k : ∀ (v : Option Value) (T2 : List aT) (I2 : aI) (J2 : aJ) (R2 : aR), T <+: T2 → P2 (.inl v) T2 I2 J2 R2 → YW sb X (cells + kc2) (slots + ks2) (pc + 3) L (v.toList ++ st) T2 I2 J2 R2) : YW sb X cells slots pc L stk T I J R := lx_callV (n := 1) (ci := 11) (Tb := TX11) hC rfl hT9 rfl hM hd gC_X11_standing (hy ▸ gL_L_37) gI_X11_standing gE_X11_standing gN_X11 ⟨by decide +kernel, by decide +kernel, by decide +kernel⟩ hn hfr hlo hcat hc hs hstk kx k
theorem kx_149 {y : MethodName} {cc : ByteArray} {nL : Nat} {fr lo kc ks sb N : Nat} {xs : Nat → Int32} {X : aX} {cells slots pc : Nat} {L : List (Option Value)} {st : List Value} {T : List aT} {I : aI} {J : aJ} {R : aR} {kc2 ks2 : Nat} {P2 : aP} {stk : List Value} {o9 : Nat} {As9 : List Value} (hC : YC y cc nL fr lo kc ks sb N xs X) (hy : y.cls = RL) (hM : MX11_pending kc2 ks2 (.ref o9 :: As9) T I J R P2) (hd : decode cc pc = .ok (.invokevirtual 149, 3)) (hT9 : T[o9]? = some (.inr 11)) (hn : As9.length = 0) (hfr : 7 + 1 ≤ fr) (hlo : 8 + (1 + 11) + 157 ≤ lo) (hcat : (st.map fun v => v.category).sum ≤ 8) (hc : cells + kc2 ≤ kc) (hs : slots + ks2 ≤ ks) (hstk : stk = As9.reverse ++ .ref o9 :: st)
    (kx : ∀ (E : String) (T2 : List aT) (I2 : aI) (J2 : aJ) (R2 : aR), T <+: T2 → P2 (.inr E) T2 I2 J2 R2 → False) (k : ∀ (v : Option Value) (T2 : List aT) (I2 : aI) (J2 : aJ) (R2 : aR), T <+: T2 → P2 (.inl v) T2 I2 J2 R2 → YW sb X (cells + kc2) (slots + ks2) (pc + 3) L (v.toList ++ st) T2 I2 J2 R2) : YW sb X cells slots pc L stk T I J R := lx_callV (n := 0) (ci := 11) (Tb := TX11) hC rfl hT9 rfl hM hd gC_X11_pending (hy ▸ gL_L_149) gI_X11_pending gE_X11_pending gN_X11 ⟨by decide +kernel, by decide +kernel, by decide +kernel⟩ hn hfr hlo hcat hc hs hstk kx k
theorem kx_185 {y : MethodName} {cc : ByteArray} {nL : Nat} {fr lo kc ks sb N : Nat} {xs : Nat → Int32} {X : aX} {cells slots pc : Nat} {L : List (Option Value)} {st : List Value} {T : List aT} {I : aI} {J : aJ} {R : aR} {kc2 ks2 : Nat} {P2 : aP} {stk : List Value} {o9 : Nat} {As9 : List Value} (hC : YC y cc nL fr lo kc ks sb N xs X) (hy : y.cls = RL) (hM : MX11_differing kc2 ks2 (.ref o9 :: As9) T I J R P2) (hd : decode cc pc = .ok (.invokevirtual 185, 3)) (hT9 : T[o9]? = some (.inr 11)) (hn : As9.length = 0) (hfr : 7 + 1 ≤ fr) (hlo : 8 + (1 + 11) + 157 ≤ lo) (hcat : (st.map fun v => v.category).sum ≤ 8) (hc : cells + kc2 ≤ kc) (hs : slots + ks2 ≤ ks) (hstk : stk = As9.reverse ++ .ref o9 :: st)
    (kx : ∀ (E : String) (T2 : List aT) (I2 : aI) (J2 : aJ) (R2 : aR), T <+: T2 → P2 (.inr E) T2 I2 J2 R2 → False) (k : ∀ (v : Option Value) (T2 : List aT) (I2 : aI) (J2 : aJ) (R2 : aR), T <+: T2 → P2 (.inl v) T2 I2 J2 R2 → YW sb X (cells + kc2) (slots + ks2) (pc + 3) L (v.toList ++ st) T2 I2 J2 R2) : YW sb X cells slots pc L stk T I J R := lx_callV (n := 0) (ci := 11) (Tb := TX11) hC rfl hT9 rfl hM hd gC_X11_differing (hy ▸ gL_L_185) gI_X11_differing gE_X11_differing gN_X11 ⟨by decide +kernel, by decide +kernel, by decide +kernel⟩ hn hfr hlo hcat hc hs hstk kx k
theorem kx_102 {y : MethodName} {cc : ByteArray} {nL : Nat} {fr lo kc ks sb N : Nat} {xs : Nat → Int32} {X : aX} {cells slots pc : Nat} {L : List (Option Value)} {st : List Value} {T : List aT} {I : aI} {J : aJ} {R : aR} {kc2 ks2 : Nat} {P2 : aP} {stk : List Value} {o9 : Nat} {As9 : List Value} (hC : YC y cc nL fr lo kc ks sb N xs X) (hy : y.cls = RL) (hM : MX11_isStale kc2 ks2 (.ref o9 :: As9) T I J R P2) (hd : decode cc pc = .ok (.invokevirtual 102, 3)) (hT9 : T[o9]? = some (.inr 11)) (hn : As9.length = 1) (hfr : 7 + 1 ≤ fr) (hlo : 8 + (2 + 11) + 157 ≤ lo) (hcat : (st.map fun v => v.category).sum ≤ 8) (hc : cells + kc2 ≤ kc) (hs : slots + ks2 ≤ ks) (hstk : stk = As9.reverse ++ .ref o9 :: st)
    (kx : ∀ (E : String) (T2 : List aT) (I2 : aI) (J2 : aJ) (R2 : aR), T <+: T2 → P2 (.inr E) T2 I2 J2 R2 → False) (k : ∀ (v : Option Value) (T2 : List aT) (I2 : aI) (J2 : aJ) (R2 : aR), T <+: T2 → P2 (.inl v) T2 I2 J2 R2 → YW sb X (cells + kc2) (slots + ks2) (pc + 3) L (v.toList ++ st) T2 I2 J2 R2) : YW sb X cells slots pc L stk T I J R := lx_callV (n := 1) (ci := 11) (Tb := TX11) hC rfl hT9 rfl hM hd gC_X11_isStale (hy ▸ gL_L_102) gI_X11_isStale gE_X11_isStale gN_X11 ⟨by decide +kernel, by decide +kernel, by decide +kernel⟩ hn hfr hlo hcat hc hs hstk kx k
theorem kx_98 {y : MethodName} {cc : ByteArray} {nL : Nat} {fr lo kc ks sb N : Nat} {xs : Nat → Int32} {X : aX} {cells slots pc : Nat} {L : List (Option Value)} {st : List Value} {T : List aT} {I : aI} {J : aJ} {R : aR} {kc2 ks2 : Nat} {P2 : aP} {stk : List Value} {o9 : Nat} {As9 : List Value} (hC : YC y cc nL fr lo kc ks sb N xs X) (hy : y.cls = RL) (hM : MX11_approve kc2 ks2 (.ref o9 :: As9) T I J R P2) (hd : decode cc pc = .ok (.invokevirtual 98, 3)) (hT9 : T[o9]? = some (.inr 11)) (hn : As9.length = 2) (hfr : 7 + 1 ≤ fr) (hlo : 8 + (4 + 11) + 101 ≤ lo) (hcat : (st.map fun v => v.category).sum ≤ 8) (hc : cells + kc2 ≤ kc) (hs : slots + ks2 ≤ ks) (hstk : stk = As9.reverse ++ .ref o9 :: st)
    (kx : ∀ (E : String) (T2 : List aT) (I2 : aI) (J2 : aJ) (R2 : aR), T <+: T2 → P2 (.inr E) T2 I2 J2 R2 → False) (k : ∀ (v : Option Value) (T2 : List aT) (I2 : aI) (J2 : aJ) (R2 : aR), T <+: T2 → P2 (.inl v) T2 I2 J2 R2 → YW sb X (cells + kc2) (slots + ks2) (pc + 3) L (v.toList ++ st) T2 I2 J2 R2) : YW sb X cells slots pc L stk T I J R := lx_callV (n := 2) (ci := 11) (Tb := TX11) hC rfl hT9 rfl hM hd gC_X11_approve (hy ▸ gL_L_98) gI_X11_approve gE_X11_approve gN_X11 ⟨by decide +kernel, by decide +kernel, by decide +kernel⟩ hn hfr hlo hcat hc hs hstk kx k
theorem kx_152 {y : MethodName} {cc : ByteArray} {nL : Nat} {fr lo kc ks sb N : Nat} {xs : Nat → Int32} {X : aX} {cells slots pc : Nat} {L : List (Option Value)} {st : List Value} {T : List aT} {I : aI} {J : aJ} {R : aR} {kc2 ks2 : Nat} {P2 : aP} {stk : List Value} {o9 : Nat} {As9 : List Value} (hC : YC y cc nL fr lo kc ks sb N xs X) (hy : y.cls = RL) (hM : MX11_isLocked kc2 ks2 (.ref o9 :: As9) T I J R P2) (hd : decode cc pc = .ok (.invokevirtual 152, 3)) (hT9 : T[o9]? = some (.inr 11)) (hn : As9.length = 0) (hfr : 0 + 1 ≤ fr) (hlo : 8 + (1 + 11) + 0 ≤ lo) (hcat : (st.map fun v => v.category).sum ≤ 8) (hc : cells + kc2 ≤ kc) (hs : slots + ks2 ≤ ks) (hstk : stk = As9.reverse ++ .ref o9 :: st)
    (kx : ∀ (E : String) (T2 : List aT) (I2 : aI) (J2 : aJ) (R2 : aR), T <+: T2 → P2 (.inr E) T2 I2 J2 R2 → False) (k : ∀ (v : Option Value) (T2 : List aT) (I2 : aI) (J2 : aJ) (R2 : aR), T <+: T2 → P2 (.inl v) T2 I2 J2 R2 → YW sb X (cells + kc2) (slots + ks2) (pc + 3) L (v.toList ++ st) T2 I2 J2 R2) : YW sb X cells slots pc L stk T I J R := lx_callV (n := 0) (ci := 11) (Tb := TX11) hC rfl hT9 rfl hM hd gC_X11_isLocked (hy ▸ gL_L_152) gI_X11_isLocked gE_X11_isLocked gN_X11 ⟨by decide +kernel, by decide +kernel, by decide +kernel⟩ hn hfr hlo hcat hc hs hstk kx k
theorem kx_109 {y : MethodName} {cc : ByteArray} {nL : Nat} {fr lo kc ks sb N : Nat} {xs : Nat → Int32} {X : aX} {cells slots pc : Nat} {L : List (Option Value)} {st : List Value} {T : List aT} {I : aI} {J : aJ} {R : aR} {kc2 ks2 : Nat} {P2 : aP} {stk : List Value} {o9 : Nat} {As9 : List Value} (hC : YC y cc nL fr lo kc ks sb N xs X) (hy : y.cls = RL) (hM : MX11_apply kc2 ks2 (.ref o9 :: As9) T I J R P2) (hd : decode cc pc = .ok (.invokevirtual 109, 3)) (hT9 : T[o9]? = some (.inr 11)) (hn : As9.length = 1) (hfr : 7 + 1 ≤ fr) (hlo : 8 + (3 + 11) + 157 ≤ lo) (hcat : (st.map fun v => v.category).sum ≤ 8) (hc : cells + kc2 ≤ kc) (hs : slots + ks2 ≤ ks) (hstk : stk = As9.reverse ++ .ref o9 :: st)
    (kx : ∀ (E : String) (T2 : List aT) (I2 : aI) (J2 : aJ) (R2 : aR), T <+: T2 → P2 (.inr E) T2 I2 J2 R2 → False) (k : ∀ (v : Option Value) (T2 : List aT) (I2 : aI) (J2 : aJ) (R2 : aR), T <+: T2 → P2 (.inl v) T2 I2 J2 R2 → YW sb X (cells + kc2) (slots + ks2) (pc + 3) L (v.toList ++ st) T2 I2 J2 R2) : YW sb X cells slots pc L stk T I J R := lx_callV (n := 1) (ci := 11) (Tb := TX11) hC rfl hT9 rfl hM hd gC_X11_apply (hy ▸ gL_L_109) gI_X11_apply gE_X11_apply gN_X11 ⟨by decide +kernel, by decide +kernel, by decide +kernel⟩ hn hfr hlo hcat hc hs hstk kx k
theorem kx_34 {y : MethodName} {cc : ByteArray} {nL : Nat} {fr lo kc ks sb N : Nat} {xs : Nat → Int32} {X : aX} {cells slots pc : Nat} {L : List (Option Value)} {st : List Value} {T : List aT} {I : aI} {J : aJ} {R : aR} {kc2 ks2 : Nat} {P2 : aP} {stk : List Value} {o9 : Nat} {As9 : List Value} (hC : YC y cc nL fr lo kc ks sb N xs X) (hy : y.cls = RL) (hM : MX11_pass kc2 ks2 (.ref o9 :: As9) T I J R P2) (hd : decode cc pc = .ok (.invokevirtual 34, 3)) (hT9 : T[o9]? = some (.inr 11)) (hn : As9.length = 1) (hfr : 7 + 1 ≤ fr) (hlo : 8 + (2 + 11) + 101 ≤ lo) (hcat : (st.map fun v => v.category).sum ≤ 8) (hc : cells + kc2 ≤ kc) (hs : slots + ks2 ≤ ks) (hstk : stk = As9.reverse ++ .ref o9 :: st)
    (kx : ∀ (E : String) (T2 : List aT) (I2 : aI) (J2 : aJ) (R2 : aR), T <+: T2 → P2 (.inr E) T2 I2 J2 R2 → False) (k : ∀ (v : Option Value) (T2 : List aT) (I2 : aI) (J2 : aJ) (R2 : aR), T <+: T2 → P2 (.inl v) T2 I2 J2 R2 → YW sb X (cells + kc2) (slots + ks2) (pc + 3) L (v.toList ++ st) T2 I2 J2 R2) : YW sb X cells slots pc L stk T I J R := lx_callV (n := 1) (ci := 11) (Tb := TX11) hC rfl hT9 rfl hM hd gC_X11_pass (hy ▸ gL_L_34) gI_X11_pass gE_X11_pass gN_X11 ⟨by decide +kernel, by decide +kernel, by decide +kernel⟩ hn hfr hlo hcat hc hs hstk kx k
theorem kx_162 {y : MethodName} {cc : ByteArray} {nL : Nat} {fr lo kc ks sb N : Nat} {xs : Nat → Int32} {X : aX} {cells slots pc : Nat} {L : List (Option Value)} {st : List Value} {T : List aT} {I : aI} {J : aJ} {R : aR} {kc2 ks2 : Nat} {As : List Value} {P2 : aP} {stk : List Value} (hC : YC y cc nL fr lo kc ks sb N xs X) (hy : y.cls = RL) (hM : ML_refuses kc2 ks2 As T I J R P2) (hd : decode cc pc = .ok (.invokestatic 162, 3)) (hn : As.length = 5) (hfr : 10 + 1 ≤ fr) (hlo : 8 + (24 + 11) + 230 ≤ lo) (hcat : (st.map fun v => v.category).sum ≤ 8) (hc : cells + kc2 ≤ kc) (hs : slots + ks2 ≤ ks) (hstk : stk = As.reverse ++ st)
    (kx : ∀ (E : String) (T2 : List aT) (I2 : aI) (J2 : aJ) (R2 : aR), T <+: T2 → P2 (.inr E) T2 I2 J2 R2 → False) (k : ∀ (v : Option Value) (T2 : List aT) (I2 : aI) (J2 : aJ) (R2 : aR), T <+: T2 → P2 (.inl v) T2 I2 J2 R2 → YW sb X (cells + kc2) (slots + ks2) (pc + 3) L (v.toList ++ st) T2 I2 J2 R2) : YW sb X cells slots pc L stk T I J R := lx_callS (n := 5) hC hM hd gC_L_refuses (hy ▸ gL_L_162) gS_L_refuses gN_L ⟨by decide +kernel, by decide +kernel, by decide +kernel⟩ hn hfr hlo hcat hc hs hstk kx k
theorem kx_20 {y : MethodName} {cc : ByteArray} {nL : Nat} {fr lo kc ks sb N : Nat} {xs : Nat → Int32} {X : aX} {cells slots pc : Nat} {L : List (Option Value)} {st : List Value} {T : List aT} {I : aI} {J : aJ} {R : aR} {kc2 ks2 : Nat} {P2 : aP} {stk : List Value} {o9 : Nat} {As9 : List Value} (hC : YC y cc nL fr lo kc ks sb N xs X) (hy : y.cls = RL) (hM : MX11_remove kc2 ks2 (.ref o9 :: As9) T I J R P2) (hd : decode cc pc = .ok (.invokevirtual 20, 3)) (hT9 : T[o9]? = some (.inr 11)) (hn : As9.length = 1) (hfr : 7 + 1 ≤ fr) (hlo : 8 + (3 + 11) + 157 ≤ lo) (hcat : (st.map fun v => v.category).sum ≤ 8) (hc : cells + kc2 ≤ kc) (hs : slots + ks2 ≤ ks) (hstk : stk = As9.reverse ++ .ref o9 :: st)
    (kx : ∀ (E : String) (T2 : List aT) (I2 : aI) (J2 : aJ) (R2 : aR), T <+: T2 → P2 (.inr E) T2 I2 J2 R2 → False) (k : ∀ (v : Option Value) (T2 : List aT) (I2 : aI) (J2 : aJ) (R2 : aR), T <+: T2 → P2 (.inl v) T2 I2 J2 R2 → YW sb X (cells + kc2) (slots + ks2) (pc + 3) L (v.toList ++ st) T2 I2 J2 R2) : YW sb X cells slots pc L stk T I J R := lx_callV (n := 1) (ci := 11) (Tb := TX11) hC rfl hT9 rfl hM hd gC_X11_remove (hy ▸ gL_L_20) gI_X11_remove gE_X11_remove gN_X11 ⟨by decide +kernel, by decide +kernel, by decide +kernel⟩ hn hfr hlo hcat hc hs hstk kx k
