/-! THE TYPED STORE: things by numbers 0, 1, 2 ..; a tag says what each is, three functions what it holds -/
abbrev aT : Type := (FieldType × Nat) ⊕ Nat
abbrev aI : Type := Nat → Nat → Int32
abbrev aJ : Type := Nat → Nat → Int64
abbrev aR : Type := Nat → Nat → Option Nat
def a_u {α : Type} (f : Nat → Nat → α) (o k : Nat) (v : α) : Nat → Nat → α := fun a b => if a = o ∧ b = k then v else f a b
def a_fty (ci : Nat) : Nat → FieldType := match ci with
  | 0 => tyX0 | 1 => tyX1 | 2 => tyX2 | 3 => tyX3 | 4 => tyX4 | 5 => tyX5 | 6 => tyX6 | 7 => tyX7 | 8 => tyX8 | 9 => tyX9 | 10 => tyX10 | _ => tyX11
def a_nf (ci : Nat) : Nat := match ci with
  | 0 => 8 | 1 => 10 | 2 => 7 | 3 => 5 | 4 => 10 | 5 => 4 | 6 => 5 | 7 => 1 | 8 => 12 | 9 => 4 | 10 => 14 | _ => 10
def a_fv (ad : Nat → Nat) (I : aI) (J : aJ) (R : aR) (o k : Nat) (ty : FieldType) : Value := match ty with
  | .long => .long (J o k)
  | .object _ => va_rf ((R o k).map ad)
  | .array _ => va_rf ((R o k).map ad)
  | _ => .int (I o k)
def a_av (ad : Nat → Nat) (I : aI) (J : aJ) (R : aR) (o : Nat) (ty : FieldType) : (Nat → Int32) ⊕ (Nat → Int64) ⊕ (Nat → UInt32) ⊕ (Nat → UInt64) ⊕ (Nat → Option Nat) := match ty with
  | .long => .inr (.inl (J o))
  | .object _ => .inr (.inr (.inr (.inr (fun k => (R o k).map ad))))
  | .array _ => .inr (.inr (.inr (.inr (fun k => (R o k).map ad))))
  | _ => .inl (I o)
def a_cell (ad : Nat → Nat) (I : aI) (J : aJ) (R : aR) (o : Nat) (t : aT) (cA : ClassId) : va_E := match t with
  | .inr ci => .inr (ci, (List.range (a_nf ci)).map (fun k => a_fv ad I J R o k (a_fty ci k)))
  | .inl (ty, n) => .inl (cA, n, a_av ad I J R o ty)
def a_rel (T : List aT) (I : aI) (J : aJ) (R : aR) (tys : List (ClassId × FieldType)) (ad : Nat → Nat) (ws : va_W) : Prop :=
  ws.length = T.length ∧ ∀ (i : Nat) (t : aT), T[i]? = some t → ∃ cA : ClassId, ws[i]? = some (ad i, a_cell ad I J R i t cA) ∧ ∀ (ty : FieldType) (n : Nat), t = .inl (ty, n) → ∃ t0 : Nat, tys[t0]? = some (cA, ty)
def a_ok (n : Nat) (I : aI) (J : aJ) (R : aR) : Prop := (∀ o k q : Nat, R o k = some q → q < n) ∧ ∀ o : Nat, n ≤ o → I o = (fun _ => 0) ∧ J o = (fun _ => 0) ∧ R o = fun _ => none
def a_okv (n : Nat) (v : Value) : Prop := ∀ q : Nat, v = .ref q → q < n
def a_okL (n : Nat) (L : List (Option Value)) : Prop := ∀ v : Value, some v ∈ L → a_okv n v
def a_okS (n : Nat) (st : List Value) : Prop := ∀ v ∈ st, a_okv n v
def a_cv (ad : Nat → Nat) (v : Value) : Value := match v with
  | .ref q => .ref (ad q)
  | w => w
def a_lv (ad : Nat → Nat) (L : List (Option Value)) : List (Nat × Value) := L.zipIdx.filterMap (fun q => q.1.map (fun v => (q.2, a_cv ad v)))
/-- storing into the locals -/
def a_c2 (o : Option (Option Value)) : Bool := match o with
  | some (some v) => v.category == 2
  | _ => false
def a_pre (L : List (Option Value)) (i : Nat) : List (Option Value) := match i with
  | 0 => L
  | j + 1 => if a_c2 L[j]? then L.set j none else L
def a_set (L : List (Option Value)) (i : Nat) (v : Value) : List (Option Value) := (a_pre L i).set i (some v)
def a_set2 (L : List (Option Value)) (i : Nat) (v : Value) : List (Option Value) := ((a_pre L i).set i (some v)).set (i + 1) none
theorem a_lv_mem {ad : Nat → Nat} {L : List (Option Value)} {q : Nat × Value} : q ∈ a_lv ad L ↔ ∃ v : Value, L[q.1]? = some (some v) ∧ q.2 = a_cv ad v := by
  obtain ⟨i, w⟩ := q
  simp only [a_lv, List.mem_filterMap, Option.map_eq_some_iff]
  constructor
  · rintro ⟨⟨o, j⟩, h1, v, h2, h3⟩
    simp only [Prod.mk.injEq] at h3
    obtain ⟨rfl, rfl⟩ := h3
    rw [List.mk_mem_zipIdx_iff_getElem?] at h1
    dsimp only at h2
    subst h2
    exact ⟨v, h1, rfl⟩
  · rintro ⟨v, h1, h2⟩
    exact ⟨(some v, i), List.mk_mem_zipIdx_iff_getElem?.mpr h1, v, rfl, by rw [h2]⟩
theorem a_lvat {ls : Array Slot} {nL : Nat} {ad : Nat → Nat} {L : List (Option Value)} {i : Nat} {v : Value} (h : lv_has ls nL (a_lv ad L)) (hL : L[i]? = some (some v)) : ls[i]? = some (.val (a_cv ad v)) :=
  h.2.2 (i, a_cv ad v) (a_lv_mem.mpr ⟨v, hL, rfl⟩)
theorem a_lv_le {ls : Array Slot} {nL : Nat} {l l' : List (Nat × Value)} (h : lv_has ls nL l) (hs : ∀ q ∈ l', q ∈ l) : lv_has ls nL l' := ⟨h.1, h.2.1, fun q hq => h.2.2 q (hs q hq)⟩
theorem a_pre_at {L : List (Option Value)} {i j : Nat} {v : Value} (h : (a_pre L i)[j]? = some (some v)) : L[j]? = some (some v) ∧ ¬ (j + 1 = i ∧ v.category = 2) := by
  unfold a_pre at h
  cases i with
  | zero => exact ⟨h, fun q => by omega⟩
  | succ i =>
    dsimp only at h
    by_cases hc : a_c2 L[i]? = true
    · rw [if_pos hc] at h
      rw [List.getElem?_set] at h
      by_cases e : i = j
      · rw [if_pos e] at h
        split at h <;> simp at h
      · rw [if_neg e] at h
        exact ⟨h, fun q => e (by omega)⟩
    · rw [if_neg hc] at h
      refine ⟨h, fun q => hc ?_⟩
      have e : i = j := by omega
      subst e
      rw [h]
      simp [a_c2, q.2]
theorem a_cat {ad : Nat → Nat} {v : Value} : (a_cv ad v).category = v.category := by cases v <;> rfl
theorem a_lv_set {ad : Nat → Nat} {L : List (Option Value)} {i : Nat} {v : Value} : ∀ q ∈ a_lv ad (a_set L i v), q ∈ (i, a_cv ad v) :: (a_lv ad L).filter (fun q => !(q.1 == i) && !(q.1 + 1 == i && q.2.category == 2)) := by
  rintro ⟨j, w⟩ hq
  obtain ⟨v1, h1, h2⟩ := a_lv_mem.mp hq
  dsimp only at h1 h2
  rw [a_set, List.getElem?_set] at h1
  by_cases e : i = j
  · rw [if_pos e] at h1
    split at h1
    · cases h1
      subst e
      rw [h2]
      exact List.mem_cons_self
    · simp at h1
  · rw [if_neg e] at h1
    obtain ⟨g1, g2⟩ := a_pre_at h1
    refine List.mem_cons_of_mem _ (List.mem_filter.mpr ⟨a_lv_mem.mpr ⟨v1, g1, h2⟩, ?_⟩)
    have e1 : (j == i) = false := by simpa using fun q => e q.symm
    have e2 : (j + 1 == i && w.category == 2) = false := by
      rw [h2, a_cat]
      by_cases a : j + 1 = i
      · by_cases b : v1.category = 2
        · exact absurd ⟨a, b⟩ g2
        · simp [b]
      · simp [a]
    show (!(j == i) && !(j + 1 == i && w.category == 2)) = true
    rw [e1, e2]; rfl
theorem a_lv_set2 {ad : Nat → Nat} {L : List (Option Value)} {i : Nat} {v : Value} : ∀ q ∈ a_lv ad (a_set2 L i v), q ∈ (i, a_cv ad v) :: (a_lv ad L).filter (fun q => !(q.1 == i) && (!(q.1 == i + 1) && !(q.1 + 1 == i && q.2.category == 2))) := by
  rintro ⟨j, w⟩ hq
  obtain ⟨v1, h1, h2⟩ := a_lv_mem.mp hq
  dsimp only at h1 h2
  rw [a_set2, List.getElem?_set] at h1
  by_cases e0 : i + 1 = j
  · rw [if_pos e0] at h1
    split at h1 <;> simp at h1
  rw [if_neg e0, List.getElem?_set] at h1
  by_cases e : i = j
  · rw [if_pos e] at h1
    split at h1
    · cases h1
      subst e
      rw [h2]
      exact List.mem_cons_self
    · simp at h1
  · rw [if_neg e] at h1
    obtain ⟨g1, g2⟩ := a_pre_at h1
    refine List.mem_cons_of_mem _ (List.mem_filter.mpr ⟨a_lv_mem.mpr ⟨v1, g1, h2⟩, ?_⟩)
    have e1 : (j == i) = false := by simpa using fun q => e q.symm
    have e3 : (j == i + 1) = false := by simpa using fun q => e0 q.symm
    have e2 : (j + 1 == i && w.category == 2) = false := by
      rw [h2, a_cat]
      by_cases a : j + 1 = i
      · by_cases b : v1.category = 2
        · exact absurd ⟨a, b⟩ g2
        · simp [b]
      · simp [a]
    show (!(j == i) && (!(j == i + 1) && !(j + 1 == i && w.category == 2))) = true
    rw [e1, e2, e3]; rfl
theorem a_okS_nil {n : Nat} : a_okS n [] := fun _ h => nomatch h
theorem a_okS_cons {n : Nat} {v : Value} {st : List Value} (h1 : a_okv n v) (h : a_okS n st) : a_okS n (v :: st) := fun w hw => by
  rcases List.mem_cons.mp hw with rfl | hw
  · exact h1
  · exact h w hw
theorem a_okS_hd {n : Nat} {v : Value} {st : List Value} (h : a_okS n (v :: st)) : a_okv n v := h v List.mem_cons_self
theorem a_okS_tl {n : Nat} {v : Value} {st : List Value} (h : a_okS n (v :: st)) : a_okS n st := fun w hw => h w (List.mem_cons_of_mem _ hw)
theorem a_okv_int {n : Nat} {x : Int32} : a_okv n (.int x) := fun _ h => nomatch h
theorem a_okv_long {n : Nat} {x : Int64} : a_okv n (.long x) := fun _ h => nomatch h
theorem a_okv_null {n : Nat} : a_okv n .null := fun _ h => nomatch h
theorem a_okv_ref {n q : Nat} (h : q < n) : a_okv n (.ref q) := fun _ e => by cases e; exact h
theorem a_okL_at {n i : Nat} {v : Value} {L : List (Option Value)} (h : a_okL n L) (hL : L[i]? = some (some v)) : a_okv n v := h v (List.mem_of_getElem? hL)
theorem a_okL_pre {n i : Nat} {L : List (Option Value)} (h : a_okL n L) : a_okL n (a_pre L i) := by
  intro w hw
  obtain ⟨j, hj⟩ := List.getElem?_of_mem hw
  exact h w (List.mem_of_getElem? (a_pre_at hj).1)
theorem a_okL_sets {n i : Nat} {o : Option Value} {L : List (Option Value)} (h : a_okL n L) (ho : ∀ v, o = some v → a_okv n v) : a_okL n (L.set i o) := by
  intro w hw
  rcases List.mem_or_eq_of_mem_set hw with q | q
  · exact h w q
  · exact ho w q.symm
theorem a_okL_set {n i : Nat} {v : Value} {L : List (Option Value)} (h : a_okL n L) (hv : a_okv n v) : a_okL n (a_set L i v) := a_okL_sets (a_okL_pre h) (fun w e => by cases e; exact hv)
theorem a_okL_set2 {n i : Nat} {v : Value} {L : List (Option Value)} (h : a_okL n L) (hv : a_okv n v) : a_okL n (a_set2 L i v) := a_okL_sets (a_okL_sets (a_okL_pre h) (fun w e => by cases e; exact hv)) (fun w e => nomatch e)
theorem a_okv_le {n n' : Nat} {v : Value} (h : n ≤ n') (hv : a_okv n v) : a_okv n' v := fun q e => Nat.lt_of_lt_of_le (hv q e) h
theorem a_okS_le {n n' : Nat} {st : List Value} (h : n ≤ n') (hv : a_okS n st) : a_okS n' st := fun v e => a_okv_le h (hv v e)
theorem a_okL_le {n n' : Nat} {L : List (Option Value)} (h : n ≤ n') (hv : a_okL n L) : a_okL n' L := fun v e => a_okv_le h (hv v e)
theorem a_okS_app {n : Nat} {a b : List Value} (h1 : a_okS n a) (h2 : a_okS n b) : a_okS n (a ++ b) := fun v hv => (List.mem_append.mp hv).elim (h1 v) (h2 v)
theorem a_okS_left {n : Nat} {a b : List Value} (h : a_okS n (a ++ b)) : a_okS n a := fun v hv => h v (List.mem_append_left _ hv)
theorem a_okS_right {n : Nat} {a b : List Value} (h : a_okS n (a ++ b)) : a_okS n b := fun v hv => h v (List.mem_append_right _ hv)
theorem a_okS_rev {n : Nat} {a : List Value} (h : a_okS n a.reverse) : a_okS n a := fun v hv => h v (List.mem_reverse.mpr hv)
theorem a_cv_le {ad ad' : Nat → Nat} {n : Nat} {v : Value} (h : ∀ i, i < n → ad' i = ad i) (hv : a_okv n v) : a_cv ad' v = a_cv ad v := by
  cases v <;> try rfl
  rename_i q
  show Value.ref (ad' q) = Value.ref (ad q)
  rw [h q (hv q rfl)]
theorem a_cvS_le {ad ad' : Nat → Nat} {n : Nat} : ∀ {st : List Value}, (∀ i, i < n → ad' i = ad i) → a_okS n st → st.map (a_cv ad') = st.map (a_cv ad)
  | [], _, _ => rfl
  | v :: st, h, hv => by rw [List.map_cons, List.map_cons, a_cv_le h (a_okS_hd hv), a_cvS_le h (a_okS_tl hv)]
theorem a_lv_eq {ad ad' : Nat → Nat} {n : Nat} {L : List (Option Value)} (h : ∀ i, i < n → ad' i = ad i) (hv : a_okL n L) : ∀ q ∈ a_lv ad' L, q ∈ a_lv ad L := by
  intro q hq
  obtain ⟨v, h1, h2⟩ := a_lv_mem.mp hq
  exact a_lv_mem.mpr ⟨v, h1, by rw [h2, a_cv_le h (a_okL_at hv h1)]⟩
/-! WORDS: the good ones of the tables; the few others as a predicate of the state -/
def a_G : List Cond := lw_tbl.filter goodWord
theorem a_G_in {w : Cond} (h : w ∈ lw_tbl) (hg : goodWord w = true) : w ∈ a_G := List.mem_filter.mpr ⟨h, hg⟩
theorem a_G_good : GoodIn a_G a_G := fun w h => ⟨h, good_of_word (List.mem_filter.mp h).2⟩
def a_B : List Cond := [.castable "java/lang/IndexOutOfBoundsException" "java/lang/IndexOutOfBoundsException", .castable "java/lang/IllegalArgumentException" "java/lang/IllegalArgumentException", .castable "java/lang/IllegalStateException" "java/lang/IllegalStateException", .castable "[I" "java/lang/Cloneable",
  .declares ⟨"java/lang/RuntimeException", "<init>", "()V"⟩, .declares ⟨"java/lang/Exception", "<init>", "()V"⟩, .declares ⟨"java/lang/Throwable", "<init>", "()V"⟩]
def a_N (U : State) : Prop :=
  va_Nw (.methodLinkNest "Layerwright$Values" 11 yX7_init "Layerwright") U ∧ va_Nw (.methodLinkNest "Layerwright$Estate" 52 yX11_isBelow "Layerwright") U ∧ va_Nw (.methodLinkNest "Layerwright$Estate" 43 yX9_init "Layerwright") U ∧
  (∀ C ∈ (["Layerwright$Statement", "Layerwright$Plan", "Layerwright$Type", "Layerwright$Generator", "Layerwright$Entry"] : List String), va_AO C U) ∧
  (∀ w ∈ a_B, va_Nw w U) ∧
  (∀ C ∈ (["java/lang/IndexOutOfBoundsException", "java/lang/IllegalArgumentException", "java/lang/IllegalStateException"] : List String), ∀ D ∈ (["java/lang/IndexOutOfBoundsException", "java/lang/IllegalArgumentException", "java/lang/IllegalStateException"] : List String), C ≠ D → va_Nc C D U)
theorem a_B_moved {s U : State} (hW : s.WarmedH U.vm) : ∀ w ∈ a_B, va_Nw w s → va_Nw w U := by
  intro w hw h
  simp only [a_B, List.mem_cons, List.not_mem_nil, or_false] at hw
  rcases hw with rfl | rfl | rfl | rfl | rfl | rfl | rfl
  · exact va_Nw.warmC hW h
  · exact va_Nw.warmC hW h
  · exact va_Nw.warmC hW h
  · exact va_Nw.warmC hW h
  · exact va_Nw.warmD hW h
  · exact va_Nw.warmD hW h
  · exact va_Nw.warmD hW h
theorem a_B_use {w : Cond} {s : State} {args : Array Value} (hw : w ∈ a_B) (h : va_Nw w s) : w.before args s = true := by
  refine va_Nw.use ?_ h
  simp only [a_B, List.mem_cons, List.not_mem_nil, or_false] at hw
  rcases hw with rfl | rfl | rfl | rfl | rfl | rfl | rfl <;> rfl
theorem a_N_moved {s U : State} (hW : s.WarmedH U.vm) (h : a_N s) : a_N U := by
  obtain ⟨a1, a2, a3, a4, a5, a6⟩ := h
  exact ⟨va_Nw.warmM hW a1, va_Nw.warmM hW a2, va_Nw.warmM hW a3, fun C hC => va_AO.moved hW.alike (a4 C hC), fun w hw => a_B_moved hW w hw (a5 w hw), fun C hC D hD hne => va_Nc.moved hW.alike (a6 C hC D hD hne)⟩
/-! THE JUDGEMENT -/
abbrev aX : Type := Program × Launch × Env × Room × State × MethodId × Array Value × List Frame × Method × Code × (State → Prop) × (Nat → Prop) × va_G × (Nat → Nat) × List aT
def aZ (A : Nat → Prop) (U : State) : Prop := vx_Zq Bundle.tN "UNASSIGNED_STACK" Bundle.steD A U U.heap ∧ vx_Zq Bundle.tN "SUPPRESSED_SENTINEL" Bundle.listD A U U.heap
/-- what a body stands in: its code, its class, the words, its room -/
def aC (y : MethodName) (cc : ByteArray) (nL : Nat) (ret : Option FieldType) (fr lo kc ks : Nat) (hh : List (Nat × Nat × Nat × Nat)) (X : aX) : Prop := match X with
  | (p, l, e, Rm, s, m, args, below, meth, c, Q, A, D, ad0, T0) =>
    (p.tables.exec = Jvm.exec ∧ c.code = cc ∧ c.maxLocals = nL ∧ s.vm.findClass y.cls = some m.cls ∧ ∀ w ∈ a_G, w.before args s = true) ∧ meth.sig.returnType = ret ∧ meth.locks = false ∧ meth.name = y.name ∧ l.stackTraces = false ∧
    Rm.frames = fr ∧ Rm.locals = lo ∧ Rm.cells = kc ∧ Rm.slots = ks ∧ c.exceptionTable.toList = tableOf hh ∧ (∀ q, s.heap.size ≤ q → A q) ∧ a_N s ∧ aZ A s
def AW (X : aX) (cells slots pc : Nat) (L : List (Option Value)) (st : List Value) (T : List aT) (I : aI) (J : aJ) (R : aR) : Prop := match X with
  | (p, l, e, Rm, s, m, args, below, meth, c, Q, A, D, ad0, T0) =>
    ∀ (tys : List (ClassId × FieldType)) (ad : Nat → Nat) (ws : va_W) (H : Heap) (locs : List Loc) (ls : Array Slot), a_rel T I J R tys ad ws → a_ok T.length I J R → a_okL T.length L → a_okS T.length st → T0 <+: T → (∀ i, i < T0.length → ad i = ad0 i) →
      va_K D vwCl tys s → va_P D vwCl ws H → va_D A ws → va_S A s.heap H locs → lv_has ls c.maxLocals (a_lv ad L) → W p l e Rm s m args below meth c H locs cells slots Q (F0 m pc ls (st.map (a_cv ad)))
section AWROWS
variable {y : MethodName} {cc : ByteArray} {nL : Nat} {ret : Option FieldType} {fr lo kc ks : Nat} {hh : List (Nat × Nat × Nat × Nat)} {X : aX} {cells slots pc : Nat} {L : List (Option Value)} {st : List Value} {T : List aT} {I : aI} {J : aJ} {R : aR}
theorem aw_iconst {n : Int} {v : Int32} (hC : aC y cc nL ret fr lo kc ks hh X) (hd : decode cc pc = .ok (.iconst n, 1)) (hv : Int32.ofInt n = v) (k : AW X cells slots (pc + 1) L (.int v :: st) T I J R) : AW X cells slots pc L st T I J R := by
  obtain ⟨p, l, e, Rm, s, m, args, below, meth, c, Q, A, D, ad0, T0⟩ := X
  obtain ⟨⟨hx, hb, hml, hown, hts⟩, hr, hlocks, hname, hl9, hf1, hf2, hf3, hf4, htab, hA, hN, hZ⟩ := hC
  intro tys ad ws H locs ls h1 h2 h3 h4 h5 h6 hK hP hD hS hl
  exact lv_iconst hx hb hd hv (k tys ad ws H locs ls h1 h2 h3 (a_okS_cons a_okv_int h4) h5 h6 hK hP hD hS hl)
theorem aw_bipush {n : Int} {v : Int32} (hC : aC y cc nL ret fr lo kc ks hh X) (hd : decode cc pc = .ok (.bipush n, 2)) (hv : (Int8.ofInt n).toInt32 = v) (k : AW X cells slots (pc + 2) L (.int v :: st) T I J R) : AW X cells slots pc L st T I J R := by
  obtain ⟨p, l, e, Rm, s, m, args, below, meth, c, Q, A, D, ad0, T0⟩ := X
  obtain ⟨⟨hx, hb, hml, hown, hts⟩, hr, hlocks, hname, hl9, hf1, hf2, hf3, hf4, htab, hA, hN, hZ⟩ := hC
  intro tys ad ws H locs ls h1 h2 h3 h4 h5 h6 hK hP hD hS hl
  exact lv_bipush hx hb hd hv (k tys ad ws H locs ls h1 h2 h3 (a_okS_cons a_okv_int h4) h5 h6 hK hP hD hS hl)
theorem aw_sipush {n : Int} {v : Int32} (hC : aC y cc nL ret fr lo kc ks hh X) (hd : decode cc pc = .ok (.sipush n, 3)) (hv : (Int16.ofInt n).toInt32 = v) (k : AW X cells slots (pc + 3) L (.int v :: st) T I J R) : AW X cells slots pc L st T I J R := by
  obtain ⟨p, l, e, Rm, s, m, args, below, meth, c, Q, A, D, ad0, T0⟩ := X
  obtain ⟨⟨hx, hb, hml, hown, hts⟩, hr, hlocks, hname, hl9, hf1, hf2, hf3, hf4, htab, hA, hN, hZ⟩ := hC
  intro tys ad ws H locs ls h1 h2 h3 h4 h5 h6 hK hP hD hS hl
  exact lv_sipush hx hb hd hv (k tys ad ws H locs ls h1 h2 h3 (a_okS_cons a_okv_int h4) h5 h6 hK hP hD hS hl)
theorem aw_lconst {n : Fin 2} {v : Int64} (hC : aC y cc nL ret fr lo kc ks hh X) (hd : decode cc pc = .ok (.lconst n, 1)) (hv : Int64.ofNat (n : Nat) = v) (k : AW X cells slots (pc + 1) L (.long v :: st) T I J R) : AW X cells slots pc L st T I J R := by
  obtain ⟨p, l, e, Rm, s, m, args, below, meth, c, Q, A, D, ad0, T0⟩ := X
  obtain ⟨⟨hx, hb, hml, hown, hts⟩, hr, hlocks, hname, hl9, hf1, hf2, hf3, hf4, htab, hA, hN, hZ⟩ := hC
  intro tys ad ws H locs ls h1 h2 h3 h4 h5 h6 hK hP hD hS hl
  exact lv_lconst hx hb hd hv (k tys ad ws H locs ls h1 h2 h3 (a_okS_cons a_okv_long h4) h5 h6 hK hP hD hS hl)
theorem aw_ldc {i : Nat} {v : Int32} (hC : aC y cc nL ret fr lo kc ks hh X) (hd : decode cc pc = .ok (.ldc i, 2)) (hw : Cond.constant y.cls i v ∈ a_G) (k : AW X cells slots (pc + 2) L (.int v :: st) T I J R) : AW X cells slots pc L st T I J R := by
  obtain ⟨p, l, e, Rm, s, m, args, below, meth, c, Q, A, D, ad0, T0⟩ := X
  obtain ⟨⟨hx, hb, hml, hown, hts⟩, hr, hlocks, hname, hl9, hf1, hf2, hf3, hf4, htab, hA, hN, hZ⟩ := hC
  intro tys ad ws H locs ls h1 h2 h3 h4 h5 h6 hK hP hD hS hl
  exact lv_ldc hx hb hown (hts _ hw) hd (k tys ad ws H locs ls h1 h2 h3 (a_okS_cons a_okv_int h4) h5 h6 hK hP hD hS hl)
theorem aw_ldc_w {i : Nat} {v : Int32} (hC : aC y cc nL ret fr lo kc ks hh X) (hd : decode cc pc = .ok (.ldc_w i, 3)) (hw : Cond.constant y.cls i v ∈ a_G) (k : AW X cells slots (pc + 3) L (.int v :: st) T I J R) : AW X cells slots pc L st T I J R := by
  obtain ⟨p, l, e, Rm, s, m, args, below, meth, c, Q, A, D, ad0, T0⟩ := X
  obtain ⟨⟨hx, hb, hml, hown, hts⟩, hr, hlocks, hname, hl9, hf1, hf2, hf3, hf4, htab, hA, hN, hZ⟩ := hC
  intro tys ad ws H locs ls h1 h2 h3 h4 h5 h6 hK hP hD hS hl
  exact lv_ldcw hx hb hown (hts _ hw) hd (k tys ad ws H locs ls h1 h2 h3 (a_okS_cons a_okv_int h4) h5 h6 hK hP hD hS hl)
theorem aw_ldc2 {i : Nat} {v : Int64} (hC : aC y cc nL ret fr lo kc ks hh X) (hd : decode cc pc = .ok (.ldc2_w i, 3)) (hw : Cond.constantLong y.cls i v ∈ a_G) (k : AW X cells slots (pc + 3) L (.long v :: st) T I J R) : AW X cells slots pc L st T I J R := by
  obtain ⟨p, l, e, Rm, s, m, args, below, meth, c, Q, A, D, ad0, T0⟩ := X
  obtain ⟨⟨hx, hb, hml, hown, hts⟩, hr, hlocks, hname, hl9, hf1, hf2, hf3, hf4, htab, hA, hN, hZ⟩ := hC
  intro tys ad ws H locs ls h1 h2 h3 h4 h5 h6 hK hP hD hS hl
  exact lv_ldc2 hx hb hown (hts _ hw) hd (k tys ad ws H locs ls h1 h2 h3 (a_okS_cons a_okv_long h4) h5 h6 hK hP hD hS hl)
theorem aw_null  (hC : aC y cc nL ret fr lo kc ks hh X) (hd : decode cc pc = .ok (.aconst_null, 1)) (k : AW X cells slots (pc + 1) L (.null :: st) T I J R) : AW X cells slots pc L st T I J R := by
  obtain ⟨p, l, e, Rm, s, m, args, below, meth, c, Q, A, D, ad0, T0⟩ := X
  obtain ⟨⟨hx, hb, hml, hown, hts⟩, hr, hlocks, hname, hl9, hf1, hf2, hf3, hf4, htab, hA, hN, hZ⟩ := hC
  intro tys ad ws H locs ls h1 h2 h3 h4 h5 h6 hK hP hD hS hl
  exact lv_null hx hb hd (k tys ad ws H locs ls h1 h2 h3 (a_okS_cons a_okv_null h4) h5 h6 hK hP hD hS hl)
theorem aw_iload_n {k0 : Fin 4} {x : Int32} (hC : aC y cc nL ret fr lo kc ks hh X) (hd : decode cc pc = .ok (.iload_n k0, 1)) (hL : L[(k0 : Nat)]? = some (some (.int x))) (k : AW X cells slots (pc + 1) L (.int x :: st) T I J R) : AW X cells slots pc L st T I J R := by
  obtain ⟨p, l, e, Rm, s, m, args, below, meth, c, Q, A, D, ad0, T0⟩ := X
  obtain ⟨⟨hx, hb, hml, hown, hts⟩, hr, hlocks, hname, hl9, hf1, hf2, hf3, hf4, htab, hA, hN, hZ⟩ := hC
  intro tys ad ws H locs ls h1 h2 h3 h4 h5 h6 hK hP hD hS hl
  exact lv_iload_n hx hb hd rfl (a_lvat hl hL) (k tys ad ws H locs ls h1 h2 h3 (a_okS_cons a_okv_int h4) h5 h6 hK hP hD hS hl)
theorem aw_iload {i : Nat} {x : Int32} (hC : aC y cc nL ret fr lo kc ks hh X) (hd : decode cc pc = .ok (.iload i, 2)) (hL : L[i]? = some (some (.int x))) (k : AW X cells slots (pc + 2) L (.int x :: st) T I J R) : AW X cells slots pc L st T I J R := by
  obtain ⟨p, l, e, Rm, s, m, args, below, meth, c, Q, A, D, ad0, T0⟩ := X
  obtain ⟨⟨hx, hb, hml, hown, hts⟩, hr, hlocks, hname, hl9, hf1, hf2, hf3, hf4, htab, hA, hN, hZ⟩ := hC
  intro tys ad ws H locs ls h1 h2 h3 h4 h5 h6 hK hP hD hS hl
  exact lv_iload hx hb hd (a_lvat hl hL) (k tys ad ws H locs ls h1 h2 h3 (a_okS_cons a_okv_int h4) h5 h6 hK hP hD hS hl)
theorem aw_lload_n {k0 : Fin 4} {x : Int64} (hC : aC y cc nL ret fr lo kc ks hh X) (hd : decode cc pc = .ok (.lload_n k0, 1)) (hL : L[(k0 : Nat)]? = some (some (.long x))) (k : AW X cells slots (pc + 1) L (.long x :: st) T I J R) : AW X cells slots pc L st T I J R := by
  obtain ⟨p, l, e, Rm, s, m, args, below, meth, c, Q, A, D, ad0, T0⟩ := X
  obtain ⟨⟨hx, hb, hml, hown, hts⟩, hr, hlocks, hname, hl9, hf1, hf2, hf3, hf4, htab, hA, hN, hZ⟩ := hC
  intro tys ad ws H locs ls h1 h2 h3 h4 h5 h6 hK hP hD hS hl
  exact lv_lload_n hx hb hd rfl (a_lvat hl hL) (k tys ad ws H locs ls h1 h2 h3 (a_okS_cons a_okv_long h4) h5 h6 hK hP hD hS hl)
theorem aw_lload {i : Nat} {x : Int64} (hC : aC y cc nL ret fr lo kc ks hh X) (hd : decode cc pc = .ok (.lload i, 2)) (hL : L[i]? = some (some (.long x))) (k : AW X cells slots (pc + 2) L (.long x :: st) T I J R) : AW X cells slots pc L st T I J R := by
  obtain ⟨p, l, e, Rm, s, m, args, below, meth, c, Q, A, D, ad0, T0⟩ := X
  obtain ⟨⟨hx, hb, hml, hown, hts⟩, hr, hlocks, hname, hl9, hf1, hf2, hf3, hf4, htab, hA, hN, hZ⟩ := hC
  intro tys ad ws H locs ls h1 h2 h3 h4 h5 h6 hK hP hD hS hl
  exact lv_lload hx hb hd (a_lvat hl hL) (k tys ad ws H locs ls h1 h2 h3 (a_okS_cons a_okv_long h4) h5 h6 hK hP hD hS hl)
theorem aw_aload_n {k0 : Fin 4} {x : Nat} (hC : aC y cc nL ret fr lo kc ks hh X) (hd : decode cc pc = .ok (.aload_n k0, 1)) (hL : L[(k0 : Nat)]? = some (some (.ref x))) (k : AW X cells slots (pc + 1) L (.ref x :: st) T I J R) : AW X cells slots pc L st T I J R := by
  obtain ⟨p, l, e, Rm, s, m, args, below, meth, c, Q, A, D, ad0, T0⟩ := X
  obtain ⟨⟨hx, hb, hml, hown, hts⟩, hr, hlocks, hname, hl9, hf1, hf2, hf3, hf4, htab, hA, hN, hZ⟩ := hC
  intro tys ad ws H locs ls h1 h2 h3 h4 h5 h6 hK hP hD hS hl
  exact lv_aload_n hx hb hd rfl (a_lvat hl hL) (k tys ad ws H locs ls h1 h2 h3 (a_okS_cons (a_okL_at h3 hL) h4) h5 h6 hK hP hD hS hl)
theorem aw_aload {i : Nat} {x : Nat} (hC : aC y cc nL ret fr lo kc ks hh X) (hd : decode cc pc = .ok (.aload i, 2)) (hL : L[i]? = some (some (.ref x))) (k : AW X cells slots (pc + 2) L (.ref x :: st) T I J R) : AW X cells slots pc L st T I J R := by
  obtain ⟨p, l, e, Rm, s, m, args, below, meth, c, Q, A, D, ad0, T0⟩ := X
  obtain ⟨⟨hx, hb, hml, hown, hts⟩, hr, hlocks, hname, hl9, hf1, hf2, hf3, hf4, htab, hA, hN, hZ⟩ := hC
  intro tys ad ws H locs ls h1 h2 h3 h4 h5 h6 hK hP hD hS hl
  exact lv_aload hx hb hd (a_lvat hl hL) (k tys ad ws H locs ls h1 h2 h3 (a_okS_cons (a_okL_at h3 hL) h4) h5 h6 hK hP hD hS hl)
theorem aw_aload_nN {k0 : Fin 4} (hC : aC y cc nL ret fr lo kc ks hh X) (hd : decode cc pc = .ok (.aload_n k0, 1)) (hL : L[(k0 : Nat)]? = some (some .null)) (k : AW X cells slots (pc + 1) L (.null :: st) T I J R) : AW X cells slots pc L st T I J R := by
  obtain ⟨p, l, e, Rm, s, m, args, below, meth, c, Q, A, D, ad0, T0⟩ := X
  obtain ⟨⟨hx, hb, hml, hown, hts⟩, hr, hlocks, hname, hl9, hf1, hf2, hf3, hf4, htab, hA, hN, hZ⟩ := hC
  intro tys ad ws H locs ls h1 h2 h3 h4 h5 h6 hK hP hD hS hl
  exact lv_aload_nN hx hb hd rfl (a_lvat hl hL) (k tys ad ws H locs ls h1 h2 h3 (a_okS_cons a_okv_null h4) h5 h6 hK hP hD hS hl)
theorem aw_aloadN {i : Nat} (hC : aC y cc nL ret fr lo kc ks hh X) (hd : decode cc pc = .ok (.aload i, 2)) (hL : L[i]? = some (some .null)) (k : AW X cells slots (pc + 2) L (.null :: st) T I J R) : AW X cells slots pc L st T I J R := by
  obtain ⟨p, l, e, Rm, s, m, args, below, meth, c, Q, A, D, ad0, T0⟩ := X
  obtain ⟨⟨hx, hb, hml, hown, hts⟩, hr, hlocks, hname, hl9, hf1, hf2, hf3, hf4, htab, hA, hN, hZ⟩ := hC
  intro tys ad ws H locs ls h1 h2 h3 h4 h5 h6 hK hP hD hS hl
  exact lv_aloadN hx hb hd (a_lvat hl hL) (k tys ad ws H locs ls h1 h2 h3 (a_okS_cons a_okv_null h4) h5 h6 hK hP hD hS hl)
theorem aw_istore_n {k0 : Fin 4} {i : Nat} {x : Int32} {L2 : List (Option Value)} (hC : aC y cc nL ret fr lo kc ks hh X) (hd : decode cc pc = .ok (.istore_n k0, 1)) (hi : (k0 : Nat) = i) (hn : i < nL) (hL : a_set L i (.int x) = L2) (k : AW X cells slots (pc + 1) L2 st T I J R) : AW X cells slots pc L ((.int x) :: st) T I J R := by
  obtain ⟨p, l, e, Rm, s, m, args, below, meth, c, Q, A, D, ad0, T0⟩ := X
  obtain ⟨⟨hx, hb, hml, hown, hts⟩, hr, hlocks, hname, hl9, hf1, hf2, hf3, hf4, htab, hA, hN, hZ⟩ := hC
  intro tys ad ws H locs ls h1 h2 h3 h4 h5 h6 hK hP hD hS hl
  subst hL
  exact lv_istore_n hx hb hd hi hl (by rw [hml]; exact hn) rfl (fun ls9 hl9 => k tys ad ws H locs ls9 h1 h2 (a_okL_set h3 (a_okS_hd h4)) (a_okS_tl h4) h5 h6 hK hP hD hS (a_lv_le hl9 a_lv_set))
theorem aw_istore {i : Nat} {x : Int32} {L2 : List (Option Value)} (hC : aC y cc nL ret fr lo kc ks hh X) (hd : decode cc pc = .ok (.istore i, 2)) (hn : i < nL) (hL : a_set L i (.int x) = L2) (k : AW X cells slots (pc + 2) L2 st T I J R) : AW X cells slots pc L ((.int x) :: st) T I J R := by
  obtain ⟨p, l, e, Rm, s, m, args, below, meth, c, Q, A, D, ad0, T0⟩ := X
  obtain ⟨⟨hx, hb, hml, hown, hts⟩, hr, hlocks, hname, hl9, hf1, hf2, hf3, hf4, htab, hA, hN, hZ⟩ := hC
  intro tys ad ws H locs ls h1 h2 h3 h4 h5 h6 hK hP hD hS hl
  subst hL
  exact lv_istore hx hb hd hl (by rw [hml]; exact hn) rfl (fun ls9 hl9 => k tys ad ws H locs ls9 h1 h2 (a_okL_set h3 (a_okS_hd h4)) (a_okS_tl h4) h5 h6 hK hP hD hS (a_lv_le hl9 a_lv_set))
theorem aw_lstore_n {k0 : Fin 4} {i : Nat} {x : Int64} {L2 : List (Option Value)} (hC : aC y cc nL ret fr lo kc ks hh X) (hd : decode cc pc = .ok (.lstore_n k0, 1)) (hi : (k0 : Nat) = i) (hn : i + 1 < nL) (hL : a_set2 L i (.long x) = L2) (k : AW X cells slots (pc + 1) L2 st T I J R) : AW X cells slots pc L ((.long x) :: st) T I J R := by
  obtain ⟨p, l, e, Rm, s, m, args, below, meth, c, Q, A, D, ad0, T0⟩ := X
  obtain ⟨⟨hx, hb, hml, hown, hts⟩, hr, hlocks, hname, hl9, hf1, hf2, hf3, hf4, htab, hA, hN, hZ⟩ := hC
  intro tys ad ws H locs ls h1 h2 h3 h4 h5 h6 hK hP hD hS hl
  subst hL
  exact lv_lstore_n hx hb hd hi hl (by rw [hml]; exact hn) rfl (fun ls9 hl9 => k tys ad ws H locs ls9 h1 h2 (a_okL_set2 h3 (a_okS_hd h4)) (a_okS_tl h4) h5 h6 hK hP hD hS (a_lv_le hl9 a_lv_set2))
theorem aw_lstore {i : Nat} {x : Int64} {L2 : List (Option Value)} (hC : aC y cc nL ret fr lo kc ks hh X) (hd : decode cc pc = .ok (.lstore i, 2)) (hn : i + 1 < nL) (hL : a_set2 L i (.long x) = L2) (k : AW X cells slots (pc + 2) L2 st T I J R) : AW X cells slots pc L ((.long x) :: st) T I J R := by
  obtain ⟨p, l, e, Rm, s, m, args, below, meth, c, Q, A, D, ad0, T0⟩ := X
  obtain ⟨⟨hx, hb, hml, hown, hts⟩, hr, hlocks, hname, hl9, hf1, hf2, hf3, hf4, htab, hA, hN, hZ⟩ := hC
  intro tys ad ws H locs ls h1 h2 h3 h4 h5 h6 hK hP hD hS hl
  subst hL
  exact lv_lstore hx hb hd hl (by rw [hml]; exact hn) rfl (fun ls9 hl9 => k tys ad ws H locs ls9 h1 h2 (a_okL_set2 h3 (a_okS_hd h4)) (a_okS_tl h4) h5 h6 hK hP hD hS (a_lv_le hl9 a_lv_set2))
theorem aw_astore_n {k0 : Fin 4} {i : Nat} {x : Nat} {L2 : List (Option Value)} (hC : aC y cc nL ret fr lo kc ks hh X) (hd : decode cc pc = .ok (.astore_n k0, 1)) (hi : (k0 : Nat) = i) (hn : i < nL) (hL : a_set L i (.ref x) = L2) (k : AW X cells slots (pc + 1) L2 st T I J R) : AW X cells slots pc L ((.ref x) :: st) T I J R := by
  obtain ⟨p, l, e, Rm, s, m, args, below, meth, c, Q, A, D, ad0, T0⟩ := X
  obtain ⟨⟨hx, hb, hml, hown, hts⟩, hr, hlocks, hname, hl9, hf1, hf2, hf3, hf4, htab, hA, hN, hZ⟩ := hC
  intro tys ad ws H locs ls h1 h2 h3 h4 h5 h6 hK hP hD hS hl
  subst hL
  exact lv_astore_n hx hb hd hi hl (by rw [hml]; exact hn) rfl (fun ls9 hl9 => k tys ad ws H locs ls9 h1 h2 (a_okL_set h3 (a_okS_hd h4)) (a_okS_tl h4) h5 h6 hK hP hD hS (a_lv_le hl9 a_lv_set))
theorem aw_astore {i : Nat} {x : Nat} {L2 : List (Option Value)} (hC : aC y cc nL ret fr lo kc ks hh X) (hd : decode cc pc = .ok (.astore i, 2)) (hn : i < nL) (hL : a_set L i (.ref x) = L2) (k : AW X cells slots (pc + 2) L2 st T I J R) : AW X cells slots pc L ((.ref x) :: st) T I J R := by
  obtain ⟨p, l, e, Rm, s, m, args, below, meth, c, Q, A, D, ad0, T0⟩ := X
  obtain ⟨⟨hx, hb, hml, hown, hts⟩, hr, hlocks, hname, hl9, hf1, hf2, hf3, hf4, htab, hA, hN, hZ⟩ := hC
  intro tys ad ws H locs ls h1 h2 h3 h4 h5 h6 hK hP hD hS hl
  subst hL
  exact lv_astore hx hb hd hl (by rw [hml]; exact hn) rfl (fun ls9 hl9 => k tys ad ws H locs ls9 h1 h2 (a_okL_set h3 (a_okS_hd h4)) (a_okS_tl h4) h5 h6 hK hP hD hS (a_lv_le hl9 a_lv_set))
theorem aw_astore_nN {k0 : Fin 4} {i : Nat}  {L2 : List (Option Value)} (hC : aC y cc nL ret fr lo kc ks hh X) (hd : decode cc pc = .ok (.astore_n k0, 1)) (hi : (k0 : Nat) = i) (hn : i < nL) (hL : a_set L i .null = L2) (k : AW X cells slots (pc + 1) L2 st T I J R) : AW X cells slots pc L (.null :: st) T I J R := by
  obtain ⟨p, l, e, Rm, s, m, args, below, meth, c, Q, A, D, ad0, T0⟩ := X
  obtain ⟨⟨hx, hb, hml, hown, hts⟩, hr, hlocks, hname, hl9, hf1, hf2, hf3, hf4, htab, hA, hN, hZ⟩ := hC
  intro tys ad ws H locs ls h1 h2 h3 h4 h5 h6 hK hP hD hS hl
  subst hL
  exact lv_astore_nN hx hb hd hi hl (by rw [hml]; exact hn) rfl (fun ls9 hl9 => k tys ad ws H locs ls9 h1 h2 (a_okL_set h3 (a_okS_hd h4)) (a_okS_tl h4) h5 h6 hK hP hD hS (a_lv_le hl9 a_lv_set))
theorem aw_astoreN {i : Nat}  {L2 : List (Option Value)} (hC : aC y cc nL ret fr lo kc ks hh X) (hd : decode cc pc = .ok (.astore i, 2)) (hn : i < nL) (hL : a_set L i .null = L2) (k : AW X cells slots (pc + 2) L2 st T I J R) : AW X cells slots pc L (.null :: st) T I J R := by
  obtain ⟨p, l, e, Rm, s, m, args, below, meth, c, Q, A, D, ad0, T0⟩ := X
  obtain ⟨⟨hx, hb, hml, hown, hts⟩, hr, hlocks, hname, hl9, hf1, hf2, hf3, hf4, htab, hA, hN, hZ⟩ := hC
  intro tys ad ws H locs ls h1 h2 h3 h4 h5 h6 hK hP hD hS hl
  subst hL
  exact lv_astoreN hx hb hd hl (by rw [hml]; exact hn) rfl (fun ls9 hl9 => k tys ad ws H locs ls9 h1 h2 (a_okL_set h3 (a_okS_hd h4)) (a_okS_tl h4) h5 h6 hK hP hD hS (a_lv_le hl9 a_lv_set))
theorem aw_iinc {i : Nat} {n : Int} {x v : Int32} {L2 : List (Option Value)} (hC : aC y cc nL ret fr lo kc ks hh X) (hd : decode cc pc = .ok (.iinc i n, 3)) (hx0 : L[i]? = some (some (.int x))) (hv : x + Int32.ofInt n = v) (hn : i < nL) (hL : a_set L i (.int v) = L2) (k : AW X cells slots (pc + 3) L2 st T I J R) : AW X cells slots pc L st T I J R := by
  obtain ⟨p, l, e, Rm, s, m, args, below, meth, c, Q, A, D, ad0, T0⟩ := X
  obtain ⟨⟨hx, hb, hml, hown, hts⟩, hr, hlocks, hname, hl9, hf1, hf2, hf3, hf4, htab, hA, hN, hZ⟩ := hC
  intro tys ad ws H locs ls h1 h2 h3 h4 h5 h6 hK hP hD hS hl
  subst hL
  obtain ⟨k9, hk9⟩ := List.getElem?_of_mem (a_lv_mem.mpr ⟨_, hx0, rfl⟩ : (i, a_cv ad (.int x)) ∈ a_lv ad L)
  exact lv_iinc hx hb hd hl (k := k9) hk9 hv (by rw [hml]; exact hn) rfl (fun ls9 hl9 => k tys ad ws H locs ls9 h1 h2 (a_okL_set h3 a_okv_int) h4 h5 h6 hK hP hD hS (a_lv_le hl9 a_lv_set))
theorem aw_iadd {x z : Int32} (hC : aC y cc nL ret fr lo kc ks hh X) (hd : decode cc pc = .ok (.iadd, 1)) (k : AW X cells slots (pc + 1) L (.int (x + z) :: st) T I J R) : AW X cells slots pc L (.int z :: .int x :: st) T I J R := by
  obtain ⟨p, l, e, Rm, s, m, args, below, meth, c, Q, A, D, ad0, T0⟩ := X
  obtain ⟨⟨hx, hb, hml, hown, hts⟩, hr, hlocks, hname, hl9, hf1, hf2, hf3, hf4, htab, hA, hN, hZ⟩ := hC
  intro tys ad ws H locs ls h1 h2 h3 h4 h5 h6 hK hP hD hS hl
  exact lv_iadd hx hb hd (k tys ad ws H locs ls h1 h2 h3 (a_okS_cons a_okv_int (a_okS_tl (a_okS_tl h4))) h5 h6 hK hP hD hS hl)
theorem aw_isub {x z : Int32} (hC : aC y cc nL ret fr lo kc ks hh X) (hd : decode cc pc = .ok (.isub, 1)) (k : AW X cells slots (pc + 1) L (.int (x - z) :: st) T I J R) : AW X cells slots pc L (.int z :: .int x :: st) T I J R := by
  obtain ⟨p, l, e, Rm, s, m, args, below, meth, c, Q, A, D, ad0, T0⟩ := X
  obtain ⟨⟨hx, hb, hml, hown, hts⟩, hr, hlocks, hname, hl9, hf1, hf2, hf3, hf4, htab, hA, hN, hZ⟩ := hC
  intro tys ad ws H locs ls h1 h2 h3 h4 h5 h6 hK hP hD hS hl
  exact lv_isub hx hb hd (k tys ad ws H locs ls h1 h2 h3 (a_okS_cons a_okv_int (a_okS_tl (a_okS_tl h4))) h5 h6 hK hP hD hS hl)
theorem aw_imul {x z : Int32} (hC : aC y cc nL ret fr lo kc ks hh X) (hd : decode cc pc = .ok (.imul, 1)) (k : AW X cells slots (pc + 1) L (.int (x * z) :: st) T I J R) : AW X cells slots pc L (.int z :: .int x :: st) T I J R := by
  obtain ⟨p, l, e, Rm, s, m, args, below, meth, c, Q, A, D, ad0, T0⟩ := X
  obtain ⟨⟨hx, hb, hml, hown, hts⟩, hr, hlocks, hname, hl9, hf1, hf2, hf3, hf4, htab, hA, hN, hZ⟩ := hC
  intro tys ad ws H locs ls h1 h2 h3 h4 h5 h6 hK hP hD hS hl
  exact lv_imul hx hb hd (k tys ad ws H locs ls h1 h2 h3 (a_okS_cons a_okv_int (a_okS_tl (a_okS_tl h4))) h5 h6 hK hP hD hS hl)
theorem aw_iand {x z : Int32} (hC : aC y cc nL ret fr lo kc ks hh X) (hd : decode cc pc = .ok (.iand, 1)) (k : AW X cells slots (pc + 1) L (.int (x &&& z) :: st) T I J R) : AW X cells slots pc L (.int z :: .int x :: st) T I J R := by
  obtain ⟨p, l, e, Rm, s, m, args, below, meth, c, Q, A, D, ad0, T0⟩ := X
  obtain ⟨⟨hx, hb, hml, hown, hts⟩, hr, hlocks, hname, hl9, hf1, hf2, hf3, hf4, htab, hA, hN, hZ⟩ := hC
  intro tys ad ws H locs ls h1 h2 h3 h4 h5 h6 hK hP hD hS hl
  exact lv_iand hx hb hd (k tys ad ws H locs ls h1 h2 h3 (a_okS_cons a_okv_int (a_okS_tl (a_okS_tl h4))) h5 h6 hK hP hD hS hl)
theorem aw_ior {x z : Int32} (hC : aC y cc nL ret fr lo kc ks hh X) (hd : decode cc pc = .ok (.ior, 1)) (k : AW X cells slots (pc + 1) L (.int (x ||| z) :: st) T I J R) : AW X cells slots pc L (.int z :: .int x :: st) T I J R := by
  obtain ⟨p, l, e, Rm, s, m, args, below, meth, c, Q, A, D, ad0, T0⟩ := X
  obtain ⟨⟨hx, hb, hml, hown, hts⟩, hr, hlocks, hname, hl9, hf1, hf2, hf3, hf4, htab, hA, hN, hZ⟩ := hC
  intro tys ad ws H locs ls h1 h2 h3 h4 h5 h6 hK hP hD hS hl
  exact lv_ior hx hb hd (k tys ad ws H locs ls h1 h2 h3 (a_okS_cons a_okv_int (a_okS_tl (a_okS_tl h4))) h5 h6 hK hP hD hS hl)
theorem aw_ixor {x z : Int32} (hC : aC y cc nL ret fr lo kc ks hh X) (hd : decode cc pc = .ok (.ixor, 1)) (k : AW X cells slots (pc + 1) L (.int (x ^^^ z) :: st) T I J R) : AW X cells slots pc L (.int z :: .int x :: st) T I J R := by
  obtain ⟨p, l, e, Rm, s, m, args, below, meth, c, Q, A, D, ad0, T0⟩ := X
  obtain ⟨⟨hx, hb, hml, hown, hts⟩, hr, hlocks, hname, hl9, hf1, hf2, hf3, hf4, htab, hA, hN, hZ⟩ := hC
  intro tys ad ws H locs ls h1 h2 h3 h4 h5 h6 hK hP hD hS hl
  exact lv_ixor hx hb hd (k tys ad ws H locs ls h1 h2 h3 (a_okS_cons a_okv_int (a_okS_tl (a_okS_tl h4))) h5 h6 hK hP hD hS hl)
theorem aw_ishl {x z : Int32} (hC : aC y cc nL ret fr lo kc ks hh X) (hd : decode cc pc = .ok (.ishl, 1)) (k : AW X cells slots (pc + 1) L (.int (x <<< (z &&& 31)) :: st) T I J R) : AW X cells slots pc L (.int z :: .int x :: st) T I J R := by
  obtain ⟨p, l, e, Rm, s, m, args, below, meth, c, Q, A, D, ad0, T0⟩ := X
  obtain ⟨⟨hx, hb, hml, hown, hts⟩, hr, hlocks, hname, hl9, hf1, hf2, hf3, hf4, htab, hA, hN, hZ⟩ := hC
  intro tys ad ws H locs ls h1 h2 h3 h4 h5 h6 hK hP hD hS hl
  exact lv_ishl hx hb hd (k tys ad ws H locs ls h1 h2 h3 (a_okS_cons a_okv_int (a_okS_tl (a_okS_tl h4))) h5 h6 hK hP hD hS hl)
theorem aw_ishr {x z : Int32} (hC : aC y cc nL ret fr lo kc ks hh X) (hd : decode cc pc = .ok (.ishr, 1)) (k : AW X cells slots (pc + 1) L (.int (x >>> (z &&& 31)) :: st) T I J R) : AW X cells slots pc L (.int z :: .int x :: st) T I J R := by
  obtain ⟨p, l, e, Rm, s, m, args, below, meth, c, Q, A, D, ad0, T0⟩ := X
  obtain ⟨⟨hx, hb, hml, hown, hts⟩, hr, hlocks, hname, hl9, hf1, hf2, hf3, hf4, htab, hA, hN, hZ⟩ := hC
  intro tys ad ws H locs ls h1 h2 h3 h4 h5 h6 hK hP hD hS hl
  exact lv_ishr hx hb hd (k tys ad ws H locs ls h1 h2 h3 (a_okS_cons a_okv_int (a_okS_tl (a_okS_tl h4))) h5 h6 hK hP hD hS hl)
theorem aw_iushr {x z : Int32} (hC : aC y cc nL ret fr lo kc ks hh X) (hd : decode cc pc = .ok (.iushr, 1)) (k : AW X cells slots (pc + 1) L (.int ((x.toUInt32 >>> (z.toUInt32 &&& Int32.toUInt32 31)).toInt32) :: st) T I J R) : AW X cells slots pc L (.int z :: .int x :: st) T I J R := by
  obtain ⟨p, l, e, Rm, s, m, args, below, meth, c, Q, A, D, ad0, T0⟩ := X
  obtain ⟨⟨hx, hb, hml, hown, hts⟩, hr, hlocks, hname, hl9, hf1, hf2, hf3, hf4, htab, hA, hN, hZ⟩ := hC
  intro tys ad ws H locs ls h1 h2 h3 h4 h5 h6 hK hP hD hS hl
  exact lv_iushr hx hb hd rfl (k tys ad ws H locs ls h1 h2 h3 (a_okS_cons a_okv_int (a_okS_tl (a_okS_tl h4))) h5 h6 hK hP hD hS hl)
theorem aw_idiv {x z : Int32} (hC : aC y cc nL ret fr lo kc ks hh X) (hd : decode cc pc = .ok (.idiv, 1)) (hz : ¬ z = 0) (k : AW X cells slots (pc + 1) L (.int (x / z) :: st) T I J R) : AW X cells slots pc L (.int z :: .int x :: st) T I J R := by
  obtain ⟨p, l, e, Rm, s, m, args, below, meth, c, Q, A, D, ad0, T0⟩ := X
  obtain ⟨⟨hx, hb, hml, hown, hts⟩, hr, hlocks, hname, hl9, hf1, hf2, hf3, hf4, htab, hA, hN, hZ⟩ := hC
  intro tys ad ws H locs ls h1 h2 h3 h4 h5 h6 hK hP hD hS hl
  exact lv_idiv hx hb hd hz (k tys ad ws H locs ls h1 h2 h3 (a_okS_cons a_okv_int (a_okS_tl (a_okS_tl h4))) h5 h6 hK hP hD hS hl)
theorem aw_irem {x z : Int32} (hC : aC y cc nL ret fr lo kc ks hh X) (hd : decode cc pc = .ok (.irem, 1)) (hz : ¬ z = 0) (k : AW X cells slots (pc + 1) L (.int (x - x / z * z) :: st) T I J R) : AW X cells slots pc L (.int z :: .int x :: st) T I J R := by
  obtain ⟨p, l, e, Rm, s, m, args, below, meth, c, Q, A, D, ad0, T0⟩ := X
  obtain ⟨⟨hx, hb, hml, hown, hts⟩, hr, hlocks, hname, hl9, hf1, hf2, hf3, hf4, htab, hA, hN, hZ⟩ := hC
  intro tys ad ws H locs ls h1 h2 h3 h4 h5 h6 hK hP hD hS hl
  exact lv_irem hx hb hd hz (k tys ad ws H locs ls h1 h2 h3 (a_okS_cons a_okv_int (a_okS_tl (a_okS_tl h4))) h5 h6 hK hP hD hS hl)
theorem aw_ineg {x : Int32} (hC : aC y cc nL ret fr lo kc ks hh X) (hd : decode cc pc = .ok (.ineg, 1)) (k : AW X cells slots (pc + 1) L (.int (-x) :: st) T I J R) : AW X cells slots pc L (.int x :: st) T I J R := by
  obtain ⟨p, l, e, Rm, s, m, args, below, meth, c, Q, A, D, ad0, T0⟩ := X
  obtain ⟨⟨hx, hb, hml, hown, hts⟩, hr, hlocks, hname, hl9, hf1, hf2, hf3, hf4, htab, hA, hN, hZ⟩ := hC
  intro tys ad ws H locs ls h1 h2 h3 h4 h5 h6 hK hP hD hS hl
  exact lv_ineg hx hb hd (k tys ad ws H locs ls h1 h2 h3 (a_okS_cons a_okv_int (a_okS_tl h4)) h5 h6 hK hP hD hS hl)
theorem aw_ladd {x z : Int64} (hC : aC y cc nL ret fr lo kc ks hh X) (hd : decode cc pc = .ok (.ladd, 1)) (k : AW X cells slots (pc + 1) L (.long (x + z) :: st) T I J R) : AW X cells slots pc L (.long z :: .long x :: st) T I J R := by
  obtain ⟨p, l, e, Rm, s, m, args, below, meth, c, Q, A, D, ad0, T0⟩ := X
  obtain ⟨⟨hx, hb, hml, hown, hts⟩, hr, hlocks, hname, hl9, hf1, hf2, hf3, hf4, htab, hA, hN, hZ⟩ := hC
  intro tys ad ws H locs ls h1 h2 h3 h4 h5 h6 hK hP hD hS hl
  exact lv_ladd hx hb hd (k tys ad ws H locs ls h1 h2 h3 (a_okS_cons a_okv_long (a_okS_tl (a_okS_tl h4))) h5 h6 hK hP hD hS hl)
theorem aw_lsub {x z : Int64} (hC : aC y cc nL ret fr lo kc ks hh X) (hd : decode cc pc = .ok (.lsub, 1)) (k : AW X cells slots (pc + 1) L (.long (x - z) :: st) T I J R) : AW X cells slots pc L (.long z :: .long x :: st) T I J R := by
  obtain ⟨p, l, e, Rm, s, m, args, below, meth, c, Q, A, D, ad0, T0⟩ := X
  obtain ⟨⟨hx, hb, hml, hown, hts⟩, hr, hlocks, hname, hl9, hf1, hf2, hf3, hf4, htab, hA, hN, hZ⟩ := hC
  intro tys ad ws H locs ls h1 h2 h3 h4 h5 h6 hK hP hD hS hl
  exact lv_lsub hx hb hd (k tys ad ws H locs ls h1 h2 h3 (a_okS_cons a_okv_long (a_okS_tl (a_okS_tl h4))) h5 h6 hK hP hD hS hl)
theorem aw_land {x z : Int64} (hC : aC y cc nL ret fr lo kc ks hh X) (hd : decode cc pc = .ok (.land, 1)) (k : AW X cells slots (pc + 1) L (.long (x &&& z) :: st) T I J R) : AW X cells slots pc L (.long z :: .long x :: st) T I J R := by
  obtain ⟨p, l, e, Rm, s, m, args, below, meth, c, Q, A, D, ad0, T0⟩ := X
  obtain ⟨⟨hx, hb, hml, hown, hts⟩, hr, hlocks, hname, hl9, hf1, hf2, hf3, hf4, htab, hA, hN, hZ⟩ := hC
  intro tys ad ws H locs ls h1 h2 h3 h4 h5 h6 hK hP hD hS hl
  exact lv_land hx hb hd (k tys ad ws H locs ls h1 h2 h3 (a_okS_cons a_okv_long (a_okS_tl (a_okS_tl h4))) h5 h6 hK hP hD hS hl)
theorem aw_lor {x z : Int64} (hC : aC y cc nL ret fr lo kc ks hh X) (hd : decode cc pc = .ok (.lor, 1)) (k : AW X cells slots (pc + 1) L (.long (x ||| z) :: st) T I J R) : AW X cells slots pc L (.long z :: .long x :: st) T I J R := by
  obtain ⟨p, l, e, Rm, s, m, args, below, meth, c, Q, A, D, ad0, T0⟩ := X
  obtain ⟨⟨hx, hb, hml, hown, hts⟩, hr, hlocks, hname, hl9, hf1, hf2, hf3, hf4, htab, hA, hN, hZ⟩ := hC
  intro tys ad ws H locs ls h1 h2 h3 h4 h5 h6 hK hP hD hS hl
  exact lv_lor hx hb hd (k tys ad ws H locs ls h1 h2 h3 (a_okS_cons a_okv_long (a_okS_tl (a_okS_tl h4))) h5 h6 hK hP hD hS hl)
theorem aw_lxor {x z : Int64} (hC : aC y cc nL ret fr lo kc ks hh X) (hd : decode cc pc = .ok (.lxor, 1)) (k : AW X cells slots (pc + 1) L (.long (x ^^^ z) :: st) T I J R) : AW X cells slots pc L (.long z :: .long x :: st) T I J R := by
  obtain ⟨p, l, e, Rm, s, m, args, below, meth, c, Q, A, D, ad0, T0⟩ := X
  obtain ⟨⟨hx, hb, hml, hown, hts⟩, hr, hlocks, hname, hl9, hf1, hf2, hf3, hf4, htab, hA, hN, hZ⟩ := hC
  intro tys ad ws H locs ls h1 h2 h3 h4 h5 h6 hK hP hD hS hl
  exact lv_lxor hx hb hd (k tys ad ws H locs ls h1 h2 h3 (a_okS_cons a_okv_long (a_okS_tl (a_okS_tl h4))) h5 h6 hK hP hD hS hl)
theorem aw_lshl {x : Int64} {z : Int32} (hC : aC y cc nL ret fr lo kc ks hh X) (hd : decode cc pc = .ok (.lshl, 1)) (k : AW X cells slots (pc + 1) L (.long (x <<< (z.toInt64 &&& 63)) :: st) T I J R) : AW X cells slots pc L (.int z :: .long x :: st) T I J R := by
  obtain ⟨p, l, e, Rm, s, m, args, below, meth, c, Q, A, D, ad0, T0⟩ := X
  obtain ⟨⟨hx, hb, hml, hown, hts⟩, hr, hlocks, hname, hl9, hf1, hf2, hf3, hf4, htab, hA, hN, hZ⟩ := hC
  intro tys ad ws H locs ls h1 h2 h3 h4 h5 h6 hK hP hD hS hl
  exact lv_lshl hx hb hd rfl (k tys ad ws H locs ls h1 h2 h3 (a_okS_cons a_okv_long (a_okS_tl (a_okS_tl h4))) h5 h6 hK hP hD hS hl)
theorem aw_lushr {x : Int64} {z : Int32} (hC : aC y cc nL ret fr lo kc ks hh X) (hd : decode cc pc = .ok (.lushr, 1)) (k : AW X cells slots (pc + 1) L (.long ((x.toUInt64 >>> (z.toInt64.toUInt64 &&& Int64.toUInt64 63)).toInt64) :: st) T I J R) : AW X cells slots pc L (.int z :: .long x :: st) T I J R := by
  obtain ⟨p, l, e, Rm, s, m, args, below, meth, c, Q, A, D, ad0, T0⟩ := X
  obtain ⟨⟨hx, hb, hml, hown, hts⟩, hr, hlocks, hname, hl9, hf1, hf2, hf3, hf4, htab, hA, hN, hZ⟩ := hC
  intro tys ad ws H locs ls h1 h2 h3 h4 h5 h6 hK hP hD hS hl
  exact lv_lushr hx hb hd rfl (k tys ad ws H locs ls h1 h2 h3 (a_okS_cons a_okv_long (a_okS_tl (a_okS_tl h4))) h5 h6 hK hP hD hS hl)
theorem aw_lcmp {x z : Int64} (hC : aC y cc nL ret fr lo kc ks hh X) (hd : decode cc pc = .ok (.lcmp, 1)) (k : AW X cells slots (pc + 1) L (.int (lg_cmp x z) :: st) T I J R) : AW X cells slots pc L (.long z :: .long x :: st) T I J R := by
  obtain ⟨p, l, e, Rm, s, m, args, below, meth, c, Q, A, D, ad0, T0⟩ := X
  obtain ⟨⟨hx, hb, hml, hown, hts⟩, hr, hlocks, hname, hl9, hf1, hf2, hf3, hf4, htab, hA, hN, hZ⟩ := hC
  intro tys ad ws H locs ls h1 h2 h3 h4 h5 h6 hK hP hD hS hl
  exact W.lcmp hx hb hd (k tys ad ws H locs ls h1 h2 h3 (a_okS_cons a_okv_int (a_okS_tl (a_okS_tl h4))) h5 h6 hK hP hD hS hl)
theorem aw_i2l {x : Int32} (hC : aC y cc nL ret fr lo kc ks hh X) (hd : decode cc pc = .ok (.i2l, 1)) (k : AW X cells slots (pc + 1) L (.long x.toInt64 :: st) T I J R) : AW X cells slots pc L (.int x :: st) T I J R := by
  obtain ⟨p, l, e, Rm, s, m, args, below, meth, c, Q, A, D, ad0, T0⟩ := X
  obtain ⟨⟨hx, hb, hml, hown, hts⟩, hr, hlocks, hname, hl9, hf1, hf2, hf3, hf4, htab, hA, hN, hZ⟩ := hC
  intro tys ad ws H locs ls h1 h2 h3 h4 h5 h6 hK hP hD hS hl
  exact lv_i2l hx hb hd rfl (k tys ad ws H locs ls h1 h2 h3 (a_okS_cons a_okv_long (a_okS_tl h4)) h5 h6 hK hP hD hS hl)
theorem aw_l2i {x : Int64} (hC : aC y cc nL ret fr lo kc ks hh X) (hd : decode cc pc = .ok (.l2i, 1)) (k : AW X cells slots (pc + 1) L (.int x.toInt32 :: st) T I J R) : AW X cells slots pc L (.long x :: st) T I J R := by
  obtain ⟨p, l, e, Rm, s, m, args, below, meth, c, Q, A, D, ad0, T0⟩ := X
  obtain ⟨⟨hx, hb, hml, hown, hts⟩, hr, hlocks, hname, hl9, hf1, hf2, hf3, hf4, htab, hA, hN, hZ⟩ := hC
  intro tys ad ws H locs ls h1 h2 h3 h4 h5 h6 hK hP hD hS hl
  exact lv_l2i hx hb hd rfl (k tys ad ws H locs ls h1 h2 h3 (a_okS_cons a_okv_int (a_okS_tl h4)) h5 h6 hK hP hD hS hl)
theorem aw_dup {v : Value} (hC : aC y cc nL ret fr lo kc ks hh X) (hd : decode cc pc = .ok (.dup, 1)) (hv : v.category = 1) (k : AW X cells slots (pc + 1) L (v :: v :: st) T I J R) : AW X cells slots pc L (v :: st) T I J R := by
  obtain ⟨p, l, e, Rm, s, m, args, below, meth, c, Q, A, D, ad0, T0⟩ := X
  obtain ⟨⟨hx, hb, hml, hown, hts⟩, hr, hlocks, hname, hl9, hf1, hf2, hf3, hf4, htab, hA, hN, hZ⟩ := hC
  intro tys ad ws H locs ls h1 h2 h3 h4 h5 h6 hK hP hD hS hl
  exact lv_dup hx hb hd (by rw [a_cat]; exact hv) (k tys ad ws H locs ls h1 h2 h3 (a_okS_cons (a_okS_hd h4) h4) h5 h6 hK hP hD hS hl)
theorem aw_pop {v : Value} (hC : aC y cc nL ret fr lo kc ks hh X) (hd : decode cc pc = .ok (.pop, 1)) (hv : v.category = 1) (k : AW X cells slots (pc + 1) L st T I J R) : AW X cells slots pc L (v :: st) T I J R := by
  obtain ⟨p, l, e, Rm, s, m, args, below, meth, c, Q, A, D, ad0, T0⟩ := X
  obtain ⟨⟨hx, hb, hml, hown, hts⟩, hr, hlocks, hname, hl9, hf1, hf2, hf3, hf4, htab, hA, hN, hZ⟩ := hC
  intro tys ad ws H locs ls h1 h2 h3 h4 h5 h6 hK hP hD hS hl
  exact lv_pop hx hb hd (by rw [a_cat]; exact hv) (k tys ad ws H locs ls h1 h2 h3 (a_okS_tl h4) h5 h6 hK hP hD hS hl)
theorem aw_dup2 {v w : Value} (hC : aC y cc nL ret fr lo kc ks hh X) (hd : decode cc pc = .ok (.dup2, 1)) (hv : v.category = 1) (hw : w.category = 1) (k : AW X cells slots (pc + 1) L (v :: w :: v :: w :: st) T I J R) : AW X cells slots pc L (v :: w :: st) T I J R := by
  obtain ⟨p, l, e, Rm, s, m, args, below, meth, c, Q, A, D, ad0, T0⟩ := X
  obtain ⟨⟨hx, hb, hml, hown, hts⟩, hr, hlocks, hname, hl9, hf1, hf2, hf3, hf4, htab, hA, hN, hZ⟩ := hC
  intro tys ad ws H locs ls h1 h2 h3 h4 h5 h6 hK hP hD hS hl
  exact lv_dup2_11 hx hb hd (by rw [a_cat]; exact hv) (by rw [a_cat]; exact hw) (k tys ad ws H locs ls h1 h2 h3 (a_okS_cons (a_okS_hd h4) (a_okS_cons (a_okS_hd (a_okS_tl h4)) h4)) h5 h6 hK hP hD hS hl)
theorem aw_if_eq (hC : aC y cc nL ret fr lo kc ks hh X) {x : Int32} {off : Int} (hd : decode cc pc = .ok (.ifCond .eq off, 3)) {tgt : Nat} (ht : (pc : Int) + off = (tgt : Int)) (kt : x = 0 → AW X cells slots tgt L st T I J R) (kf : ¬ x = 0 → AW X cells slots (pc + 3) L st T I J R) : AW X cells slots pc L (.int x :: st) T I J R := by
  obtain ⟨p, l, e, Rm, s, m, args, below, meth, c, Q, A, D, ad0, T0⟩ := X
  obtain ⟨⟨hx, hb, hml, hown, hts⟩, hr, hlocks, hname, hl9, hf1, hf2, hf3, hf4, htab, hA, hN, hZ⟩ := hC
  intro tys ad ws H locs ls h1 h2 h3 h4 h5 h6 hK hP hD hS hl
  exact lv_if_eq hx hb hd ht (fun q => kt q tys ad ws H locs ls h1 h2 h3 (a_okS_tl h4) h5 h6 hK hP hD hS hl) (fun q => kf q tys ad ws H locs ls h1 h2 h3 (a_okS_tl h4) h5 h6 hK hP hD hS hl)
theorem aw_icmp_eq (hC : aC y cc nL ret fr lo kc ks hh X) {x z : Int32} {off : Int} (hd : decode cc pc = .ok (.if_icmp .eq off, 3)) {tgt : Nat} (ht : (pc : Int) + off = (tgt : Int)) (kt : x = z → AW X cells slots tgt L st T I J R) (kf : ¬ x = z → AW X cells slots (pc + 3) L st T I J R) : AW X cells slots pc L (.int z :: .int x :: st) T I J R := by
  obtain ⟨p, l, e, Rm, s, m, args, below, meth, c, Q, A, D, ad0, T0⟩ := X
  obtain ⟨⟨hx, hb, hml, hown, hts⟩, hr, hlocks, hname, hl9, hf1, hf2, hf3, hf4, htab, hA, hN, hZ⟩ := hC
  intro tys ad ws H locs ls h1 h2 h3 h4 h5 h6 hK hP hD hS hl
  exact lv_icmp_eq hx hb hd ht (fun q => kt q tys ad ws H locs ls h1 h2 h3 (a_okS_tl (a_okS_tl h4)) h5 h6 hK hP hD hS hl) (fun q => kf q tys ad ws H locs ls h1 h2 h3 (a_okS_tl (a_okS_tl h4)) h5 h6 hK hP hD hS hl)
theorem aw_if_ne (hC : aC y cc nL ret fr lo kc ks hh X) {x : Int32} {off : Int} (hd : decode cc pc = .ok (.ifCond .ne off, 3)) {tgt : Nat} (ht : (pc : Int) + off = (tgt : Int)) (kt : (¬ x = 0) → AW X cells slots tgt L st T I J R) (kf : x = 0 → AW X cells slots (pc + 3) L st T I J R) : AW X cells slots pc L (.int x :: st) T I J R := by
  obtain ⟨p, l, e, Rm, s, m, args, below, meth, c, Q, A, D, ad0, T0⟩ := X
  obtain ⟨⟨hx, hb, hml, hown, hts⟩, hr, hlocks, hname, hl9, hf1, hf2, hf3, hf4, htab, hA, hN, hZ⟩ := hC
  intro tys ad ws H locs ls h1 h2 h3 h4 h5 h6 hK hP hD hS hl
  exact lv_if_ne hx hb hd ht (fun q => kt q tys ad ws H locs ls h1 h2 h3 (a_okS_tl h4) h5 h6 hK hP hD hS hl) (fun q => kf q tys ad ws H locs ls h1 h2 h3 (a_okS_tl h4) h5 h6 hK hP hD hS hl)
theorem aw_icmp_ne (hC : aC y cc nL ret fr lo kc ks hh X) {x z : Int32} {off : Int} (hd : decode cc pc = .ok (.if_icmp .ne off, 3)) {tgt : Nat} (ht : (pc : Int) + off = (tgt : Int)) (kt : (¬ x = z) → AW X cells slots tgt L st T I J R) (kf : x = z → AW X cells slots (pc + 3) L st T I J R) : AW X cells slots pc L (.int z :: .int x :: st) T I J R := by
  obtain ⟨p, l, e, Rm, s, m, args, below, meth, c, Q, A, D, ad0, T0⟩ := X
  obtain ⟨⟨hx, hb, hml, hown, hts⟩, hr, hlocks, hname, hl9, hf1, hf2, hf3, hf4, htab, hA, hN, hZ⟩ := hC
  intro tys ad ws H locs ls h1 h2 h3 h4 h5 h6 hK hP hD hS hl
  exact lv_icmp_ne hx hb hd ht (fun q => kt q tys ad ws H locs ls h1 h2 h3 (a_okS_tl (a_okS_tl h4)) h5 h6 hK hP hD hS hl) (fun q => kf q tys ad ws H locs ls h1 h2 h3 (a_okS_tl (a_okS_tl h4)) h5 h6 hK hP hD hS hl)
theorem aw_if_lt (hC : aC y cc nL ret fr lo kc ks hh X) {x : Int32} {off : Int} (hd : decode cc pc = .ok (.ifCond .lt off, 3)) {tgt : Nat} (ht : (pc : Int) + off = (tgt : Int)) (kt : x < 0 → AW X cells slots tgt L st T I J R) (kf : ¬ x < 0 → AW X cells slots (pc + 3) L st T I J R) : AW X cells slots pc L (.int x :: st) T I J R := by
  obtain ⟨p, l, e, Rm, s, m, args, below, meth, c, Q, A, D, ad0, T0⟩ := X
  obtain ⟨⟨hx, hb, hml, hown, hts⟩, hr, hlocks, hname, hl9, hf1, hf2, hf3, hf4, htab, hA, hN, hZ⟩ := hC
  intro tys ad ws H locs ls h1 h2 h3 h4 h5 h6 hK hP hD hS hl
  exact lv_if_lt hx hb hd ht (fun q => kt q tys ad ws H locs ls h1 h2 h3 (a_okS_tl h4) h5 h6 hK hP hD hS hl) (fun q => kf q tys ad ws H locs ls h1 h2 h3 (a_okS_tl h4) h5 h6 hK hP hD hS hl)
theorem aw_icmp_lt (hC : aC y cc nL ret fr lo kc ks hh X) {x z : Int32} {off : Int} (hd : decode cc pc = .ok (.if_icmp .lt off, 3)) {tgt : Nat} (ht : (pc : Int) + off = (tgt : Int)) (kt : x < z → AW X cells slots tgt L st T I J R) (kf : ¬ x < z → AW X cells slots (pc + 3) L st T I J R) : AW X cells slots pc L (.int z :: .int x :: st) T I J R := by
  obtain ⟨p, l, e, Rm, s, m, args, below, meth, c, Q, A, D, ad0, T0⟩ := X
  obtain ⟨⟨hx, hb, hml, hown, hts⟩, hr, hlocks, hname, hl9, hf1, hf2, hf3, hf4, htab, hA, hN, hZ⟩ := hC
  intro tys ad ws H locs ls h1 h2 h3 h4 h5 h6 hK hP hD hS hl
  exact lv_icmp_lt hx hb hd ht (fun q => kt q tys ad ws H locs ls h1 h2 h3 (a_okS_tl (a_okS_tl h4)) h5 h6 hK hP hD hS hl) (fun q => kf q tys ad ws H locs ls h1 h2 h3 (a_okS_tl (a_okS_tl h4)) h5 h6 hK hP hD hS hl)
theorem aw_if_ge (hC : aC y cc nL ret fr lo kc ks hh X) {x : Int32} {off : Int} (hd : decode cc pc = .ok (.ifCond .ge off, 3)) {tgt : Nat} (ht : (pc : Int) + off = (tgt : Int)) (kt : 0 ≤ x → AW X cells slots tgt L st T I J R) (kf : ¬ 0 ≤ x → AW X cells slots (pc + 3) L st T I J R) : AW X cells slots pc L (.int x :: st) T I J R := by
  obtain ⟨p, l, e, Rm, s, m, args, below, meth, c, Q, A, D, ad0, T0⟩ := X
  obtain ⟨⟨hx, hb, hml, hown, hts⟩, hr, hlocks, hname, hl9, hf1, hf2, hf3, hf4, htab, hA, hN, hZ⟩ := hC
  intro tys ad ws H locs ls h1 h2 h3 h4 h5 h6 hK hP hD hS hl
  exact lv_if_ge hx hb hd ht (fun q => kt q tys ad ws H locs ls h1 h2 h3 (a_okS_tl h4) h5 h6 hK hP hD hS hl) (fun q => kf q tys ad ws H locs ls h1 h2 h3 (a_okS_tl h4) h5 h6 hK hP hD hS hl)
theorem aw_icmp_ge (hC : aC y cc nL ret fr lo kc ks hh X) {x z : Int32} {off : Int} (hd : decode cc pc = .ok (.if_icmp .ge off, 3)) {tgt : Nat} (ht : (pc : Int) + off = (tgt : Int)) (kt : z ≤ x → AW X cells slots tgt L st T I J R) (kf : ¬ z ≤ x → AW X cells slots (pc + 3) L st T I J R) : AW X cells slots pc L (.int z :: .int x :: st) T I J R := by
  obtain ⟨p, l, e, Rm, s, m, args, below, meth, c, Q, A, D, ad0, T0⟩ := X
  obtain ⟨⟨hx, hb, hml, hown, hts⟩, hr, hlocks, hname, hl9, hf1, hf2, hf3, hf4, htab, hA, hN, hZ⟩ := hC
  intro tys ad ws H locs ls h1 h2 h3 h4 h5 h6 hK hP hD hS hl
  exact lv_icmp_ge hx hb hd ht (fun q => kt q tys ad ws H locs ls h1 h2 h3 (a_okS_tl (a_okS_tl h4)) h5 h6 hK hP hD hS hl) (fun q => kf q tys ad ws H locs ls h1 h2 h3 (a_okS_tl (a_okS_tl h4)) h5 h6 hK hP hD hS hl)
theorem aw_if_gt (hC : aC y cc nL ret fr lo kc ks hh X) {x : Int32} {off : Int} (hd : decode cc pc = .ok (.ifCond .gt off, 3)) {tgt : Nat} (ht : (pc : Int) + off = (tgt : Int)) (kt : 0 < x → AW X cells slots tgt L st T I J R) (kf : ¬ 0 < x → AW X cells slots (pc + 3) L st T I J R) : AW X cells slots pc L (.int x :: st) T I J R := by
  obtain ⟨p, l, e, Rm, s, m, args, below, meth, c, Q, A, D, ad0, T0⟩ := X
  obtain ⟨⟨hx, hb, hml, hown, hts⟩, hr, hlocks, hname, hl9, hf1, hf2, hf3, hf4, htab, hA, hN, hZ⟩ := hC
  intro tys ad ws H locs ls h1 h2 h3 h4 h5 h6 hK hP hD hS hl
  exact lv_if_gt hx hb hd ht (fun q => kt q tys ad ws H locs ls h1 h2 h3 (a_okS_tl h4) h5 h6 hK hP hD hS hl) (fun q => kf q tys ad ws H locs ls h1 h2 h3 (a_okS_tl h4) h5 h6 hK hP hD hS hl)
theorem aw_icmp_gt (hC : aC y cc nL ret fr lo kc ks hh X) {x z : Int32} {off : Int} (hd : decode cc pc = .ok (.if_icmp .gt off, 3)) {tgt : Nat} (ht : (pc : Int) + off = (tgt : Int)) (kt : z < x → AW X cells slots tgt L st T I J R) (kf : ¬ z < x → AW X cells slots (pc + 3) L st T I J R) : AW X cells slots pc L (.int z :: .int x :: st) T I J R := by
  obtain ⟨p, l, e, Rm, s, m, args, below, meth, c, Q, A, D, ad0, T0⟩ := X
  obtain ⟨⟨hx, hb, hml, hown, hts⟩, hr, hlocks, hname, hl9, hf1, hf2, hf3, hf4, htab, hA, hN, hZ⟩ := hC
  intro tys ad ws H locs ls h1 h2 h3 h4 h5 h6 hK hP hD hS hl
  exact lv_icmp_gt hx hb hd ht (fun q => kt q tys ad ws H locs ls h1 h2 h3 (a_okS_tl (a_okS_tl h4)) h5 h6 hK hP hD hS hl) (fun q => kf q tys ad ws H locs ls h1 h2 h3 (a_okS_tl (a_okS_tl h4)) h5 h6 hK hP hD hS hl)
theorem aw_if_le (hC : aC y cc nL ret fr lo kc ks hh X) {x : Int32} {off : Int} (hd : decode cc pc = .ok (.ifCond .le off, 3)) {tgt : Nat} (ht : (pc : Int) + off = (tgt : Int)) (kt : x ≤ 0 → AW X cells slots tgt L st T I J R) (kf : ¬ x ≤ 0 → AW X cells slots (pc + 3) L st T I J R) : AW X cells slots pc L (.int x :: st) T I J R := by
  obtain ⟨p, l, e, Rm, s, m, args, below, meth, c, Q, A, D, ad0, T0⟩ := X
  obtain ⟨⟨hx, hb, hml, hown, hts⟩, hr, hlocks, hname, hl9, hf1, hf2, hf3, hf4, htab, hA, hN, hZ⟩ := hC
  intro tys ad ws H locs ls h1 h2 h3 h4 h5 h6 hK hP hD hS hl
  exact lv_if_le hx hb hd ht (fun q => kt q tys ad ws H locs ls h1 h2 h3 (a_okS_tl h4) h5 h6 hK hP hD hS hl) (fun q => kf q tys ad ws H locs ls h1 h2 h3 (a_okS_tl h4) h5 h6 hK hP hD hS hl)
theorem aw_icmp_le (hC : aC y cc nL ret fr lo kc ks hh X) {x z : Int32} {off : Int} (hd : decode cc pc = .ok (.if_icmp .le off, 3)) {tgt : Nat} (ht : (pc : Int) + off = (tgt : Int)) (kt : x ≤ z → AW X cells slots tgt L st T I J R) (kf : ¬ x ≤ z → AW X cells slots (pc + 3) L st T I J R) : AW X cells slots pc L (.int z :: .int x :: st) T I J R := by
  obtain ⟨p, l, e, Rm, s, m, args, below, meth, c, Q, A, D, ad0, T0⟩ := X
  obtain ⟨⟨hx, hb, hml, hown, hts⟩, hr, hlocks, hname, hl9, hf1, hf2, hf3, hf4, htab, hA, hN, hZ⟩ := hC
  intro tys ad ws H locs ls h1 h2 h3 h4 h5 h6 hK hP hD hS hl
  exact lv_icmp_le hx hb hd ht (fun q => kt q tys ad ws H locs ls h1 h2 h3 (a_okS_tl (a_okS_tl h4)) h5 h6 hK hP hD hS hl) (fun q => kf q tys ad ws H locs ls h1 h2 h3 (a_okS_tl (a_okS_tl h4)) h5 h6 hK hP hD hS hl)
theorem aw_goto {off : Int} {tgt : Nat} (hC : aC y cc nL ret fr lo kc ks hh X) (hd : decode cc pc = .ok (.goto off, 3)) (ht : (pc : Int) + off = (tgt : Int)) (k : AW X cells slots tgt L st T I J R) : AW X cells slots pc L st T I J R := by
  obtain ⟨p, l, e, Rm, s, m, args, below, meth, c, Q, A, D, ad0, T0⟩ := X
  obtain ⟨⟨hx, hb, hml, hown, hts⟩, hr, hlocks, hname, hl9, hf1, hf2, hf3, hf4, htab, hA, hN, hZ⟩ := hC
  intro tys ad ws H locs ls h1 h2 h3 h4 h5 h6 hK hP hD hS hl
  exact lv_goto hx hb hd ht (k tys ad ws H locs ls h1 h2 h3 h4 h5 h6 hK hP hD hS hl)
theorem aw_ifnull {x : Nat} {off : Int} (hC : aC y cc nL ret fr lo kc ks hh X) (hd : decode cc pc = .ok (.ifnull off, 3)) (k : AW X cells slots (pc + 3) L st T I J R) : AW X cells slots pc L (.ref x :: st) T I J R := by
  obtain ⟨p, l, e, Rm, s, m, args, below, meth, c, Q, A, D, ad0, T0⟩ := X
  obtain ⟨⟨hx, hb, hml, hown, hts⟩, hr, hlocks, hname, hl9, hf1, hf2, hf3, hf4, htab, hA, hN, hZ⟩ := hC
  intro tys ad ws H locs ls h1 h2 h3 h4 h5 h6 hK hP hD hS hl
  exact lv_ifnull hx hb hd (k tys ad ws H locs ls h1 h2 h3 (a_okS_tl h4) h5 h6 hK hP hD hS hl)
theorem aw_ifnullN {off : Int} {tgt : Nat} (hC : aC y cc nL ret fr lo kc ks hh X) (hd : decode cc pc = .ok (.ifnull off, 3)) (ht : (pc : Int) + off = (tgt : Int)) (k : AW X cells slots tgt L st T I J R) : AW X cells slots pc L (.null :: st) T I J R := by
  obtain ⟨p, l, e, Rm, s, m, args, below, meth, c, Q, A, D, ad0, T0⟩ := X
  obtain ⟨⟨hx, hb, hml, hown, hts⟩, hr, hlocks, hname, hl9, hf1, hf2, hf3, hf4, htab, hA, hN, hZ⟩ := hC
  intro tys ad ws H locs ls h1 h2 h3 h4 h5 h6 hK hP hD hS hl
  exact lv_ifnullN hx hb hd ht (k tys ad ws H locs ls h1 h2 h3 (a_okS_tl h4) h5 h6 hK hP hD hS hl)
theorem aw_ifnonnull {x : Nat} {off : Int} {tgt : Nat} (hC : aC y cc nL ret fr lo kc ks hh X) (hd : decode cc pc = .ok (.ifnonnull off, 3)) (ht : (pc : Int) + off = (tgt : Int)) (k : AW X cells slots tgt L st T I J R) : AW X cells slots pc L (.ref x :: st) T I J R := by
  obtain ⟨p, l, e, Rm, s, m, args, below, meth, c, Q, A, D, ad0, T0⟩ := X
  obtain ⟨⟨hx, hb, hml, hown, hts⟩, hr, hlocks, hname, hl9, hf1, hf2, hf3, hf4, htab, hA, hN, hZ⟩ := hC
  intro tys ad ws H locs ls h1 h2 h3 h4 h5 h6 hK hP hD hS hl
  exact lv_ifnonnull hx hb hd ht (k tys ad ws H locs ls h1 h2 h3 (a_okS_tl h4) h5 h6 hK hP hD hS hl)
theorem aw_ifnonnullN {off : Int} (hC : aC y cc nL ret fr lo kc ks hh X) (hd : decode cc pc = .ok (.ifnonnull off, 3)) (k : AW X cells slots (pc + 3) L st T I J R) : AW X cells slots pc L (.null :: st) T I J R := by
  obtain ⟨p, l, e, Rm, s, m, args, below, meth, c, Q, A, D, ad0, T0⟩ := X
  obtain ⟨⟨hx, hb, hml, hown, hts⟩, hr, hlocks, hname, hl9, hf1, hf2, hf3, hf4, htab, hA, hN, hZ⟩ := hC
  intro tys ad ws H locs ls h1 h2 h3 h4 h5 h6 hK hP hD hS hl
  exact lv_ifnonnullN hx hb hd (k tys ad ws H locs ls h1 h2 h3 (a_okS_tl h4) h5 h6 hK hP hD hS hl)
theorem aw_tableOut {dflt lo0 hi0 : Int} {offs : Array Int} {len : Nat} {x : Int32} {tgt : Nat} (hC : aC y cc nL ret fr lo kc ks hh X) (hd : decode cc pc = .ok (.tableswitch dflt lo0 hi0 offs, len)) (h0 : x.toInt < lo0 ∨ hi0 < x.toInt) (ht : (pc : Int) + dflt = (tgt : Int)) (k : AW X cells slots tgt L st T I J R) : AW X cells slots pc L (.int x :: st) T I J R := by
  obtain ⟨p, l, e, Rm, s, m, args, below, meth, c, Q, A, D, ad0, T0⟩ := X
  obtain ⟨⟨hx, hb, hml, hown, hts⟩, hr, hlocks, hname, hl9, hf1, hf2, hf3, hf4, htab, hA, hN, hZ⟩ := hC
  intro tys ad ws H locs ls h1 h2 h3 h4 h5 h6 hK hP hD hS hl
  exact lv_tableOut hx hb hd h0 ht (k tys ad ws H locs ls h1 h2 h3 (a_okS_tl h4) h5 h6 hK hP hD hS hl)
theorem aw_tableIn {dflt lo0 hi0 : Int} {offs : Array Int} {len : Nat} {x : Int32} {off : Int} {tgt : Nat} (hC : aC y cc nL ret fr lo kc ks hh X) (hd : decode cc pc = .ok (.tableswitch dflt lo0 hi0 offs, len)) (g1 : ¬ x.toInt < lo0) (g2 : ¬ hi0 < x.toInt) (ho : offs[(x.toInt - lo0).toNat]? = some off) (ht : (pc : Int) + off = (tgt : Int)) (k : AW X cells slots tgt L st T I J R) : AW X cells slots pc L (.int x :: st) T I J R := by
  obtain ⟨p, l, e, Rm, s, m, args, below, meth, c, Q, A, D, ad0, T0⟩ := X
  obtain ⟨⟨hx, hb, hml, hown, hts⟩, hr, hlocks, hname, hl9, hf1, hf2, hf3, hf4, htab, hA, hN, hZ⟩ := hC
  intro tys ad ws H locs ls h1 h2 h3 h4 h5 h6 hK hP hD hS hl
  exact lv_tableIn hx hb hd g1 g2 ho ht (k tys ad ws H locs ls h1 h2 h3 (a_okS_tl h4) h5 h6 hK hP hD hS hl)
end AWROWS
