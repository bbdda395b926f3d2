theorem a_ok_le {n : Nat} {I : aI} {J : aJ} {R : aR} (h : a_ok n I J R) {o k q : Nat} (hq : R o k = some q) : q < n := h.1 o k q hq
theorem a_u_self {α : Type} {f : Nat → Nat → α} {o k : Nat} {v : α} : a_u f o k v o k = v := by simp [a_u]
theorem a_u_ne {α : Type} {f : Nat → Nat → α} {o k a b : Nat} {v : α} (h : ¬ (a = o ∧ b = k)) : a_u f o k v a b = f a b := by simp only [a_u, if_neg h]
theorem a_u_row {α : Type} {f : Nat → Nat → α} {o k a : Nat} {v : α} (h : a ≠ o) : a_u f o k v a = f a := funext fun b => a_u_ne (fun q => h q.1)
theorem a_okI {n : Nat} {I : aI} {J : aJ} {R : aR} (h : a_ok n I J R) {o k : Nat} {x : Int32} (ho : o < n) : a_ok n (a_u I o k x) J R :=
  ⟨h.1, fun a ha => ⟨by rw [a_u_row (by omega)]; exact (h.2 a ha).1, (h.2 a ha).2⟩⟩
theorem a_okJ {n : Nat} {I : aI} {J : aJ} {R : aR} (h : a_ok n I J R) {o k : Nat} {x : Int64} (ho : o < n) : a_ok n I (a_u J o k x) R :=
  ⟨h.1, fun a ha => ⟨(h.2 a ha).1, by rw [a_u_row (by omega)]; exact (h.2 a ha).2.1, (h.2 a ha).2.2⟩⟩
theorem a_okR {n : Nat} {I : aI} {J : aJ} {R : aR} (h : a_ok n I J R) {o k : Nat} {x : Option Nat} (ho : o < n) (hx : ∀ q, x = some q → q < n) : a_ok n I J (a_u R o k x) :=
  ⟨fun a b q e => by
    by_cases c : a = o ∧ b = k
    · obtain ⟨rfl, rfl⟩ := c
      rw [a_u_self] at e
      exact hx q e
    · rw [a_u_ne c] at e
      exact h.1 a b q e, fun a ha => ⟨(h.2 a ha).1, (h.2 a ha).2.1, by rw [a_u_row (by omega)]; exact (h.2 a ha).2.2⟩⟩
theorem a_cell_eq {ad : Nat → Nat} {I I' : aI} {J J' : aJ} {R R' : aR} {o : Nat} {t : aT} {cA : ClassId} (hI : I' o = I o) (hJ : J' o = J o) (hR : R' o = R o) : a_cell ad I' J' R' o t cA = a_cell ad I J R o t cA := by
  cases t with
  | inl x => simp only [a_cell, a_av, hI, hJ, hR]
  | inr ci => simp only [a_cell, a_fv, hI, hJ, hR]
theorem a_cell_ad {ad ad' : Nat → Nat} {I : aI} {J : aJ} {R : aR} {o n : Nat} {t : aT} {cA : ClassId} (h : ∀ i, i < n → ad' i = ad i) (hok : a_ok n I J R) : a_cell ad' I J R o t cA = a_cell ad I J R o t cA := by
  have e : ∀ k, (R o k).map ad' = (R o k).map ad := fun k => by
    cases hq : R o k with
    | none => rfl
    | some q => simp only [Option.map_some, h q (hok.1 o k q hq)]
  cases t with
  | inl x => simp only [a_cell, a_av, e]
  | inr ci => simp only [a_cell, a_fv, e]
theorem a_rel_lt {T : List aT} {o : Nat} {t : aT} (h : T[o]? = some t) : o < T.length := (List.getElem?_eq_some_iff.mp h).1
theorem a_rel_at {T : List aT} {I : aI} {J : aJ} {R : aR} {tys : List (ClassId × FieldType)} {ad : Nat → Nat} {ws : va_W} (h : a_rel T I J R tys ad ws) {o ci : Nat} (hT : T[o]? = some (.inr ci)) : ws[o]? = some (ad o, .inr (ci, (List.range (a_nf ci)).map (fun k => a_fv ad I J R o k (a_fty ci k)))) := by
  obtain ⟨cA, h1, -⟩ := h.2 o _ hT
  exact h1
theorem a_rel_arr {T : List aT} {I : aI} {J : aJ} {R : aR} {tys : List (ClassId × FieldType)} {ad : Nat → Nat} {ws : va_W} (h : a_rel T I J R tys ad ws) {o n : Nat} {ty : FieldType} (hT : T[o]? = some (.inl (ty, n))) : ∃ (cA : ClassId) (t0 : Nat), ws[o]? = some (ad o, .inl (cA, n, a_av ad I J R o ty)) ∧ tys[t0]? = some (cA, ty) := by
  obtain ⟨cA, h1, h2⟩ := h.2 o _ hT
  obtain ⟨t0, h3⟩ := h2 ty n rfl
  exact ⟨cA, t0, h1, h3⟩
theorem a_rel_set {T : List aT} {I I' : aI} {J J' : aJ} {R R' : aR} {tys : List (ClassId × FieldType)} {ad : Nat → Nat} {ws : va_W} (h : a_rel T I J R tys ad ws) {a : Nat} {t : aT} {cA : ClassId} {e : va_E} (hT : T[a]? = some t) (hty : ∀ (ty : FieldType) (n : Nat), t = .inl (ty, n) → ∃ t0 : Nat, tys[t0]? = some (cA, ty))
    (hI : ∀ o, o ≠ a → I' o = I o) (hJ : ∀ o, o ≠ a → J' o = J o) (hR : ∀ o, o ≠ a → R' o = R o) (he : e = a_cell ad I' J' R' a t cA) : a_rel T I' J' R' tys ad (ws.set a (ad a, e)) := by
  refine ⟨by rw [List.length_set]; exact h.1, fun i t' hi => ?_⟩
  by_cases c : a = i
  · subst c
    cases Option.some.inj (hT.symm.trans hi)
    exact ⟨cA, by rw [List.getElem?_set_self (by rw [h.1]; exact a_rel_lt hi), he], hty⟩
  · obtain ⟨cA', g1, g2⟩ := h.2 i t' hi
    exact ⟨cA', by rw [List.getElem?_set_ne c, g1, a_cell_eq (hI i (fun q => c q.symm)) (hJ i (fun q => c q.symm)) (hR i (fun q => c q.symm))], g2⟩
theorem a_fs_get {nf k : Nat} {g : Nat → Value} (hk : k < nf) : ((List.range nf).map g)[k]? = some (g k) := by
  rw [List.getElem?_map, List.getElem?_range hk]; rfl
theorem a_fs_set {nf k : Nat} {g g' : Nat → Value} {v : Value} (hk : k < nf) (h1 : g' k = v) (h2 : ∀ j, j ≠ k → g' j = g j) : ((List.range nf).map g).set k v = (List.range nf).map g' := by
  apply List.ext_getElem?
  intro j
  rw [List.getElem?_set]
  by_cases c : k = j
  · subst c
    rw [if_pos rfl, if_pos (by simpa using hk), a_fs_get hk, h1]
  · rw [if_neg c, List.getElem?_map, List.getElem?_map]
    by_cases hj : j < nf
    · rw [List.getElem?_range hj]
      simp only [Option.map_some, h2 j (fun q => c q.symm)]
    · rw [List.getElem?_eq_none (by simp; omega)]; rfl
def a_kd (ty : FieldType) : Nat := match ty with
  | .long => 1
  | .object _ => 2
  | .array _ => 2
  | .float => 3
  | .double => 3
  | _ => 0
theorem a_fv_0 {ad : Nat → Nat} {I : aI} {J : aJ} {R : aR} {o k : Nat} {ty : FieldType} (h : a_kd ty = 0) : a_fv ad I J R o k ty = .int (I o k) := by cases ty <;> first | rfl | (simp [a_kd] at h)
theorem a_fv_1 {ad : Nat → Nat} {I : aI} {J : aJ} {R : aR} {o k : Nat} {ty : FieldType} (h : a_kd ty = 1) : a_fv ad I J R o k ty = .long (J o k) := by cases ty <;> first | rfl | (simp [a_kd] at h)
theorem a_fv_2 {ad : Nat → Nat} {I : aI} {J : aJ} {R : aR} {o k : Nat} {ty : FieldType} (h : a_kd ty = 2) : a_fv ad I J R o k ty = va_rf ((R o k).map ad) := by cases ty <;> first | rfl | (simp [a_kd] at h)
/-- a class of the tables: its number, its name, its fields; and a field by its place in a class's pool -/
def aClass (ci : Nat) (C : String) (Tb : u_T) : Prop := vwCl[ci]? = some (C, Tb, a_nf ci) ∧ (∀ w ∈ u_ws C Tb (a_nf ci), w ∈ a_G) ∧ (∀ k, k < a_nf ci → parseFieldDescriptor (Tb k).2.2.1 = some (a_fty ci k)) ∧ (∀ a, a < a_nf ci → ∀ b, b < a_nf ci → a ≠ b → (Tb a).2.1 ≠ (Tb b).2.1) ∧ (∀ k, k < a_nf ci → (Tb k).1 = C) ∧ ∀ k, k < a_nf ci → a_kd (a_fty ci k) ≠ 3
def aF (own : String) (idx ci : Nat) (C : String) (Tb : u_T) (k : Nat) : Prop := aClass ci C Tb ∧ k < a_nf ci ∧ Cond.fieldLink own idx C (Tb k).2.1 (Tb k).2.2.1 ∈ a_G
section AWMEM
variable {y : MethodName} {cc : ByteArray} {nL : Nat} {ret : Option FieldType} {fr lo kc ks : Nat} {hh : List (Nat × Nat × Nat × Nat)} {X : aX} {cells slots pc : Nat} {L : List (Option Value)} {st : List Value} {T : List aT} {I : aI} {J : aJ} {R : aR}
theorem aw_getI (hC : aC y cc nL ret fr lo kc ks hh X) {o idx ci k0 : Nat} {C : String} {Tb : u_T} (hd : decode cc pc = .ok (.getfield idx, 3)) (hf : aF y.cls idx ci C Tb k0) (hk0 : a_kd (a_fty ci k0) = 0) (hT : T[o]? = some (.inr ci))  (k : AW X cells slots (pc + 3) L (.int (I o k0) :: st) T I J R) : AW X cells slots pc L (.ref o :: st) T I J R := by
  obtain ⟨p, l, e, Rm, s, m, args, below, meth, c, Q, A, D, ad0, T0⟩ := X
  obtain ⟨⟨hx, hb, hml, hown, hts⟩, hr, hlocks, hname, hl9, hf1, hf2, hf3, hf4, htab, hA, hN, hZ⟩ := hC
  obtain ⟨⟨g1, g2, g3, g4, g5, g6⟩, hk, hlink⟩ := hf
  intro tys ad ws H locs ls h1 h2 h3 h4 h5 h6 hK hP hD hS hl
  refine va_get (v := .int (I o k0)) hx hb hts g2 hown hK hP o (a_rel_at h1 hT) g1 k0 hk (hts _ hlink) (fun x9 h9 => by rw [g5 k0 hk] at h9; exact h9) (by rw [a_fs_get hk, a_fv_0 hk0]) hd ?_
  exact k tys ad ws H locs ls h1 h2 h3 (a_okS_cons a_okv_int (a_okS_tl h4)) h5 h6 hK hP hD hS hl
theorem aw_getJ (hC : aC y cc nL ret fr lo kc ks hh X) {o idx ci k0 : Nat} {C : String} {Tb : u_T} (hd : decode cc pc = .ok (.getfield idx, 3)) (hf : aF y.cls idx ci C Tb k0) (hk0 : a_kd (a_fty ci k0) = 1) (hT : T[o]? = some (.inr ci))  (k : AW X cells slots (pc + 3) L (.long (J o k0) :: st) T I J R) : AW X cells slots pc L (.ref o :: st) T I J R := by
  obtain ⟨p, l, e, Rm, s, m, args, below, meth, c, Q, A, D, ad0, T0⟩ := X
  obtain ⟨⟨hx, hb, hml, hown, hts⟩, hr, hlocks, hname, hl9, hf1, hf2, hf3, hf4, htab, hA, hN, hZ⟩ := hC
  obtain ⟨⟨g1, g2, g3, g4, g5, g6⟩, hk, hlink⟩ := hf
  intro tys ad ws H locs ls h1 h2 h3 h4 h5 h6 hK hP hD hS hl
  refine va_get (v := .long (J o k0)) hx hb hts g2 hown hK hP o (a_rel_at h1 hT) g1 k0 hk (hts _ hlink) (fun x9 h9 => by rw [g5 k0 hk] at h9; exact h9) (by rw [a_fs_get hk, a_fv_1 hk0]) hd ?_
  exact k tys ad ws H locs ls h1 h2 h3 (a_okS_cons a_okv_long (a_okS_tl h4)) h5 h6 hK hP hD hS hl
theorem aw_getR (hC : aC y cc nL ret fr lo kc ks hh X) {o idx ci k0 : Nat} {C : String} {Tb : u_T} (hd : decode cc pc = .ok (.getfield idx, 3)) (hf : aF y.cls idx ci C Tb k0) (hk0 : a_kd (a_fty ci k0) = 2) (hT : T[o]? = some (.inr ci)) {q0 : Nat} (hR : R o k0 = some q0) (k : AW X cells slots (pc + 3) L (.ref q0 :: st) T I J R) : AW X cells slots pc L (.ref o :: st) T I J R := by
  obtain ⟨p, l, e, Rm, s, m, args, below, meth, c, Q, A, D, ad0, T0⟩ := X
  obtain ⟨⟨hx, hb, hml, hown, hts⟩, hr, hlocks, hname, hl9, hf1, hf2, hf3, hf4, htab, hA, hN, hZ⟩ := hC
  obtain ⟨⟨g1, g2, g3, g4, g5, g6⟩, hk, hlink⟩ := hf
  intro tys ad ws H locs ls h1 h2 h3 h4 h5 h6 hK hP hD hS hl
  refine va_get (v := .ref (ad q0)) hx hb hts g2 hown hK hP o (a_rel_at h1 hT) g1 k0 hk (hts _ hlink) (fun x9 h9 => by rw [g5 k0 hk] at h9; exact h9) (by rw [a_fs_get hk, a_fv_2 hk0]; rw [hR]; rfl) hd ?_
  exact k tys ad ws H locs ls h1 h2 h3 (a_okS_cons (a_okv_ref (a_ok_le h2 hR)) (a_okS_tl h4)) h5 h6 hK hP hD hS hl
theorem aw_getN (hC : aC y cc nL ret fr lo kc ks hh X) {o idx ci k0 : Nat} {C : String} {Tb : u_T} (hd : decode cc pc = .ok (.getfield idx, 3)) (hf : aF y.cls idx ci C Tb k0) (hk0 : a_kd (a_fty ci k0) = 2) (hT : T[o]? = some (.inr ci)) (hR : R o k0 = none) (k : AW X cells slots (pc + 3) L (.null :: st) T I J R) : AW X cells slots pc L (.ref o :: st) T I J R := by
  obtain ⟨p, l, e, Rm, s, m, args, below, meth, c, Q, A, D, ad0, T0⟩ := X
  obtain ⟨⟨hx, hb, hml, hown, hts⟩, hr, hlocks, hname, hl9, hf1, hf2, hf3, hf4, htab, hA, hN, hZ⟩ := hC
  obtain ⟨⟨g1, g2, g3, g4, g5, g6⟩, hk, hlink⟩ := hf
  intro tys ad ws H locs ls h1 h2 h3 h4 h5 h6 hK hP hD hS hl
  refine va_get (v := .null) hx hb hts g2 hown hK hP o (a_rel_at h1 hT) g1 k0 hk (hts _ hlink) (fun x9 h9 => by rw [g5 k0 hk] at h9; exact h9) (by rw [a_fs_get hk, a_fv_2 hk0]; rw [hR]; rfl) hd ?_
  exact k tys ad ws H locs ls h1 h2 h3 (a_okS_cons a_okv_null (a_okS_tl h4)) h5 h6 hK hP hD hS hl
theorem aw_putI (hC : aC y cc nL ret fr lo kc ks hh X) {o idx ci k0 : Nat} {C : String} {Tb : u_T} {x : Int32} (hd : decode cc pc = .ok (.putfield idx, 3)) (hf : aF y.cls idx ci C Tb k0) (hk0 : a_fty ci k0 = .int) (hfin : (Tb k0).2.2.2 = false) (hT : T[o]? = some (.inr ci))  (k : AW X cells slots (pc + 3) L st T (a_u I o k0 x) J R) : AW X cells slots pc L (.int x :: .ref o :: st) T I J R := by
  obtain ⟨p, l, e, Rm, s, m, args, below, meth, c, Q, A, D, ad0, T0⟩ := X
  obtain ⟨⟨hx, hb, hml, hown, hts⟩, hr, hlocks, hname, hl9, hf1, hf2, hf3, hf4, htab, hA, hN, hZ⟩ := hC
  obtain ⟨⟨g1, g2, g3, g4, g5, g6⟩, hk, hlink⟩ := hf
  intro tys ad ws H locs ls h1 h2 h3 h4 h5 h6 hK hP hD hS hl
  refine va_put (v := .int x) hx hb hts g2 (a_fty ci) g3 g4 hown hK hP hD hS o (a_rel_at h1 hT) g1 k0 hk (hts _ hlink) (fun x9 h9 => by rw [g5 k0 hk] at h9; exact h9) hfin (g3 k0 hk) (by rw [hk0]; rfl) (by rw [hk0]; rfl) (by simpa using hk) hd (fun H1 locs1 hP1 hD1 hS1 => ?_)
  refine k tys ad _ H1 locs1 ls (a_rel_set h1 hT (cA := 0) (fun ty n q => nomatch q) (fun o9 h9 => a_u_row h9) (fun _ _ => rfl) (fun _ _ => rfl) ?_) (a_okI h2 (a_rel_lt hT)) h3 (a_okS_tl (a_okS_tl h4)) h5 h6 hK hP1 hD1 hS1 hl
  show _ = Sum.inr (ci, _)
  rw [a_fs_set hk (g' := fun k => a_fv ad (a_u I o k0 x) J R o k (a_fty ci k))]
  · rw [a_fv_0 (by rw [hk0]; rfl)]; rw [a_u_self]
  · intro j hj
    simp only [a_fv, a_u_ne (fun q : o = o ∧ j = k0 => hj q.2)]
theorem aw_putZ (hC : aC y cc nL ret fr lo kc ks hh X) {o idx ci k0 : Nat} {C : String} {Tb : u_T} {x : Int32} (hd : decode cc pc = .ok (.putfield idx, 3)) (hf : aF y.cls idx ci C Tb k0) (hk0 : a_fty ci k0 = .boolean) (hfin : (Tb k0).2.2.2 = false) (hT : T[o]? = some (.inr ci)) (hx0 : x = 0 ∨ x = 1) (k : AW X cells slots (pc + 3) L st T (a_u I o k0 x) J R) : AW X cells slots pc L (.int x :: .ref o :: st) T I J R := by
  obtain ⟨p, l, e, Rm, s, m, args, below, meth, c, Q, A, D, ad0, T0⟩ := X
  obtain ⟨⟨hx, hb, hml, hown, hts⟩, hr, hlocks, hname, hl9, hf1, hf2, hf3, hf4, htab, hA, hN, hZ⟩ := hC
  obtain ⟨⟨g1, g2, g3, g4, g5, g6⟩, hk, hlink⟩ := hf
  intro tys ad ws H locs ls h1 h2 h3 h4 h5 h6 hK hP hD hS hl
  refine va_put (v := .int x) hx hb hts g2 (a_fty ci) g3 g4 hown hK hP hD hS o (a_rel_at h1 hT) g1 k0 hk (hts _ hlink) (fun x9 h9 => by rw [g5 k0 hk] at h9; exact h9) hfin (g3 k0 hk) (by rw [hk0]; rcases hx0 with rfl | rfl <;> rfl) (by rw [hk0]; rcases hx0 with rfl | rfl <;> rfl) (by simpa using hk) hd (fun H1 locs1 hP1 hD1 hS1 => ?_)
  refine k tys ad _ H1 locs1 ls (a_rel_set h1 hT (cA := 0) (fun ty n q => nomatch q) (fun o9 h9 => a_u_row h9) (fun _ _ => rfl) (fun _ _ => rfl) ?_) (a_okI h2 (a_rel_lt hT)) h3 (a_okS_tl (a_okS_tl h4)) h5 h6 hK hP1 hD1 hS1 hl
  show _ = Sum.inr (ci, _)
  rw [a_fs_set hk (g' := fun k => a_fv ad (a_u I o k0 x) J R o k (a_fty ci k))]
  · rw [a_fv_0 (by rw [hk0]; rfl)]; rw [a_u_self]
  · intro j hj
    simp only [a_fv, a_u_ne (fun q : o = o ∧ j = k0 => hj q.2)]
theorem aw_putJ (hC : aC y cc nL ret fr lo kc ks hh X) {o idx ci k0 : Nat} {C : String} {Tb : u_T} {x : Int64} (hd : decode cc pc = .ok (.putfield idx, 3)) (hf : aF y.cls idx ci C Tb k0) (hk0 : a_kd (a_fty ci k0) = 1) (hfin : (Tb k0).2.2.2 = false) (hT : T[o]? = some (.inr ci))  (k : AW X cells slots (pc + 3) L st T I (a_u J o k0 x) R) : AW X cells slots pc L (.long x :: .ref o :: st) T I J R := by
  obtain ⟨p, l, e, Rm, s, m, args, below, meth, c, Q, A, D, ad0, T0⟩ := X
  obtain ⟨⟨hx, hb, hml, hown, hts⟩, hr, hlocks, hname, hl9, hf1, hf2, hf3, hf4, htab, hA, hN, hZ⟩ := hC
  obtain ⟨⟨g1, g2, g3, g4, g5, g6⟩, hk, hlink⟩ := hf
  intro tys ad ws H locs ls h1 h2 h3 h4 h5 h6 hK hP hD hS hl
  refine va_put (v := .long x) hx hb hts g2 (a_fty ci) g3 g4 hown hK hP hD hS o (a_rel_at h1 hT) g1 k0 hk (hts _ hlink) (fun x9 h9 => by rw [g5 k0 hk] at h9; exact h9) hfin (g3 k0 hk) (by cases h9 : a_fty ci k0 <;> rfl) (by cases h9 : a_fty ci k0 <;> first | rfl | (rw [h9] at hk0; simp [a_kd] at hk0)) (by simpa using hk) hd (fun H1 locs1 hP1 hD1 hS1 => ?_)
  refine k tys ad _ H1 locs1 ls (a_rel_set h1 hT (cA := 0) (fun ty n q => nomatch q) (fun _ _ => rfl) (fun o9 h9 => a_u_row h9) (fun _ _ => rfl) ?_) (a_okJ h2 (a_rel_lt hT)) h3 (a_okS_tl (a_okS_tl h4)) h5 h6 hK hP1 hD1 hS1 hl
  show _ = Sum.inr (ci, _)
  rw [a_fs_set hk (g' := fun k => a_fv ad I (a_u J o k0 x) R o k (a_fty ci k))]
  · rw [a_fv_1 (by exact hk0)]; rw [a_u_self]
  · intro j hj
    simp only [a_fv, a_u_ne (fun q : o = o ∧ j = k0 => hj q.2)]
theorem aw_putR (hC : aC y cc nL ret fr lo kc ks hh X) {o idx ci k0 : Nat} {C : String} {Tb : u_T} {q0 : Nat} (hd : decode cc pc = .ok (.putfield idx, 3)) (hf : aF y.cls idx ci C Tb k0) (hk0 : a_kd (a_fty ci k0) = 2) (hfin : (Tb k0).2.2.2 = false) (hT : T[o]? = some (.inr ci))  (k : AW X cells slots (pc + 3) L st T I J (a_u R o k0 (some q0))) : AW X cells slots pc L (.ref q0 :: .ref o :: st) T I J R := by
  obtain ⟨p, l, e, Rm, s, m, args, below, meth, c, Q, A, D, ad0, T0⟩ := X
  obtain ⟨⟨hx, hb, hml, hown, hts⟩, hr, hlocks, hname, hl9, hf1, hf2, hf3, hf4, htab, hA, hN, hZ⟩ := hC
  obtain ⟨⟨g1, g2, g3, g4, g5, g6⟩, hk, hlink⟩ := hf
  intro tys ad ws H locs ls h1 h2 h3 h4 h5 h6 hK hP hD hS hl
  refine va_put (v := .ref (ad q0)) hx hb hts g2 (a_fty ci) g3 g4 hown hK hP hD hS o (a_rel_at h1 hT) g1 k0 hk (hts _ hlink) (fun x9 h9 => by rw [g5 k0 hk] at h9; exact h9) hfin (g3 k0 hk) (by cases h9 : a_fty ci k0 <;> rfl) (by cases h9 : a_fty ci k0 <;> first | rfl | (rw [h9] at hk0; simp [a_kd] at hk0)) (by simpa using hk) hd (fun H1 locs1 hP1 hD1 hS1 => ?_)
  refine k tys ad _ H1 locs1 ls (a_rel_set h1 hT (cA := 0) (fun ty n q => nomatch q) (fun _ _ => rfl) (fun _ _ => rfl) (fun o9 h9 => a_u_row h9) ?_) (a_okR h2 (a_rel_lt hT) (fun q9 e9 => by cases e9; exact a_okS_hd h4 _ rfl)) h3 (a_okS_tl (a_okS_tl h4)) h5 h6 hK hP1 hD1 hS1 hl
  show _ = Sum.inr (ci, _)
  rw [a_fs_set hk (g' := fun k => a_fv ad I J (a_u R o k0 (some q0)) o k (a_fty ci k))]
  · rw [a_fv_2 (by exact hk0)]; rw [a_u_self]; rfl
  · intro j hj
    simp only [a_fv, a_u_ne (fun q : o = o ∧ j = k0 => hj q.2)]
theorem aw_putN (hC : aC y cc nL ret fr lo kc ks hh X) {o idx ci k0 : Nat} {C : String} {Tb : u_T}  (hd : decode cc pc = .ok (.putfield idx, 3)) (hf : aF y.cls idx ci C Tb k0) (hk0 : a_kd (a_fty ci k0) = 2) (hfin : (Tb k0).2.2.2 = false) (hT : T[o]? = some (.inr ci))  (k : AW X cells slots (pc + 3) L st T I J (a_u R o k0 none)) : AW X cells slots pc L (.null :: .ref o :: st) T I J R := by
  obtain ⟨p, l, e, Rm, s, m, args, below, meth, c, Q, A, D, ad0, T0⟩ := X
  obtain ⟨⟨hx, hb, hml, hown, hts⟩, hr, hlocks, hname, hl9, hf1, hf2, hf3, hf4, htab, hA, hN, hZ⟩ := hC
  obtain ⟨⟨g1, g2, g3, g4, g5, g6⟩, hk, hlink⟩ := hf
  intro tys ad ws H locs ls h1 h2 h3 h4 h5 h6 hK hP hD hS hl
  refine va_put (v := .null) hx hb hts g2 (a_fty ci) g3 g4 hown hK hP hD hS o (a_rel_at h1 hT) g1 k0 hk (hts _ hlink) (fun x9 h9 => by rw [g5 k0 hk] at h9; exact h9) hfin (g3 k0 hk) (by cases h9 : a_fty ci k0 <;> rfl) (by cases h9 : a_fty ci k0 <;> first | rfl | (rw [h9] at hk0; simp [a_kd] at hk0)) (by simpa using hk) hd (fun H1 locs1 hP1 hD1 hS1 => ?_)
  refine k tys ad _ H1 locs1 ls (a_rel_set h1 hT (cA := 0) (fun ty n q => nomatch q) (fun _ _ => rfl) (fun _ _ => rfl) (fun o9 h9 => a_u_row h9) ?_) (a_okR h2 (a_rel_lt hT) (fun q9 e9 => nomatch e9)) h3 (a_okS_tl (a_okS_tl h4)) h5 h6 hK hP1 hD1 hS1 hl
  show _ = Sum.inr (ci, _)
  rw [a_fs_set hk (g' := fun k => a_fv ad I J (a_u R o k0 none) o k (a_fty ci k))]
  · rw [a_fv_2 (by exact hk0)]; rw [a_u_self]; rfl
  · intro j hj
    simp only [a_fv, a_u_ne (fun q : o = o ∧ j = k0 => hj q.2)]
theorem aw_putIF (hC : aC y cc nL ret fr lo kc ks hh X) {o idx ci k0 : Nat} {C : String} {Tb : u_T} {x : Int32} (hd : decode cc pc = .ok (.putfield idx, 3)) (hf : aF y.cls idx ci C Tb k0) (hk0 : a_fty ci k0 = .int) (hfin : (Tb k0).2.2.2 = true) (hin : y.name = "<init>") (hown9 : C = y.cls) (hT : T[o]? = some (.inr ci))  (k : AW X cells slots (pc + 3) L st T (a_u I o k0 x) J R) : AW X cells slots pc L (.int x :: .ref o :: st) T I J R := by
  obtain ⟨p, l, e, Rm, s, m, args, below, meth, c, Q, A, D, ad0, T0⟩ := X
  obtain ⟨⟨hx, hb, hml, hown, hts⟩, hr, hlocks, hname, hl9, hf1, hf2, hf3, hf4, htab, hA, hN, hZ⟩ := hC
  obtain ⟨⟨g1, g2, g3, g4, g5, g6⟩, hk, hlink⟩ := hf
  intro tys ad ws H locs ls h1 h2 h3 h4 h5 h6 hK hP hD hS hl
  refine va_putF (v := .int x) hx hb hts g2 (a_fty ci) g3 g4 hown hK hP hD hS o (a_rel_at h1 hT) g1 k0 hk (hts _ hlink) (fun x9 h9 => by rw [g5 k0 hk] at h9; exact h9) hfin (hname.trans hin) (by rw [g5 k0 hk]; exact hown9) (g3 k0 hk) (by rw [hk0]; rfl) (by rw [hk0]; rfl) (by simpa using hk) hd (fun H1 locs1 hP1 hD1 hS1 => ?_)
  refine k tys ad _ H1 locs1 ls (a_rel_set h1 hT (cA := 0) (fun ty n q => nomatch q) (fun o9 h9 => a_u_row h9) (fun _ _ => rfl) (fun _ _ => rfl) ?_) (a_okI h2 (a_rel_lt hT)) h3 (a_okS_tl (a_okS_tl h4)) h5 h6 hK hP1 hD1 hS1 hl
  show _ = Sum.inr (ci, _)
  rw [a_fs_set hk (g' := fun k => a_fv ad (a_u I o k0 x) J R o k (a_fty ci k))]
  · rw [a_fv_0 (by rw [hk0]; rfl)]; rw [a_u_self]
  · intro j hj
    simp only [a_fv, a_u_ne (fun q : o = o ∧ j = k0 => hj q.2)]
theorem aw_putZF (hC : aC y cc nL ret fr lo kc ks hh X) {o idx ci k0 : Nat} {C : String} {Tb : u_T} {x : Int32} (hd : decode cc pc = .ok (.putfield idx, 3)) (hf : aF y.cls idx ci C Tb k0) (hk0 : a_fty ci k0 = .boolean) (hfin : (Tb k0).2.2.2 = true) (hin : y.name = "<init>") (hown9 : C = y.cls) (hT : T[o]? = some (.inr ci)) (hx0 : x = 0 ∨ x = 1) (k : AW X cells slots (pc + 3) L st T (a_u I o k0 x) J R) : AW X cells slots pc L (.int x :: .ref o :: st) T I J R := by
  obtain ⟨p, l, e, Rm, s, m, args, below, meth, c, Q, A, D, ad0, T0⟩ := X
  obtain ⟨⟨hx, hb, hml, hown, hts⟩, hr, hlocks, hname, hl9, hf1, hf2, hf3, hf4, htab, hA, hN, hZ⟩ := hC
  obtain ⟨⟨g1, g2, g3, g4, g5, g6⟩, hk, hlink⟩ := hf
  intro tys ad ws H locs ls h1 h2 h3 h4 h5 h6 hK hP hD hS hl
  refine va_putF (v := .int x) hx hb hts g2 (a_fty ci) g3 g4 hown hK hP hD hS o (a_rel_at h1 hT) g1 k0 hk (hts _ hlink) (fun x9 h9 => by rw [g5 k0 hk] at h9; exact h9) hfin (hname.trans hin) (by rw [g5 k0 hk]; exact hown9) (g3 k0 hk) (by rw [hk0]; rcases hx0 with rfl | rfl <;> rfl) (by rw [hk0]; rcases hx0 with rfl | rfl <;> rfl) (by simpa using hk) hd (fun H1 locs1 hP1 hD1 hS1 => ?_)
  refine k tys ad _ H1 locs1 ls (a_rel_set h1 hT (cA := 0) (fun ty n q => nomatch q) (fun o9 h9 => a_u_row h9) (fun _ _ => rfl) (fun _ _ => rfl) ?_) (a_okI h2 (a_rel_lt hT)) h3 (a_okS_tl (a_okS_tl h4)) h5 h6 hK hP1 hD1 hS1 hl
  show _ = Sum.inr (ci, _)
  rw [a_fs_set hk (g' := fun k => a_fv ad (a_u I o k0 x) J R o k (a_fty ci k))]
  · rw [a_fv_0 (by rw [hk0]; rfl)]; rw [a_u_self]
  · intro j hj
    simp only [a_fv, a_u_ne (fun q : o = o ∧ j = k0 => hj q.2)]
theorem aw_putJF (hC : aC y cc nL ret fr lo kc ks hh X) {o idx ci k0 : Nat} {C : String} {Tb : u_T} {x : Int64} (hd : decode cc pc = .ok (.putfield idx, 3)) (hf : aF y.cls idx ci C Tb k0) (hk0 : a_kd (a_fty ci k0) = 1) (hfin : (Tb k0).2.2.2 = true) (hin : y.name = "<init>") (hown9 : C = y.cls) (hT : T[o]? = some (.inr ci))  (k : AW X cells slots (pc + 3) L st T I (a_u J o k0 x) R) : AW X cells slots pc L (.long x :: .ref o :: st) T I J R := by
  obtain ⟨p, l, e, Rm, s, m, args, below, meth, c, Q, A, D, ad0, T0⟩ := X
  obtain ⟨⟨hx, hb, hml, hown, hts⟩, hr, hlocks, hname, hl9, hf1, hf2, hf3, hf4, htab, hA, hN, hZ⟩ := hC
  obtain ⟨⟨g1, g2, g3, g4, g5, g6⟩, hk, hlink⟩ := hf
  intro tys ad ws H locs ls h1 h2 h3 h4 h5 h6 hK hP hD hS hl
  refine va_putF (v := .long x) hx hb hts g2 (a_fty ci) g3 g4 hown hK hP hD hS o (a_rel_at h1 hT) g1 k0 hk (hts _ hlink) (fun x9 h9 => by rw [g5 k0 hk] at h9; exact h9) hfin (hname.trans hin) (by rw [g5 k0 hk]; exact hown9) (g3 k0 hk) (by cases h9 : a_fty ci k0 <;> rfl) (by cases h9 : a_fty ci k0 <;> first | rfl | (rw [h9] at hk0; simp [a_kd] at hk0)) (by simpa using hk) hd (fun H1 locs1 hP1 hD1 hS1 => ?_)
  refine k tys ad _ H1 locs1 ls (a_rel_set h1 hT (cA := 0) (fun ty n q => nomatch q) (fun _ _ => rfl) (fun o9 h9 => a_u_row h9) (fun _ _ => rfl) ?_) (a_okJ h2 (a_rel_lt hT)) h3 (a_okS_tl (a_okS_tl h4)) h5 h6 hK hP1 hD1 hS1 hl
  show _ = Sum.inr (ci, _)
  rw [a_fs_set hk (g' := fun k => a_fv ad I (a_u J o k0 x) R o k (a_fty ci k))]
  · rw [a_fv_1 (by exact hk0)]; rw [a_u_self]
  · intro j hj
    simp only [a_fv, a_u_ne (fun q : o = o ∧ j = k0 => hj q.2)]
theorem aw_putRF (hC : aC y cc nL ret fr lo kc ks hh X) {o idx ci k0 : Nat} {C : String} {Tb : u_T} {q0 : Nat} (hd : decode cc pc = .ok (.putfield idx, 3)) (hf : aF y.cls idx ci C Tb k0) (hk0 : a_kd (a_fty ci k0) = 2) (hfin : (Tb k0).2.2.2 = true) (hin : y.name = "<init>") (hown9 : C = y.cls) (hT : T[o]? = some (.inr ci))  (k : AW X cells slots (pc + 3) L st T I J (a_u R o k0 (some q0))) : AW X cells slots pc L (.ref q0 :: .ref o :: st) T I J R := by
  obtain ⟨p, l, e, Rm, s, m, args, below, meth, c, Q, A, D, ad0, T0⟩ := X
  obtain ⟨⟨hx, hb, hml, hown, hts⟩, hr, hlocks, hname, hl9, hf1, hf2, hf3, hf4, htab, hA, hN, hZ⟩ := hC
  obtain ⟨⟨g1, g2, g3, g4, g5, g6⟩, hk, hlink⟩ := hf
  intro tys ad ws H locs ls h1 h2 h3 h4 h5 h6 hK hP hD hS hl
  refine va_putF (v := .ref (ad q0)) hx hb hts g2 (a_fty ci) g3 g4 hown hK hP hD hS o (a_rel_at h1 hT) g1 k0 hk (hts _ hlink) (fun x9 h9 => by rw [g5 k0 hk] at h9; exact h9) hfin (hname.trans hin) (by rw [g5 k0 hk]; exact hown9) (g3 k0 hk) (by cases h9 : a_fty ci k0 <;> rfl) (by cases h9 : a_fty ci k0 <;> first | rfl | (rw [h9] at hk0; simp [a_kd] at hk0)) (by simpa using hk) hd (fun H1 locs1 hP1 hD1 hS1 => ?_)
  refine k tys ad _ H1 locs1 ls (a_rel_set h1 hT (cA := 0) (fun ty n q => nomatch q) (fun _ _ => rfl) (fun _ _ => rfl) (fun o9 h9 => a_u_row h9) ?_) (a_okR h2 (a_rel_lt hT) (fun q9 e9 => by cases e9; exact a_okS_hd h4 _ rfl)) h3 (a_okS_tl (a_okS_tl h4)) h5 h6 hK hP1 hD1 hS1 hl
  show _ = Sum.inr (ci, _)
  rw [a_fs_set hk (g' := fun k => a_fv ad I J (a_u R o k0 (some q0)) o k (a_fty ci k))]
  · rw [a_fv_2 (by exact hk0)]; rw [a_u_self]; rfl
  · intro j hj
    simp only [a_fv, a_u_ne (fun q : o = o ∧ j = k0 => hj q.2)]
theorem aw_putNF (hC : aC y cc nL ret fr lo kc ks hh X) {o idx ci k0 : Nat} {C : String} {Tb : u_T}  (hd : decode cc pc = .ok (.putfield idx, 3)) (hf : aF y.cls idx ci C Tb k0) (hk0 : a_kd (a_fty ci k0) = 2) (hfin : (Tb k0).2.2.2 = true) (hin : y.name = "<init>") (hown9 : C = y.cls) (hT : T[o]? = some (.inr ci))  (k : AW X cells slots (pc + 3) L st T I J (a_u R o k0 none)) : AW X cells slots pc L (.null :: .ref o :: st) T I J R := by
  obtain ⟨p, l, e, Rm, s, m, args, below, meth, c, Q, A, D, ad0, T0⟩ := X
  obtain ⟨⟨hx, hb, hml, hown, hts⟩, hr, hlocks, hname, hl9, hf1, hf2, hf3, hf4, htab, hA, hN, hZ⟩ := hC
  obtain ⟨⟨g1, g2, g3, g4, g5, g6⟩, hk, hlink⟩ := hf
  intro tys ad ws H locs ls h1 h2 h3 h4 h5 h6 hK hP hD hS hl
  refine va_putF (v := .null) hx hb hts g2 (a_fty ci) g3 g4 hown hK hP hD hS o (a_rel_at h1 hT) g1 k0 hk (hts _ hlink) (fun x9 h9 => by rw [g5 k0 hk] at h9; exact h9) hfin (hname.trans hin) (by rw [g5 k0 hk]; exact hown9) (g3 k0 hk) (by cases h9 : a_fty ci k0 <;> rfl) (by cases h9 : a_fty ci k0 <;> first | rfl | (rw [h9] at hk0; simp [a_kd] at hk0)) (by simpa using hk) hd (fun H1 locs1 hP1 hD1 hS1 => ?_)
  refine k tys ad _ H1 locs1 ls (a_rel_set h1 hT (cA := 0) (fun ty n q => nomatch q) (fun _ _ => rfl) (fun _ _ => rfl) (fun o9 h9 => a_u_row h9) ?_) (a_okR h2 (a_rel_lt hT) (fun q9 e9 => nomatch e9)) h3 (a_okS_tl (a_okS_tl h4)) h5 h6 hK hP1 hD1 hS1 hl
  show _ = Sum.inr (ci, _)
  rw [a_fs_set hk (g' := fun k => a_fv ad I J (a_u R o k0 none) o k (a_fty ci k))]
  · rw [a_fv_2 (by exact hk0)]; rw [a_u_self]; rfl
  · intro j hj
    simp only [a_fv, a_u_ne (fun q : o = o ∧ j = k0 => hj q.2)]
theorem aw_iaload (hC : aC y cc nL ret fr lo kc ks hh X) {a n : Nat} {i : Int32} (hd : decode cc pc = .ok (.iaload, 1)) (hT : T[a]? = some (.inl (.int, n))) (hin : vp_in i n) (k : AW X cells slots (pc + 1) L (.int (I a i.toNatClampNeg) :: st) T I J R) : AW X cells slots pc L (.int i :: .ref a :: st) T I J R := by
  obtain ⟨p, l, e, Rm, s, m, args, below, meth, c, Q, A, D, ad0, T0⟩ := X
  obtain ⟨⟨hx, hb, hml, hown, hts⟩, hr, hlocks, hname, hl9, hf1, hf2, hf3, hf4, htab, hA, hN, hZ⟩ := hC
  intro tys ad ws H locs ls h1 h2 h3 h4 h5 h6 hK hP hD hS hl
  obtain ⟨cA, t0, g1, g2⟩ := a_rel_arr h1 hT
  exact va_iald hx hb hK hP a t0 g1 g2 hin hd (k tys ad ws H locs ls h1 h2 h3 (a_okS_cons a_okv_int (a_okS_tl (a_okS_tl h4))) h5 h6 hK hP hD hS hl)
theorem aw_baload (hC : aC y cc nL ret fr lo kc ks hh X) {a n : Nat} {i : Int32} (hd : decode cc pc = .ok (.baload, 1)) (hT : T[a]? = some (.inl (.boolean, n))) (hin : vp_in i n) (k : AW X cells slots (pc + 1) L (.int (I a i.toNatClampNeg) :: st) T I J R) : AW X cells slots pc L (.int i :: .ref a :: st) T I J R := by
  obtain ⟨p, l, e, Rm, s, m, args, below, meth, c, Q, A, D, ad0, T0⟩ := X
  obtain ⟨⟨hx, hb, hml, hown, hts⟩, hr, hlocks, hname, hl9, hf1, hf2, hf3, hf4, htab, hA, hN, hZ⟩ := hC
  intro tys ad ws H locs ls h1 h2 h3 h4 h5 h6 hK hP hD hS hl
  obtain ⟨cA, t0, g1, g2⟩ := a_rel_arr h1 hT
  exact va_zald hx hb hK hP a t0 g1 g2 hin hd (k tys ad ws H locs ls h1 h2 h3 (a_okS_cons a_okv_int (a_okS_tl (a_okS_tl h4))) h5 h6 hK hP hD hS hl)
theorem aw_laload (hC : aC y cc nL ret fr lo kc ks hh X) {a n : Nat} {i : Int32} (hd : decode cc pc = .ok (.laload, 1)) (hT : T[a]? = some (.inl (.long, n))) (hin : vp_in i n) (k : AW X cells slots (pc + 1) L (.long (J a i.toNatClampNeg) :: st) T I J R) : AW X cells slots pc L (.int i :: .ref a :: st) T I J R := by
  obtain ⟨p, l, e, Rm, s, m, args, below, meth, c, Q, A, D, ad0, T0⟩ := X
  obtain ⟨⟨hx, hb, hml, hown, hts⟩, hr, hlocks, hname, hl9, hf1, hf2, hf3, hf4, htab, hA, hN, hZ⟩ := hC
  intro tys ad ws H locs ls h1 h2 h3 h4 h5 h6 hK hP hD hS hl
  obtain ⟨cA, t0, g1, g2⟩ := a_rel_arr h1 hT
  exact va_lald hx hb hK hP a t0 g1 g2 hin hd (k tys ad ws H locs ls h1 h2 h3 (a_okS_cons a_okv_long (a_okS_tl (a_okS_tl h4))) h5 h6 hK hP hD hS hl)
theorem aw_aaloadR (hC : aC y cc nL ret fr lo kc ks hh X) {a n : Nat} {i : Int32} {C : String} (hd : decode cc pc = .ok (.aaload, 1)) (hT : T[a]? = some (.inl (.object C, n))) (hin : vp_in i n) {q0 : Nat} (hR : R a i.toNatClampNeg = some q0) (k : AW X cells slots (pc + 1) L (.ref q0 :: st) T I J R) : AW X cells slots pc L (.int i :: .ref a :: st) T I J R := by
  obtain ⟨p, l, e, Rm, s, m, args, below, meth, c, Q, A, D, ad0, T0⟩ := X
  obtain ⟨⟨hx, hb, hml, hown, hts⟩, hr, hlocks, hname, hl9, hf1, hf2, hf3, hf4, htab, hA, hN, hZ⟩ := hC
  intro tys ad ws H locs ls h1 h2 h3 h4 h5 h6 hK hP hD hS hl
  obtain ⟨cA, t0, g1, g2⟩ := a_rel_arr h1 hT
  have k9 := k tys ad ws H locs ls h1 h2 h3 (a_okS_cons (a_okv_ref (a_ok_le h2 hR)) (a_okS_tl (a_okS_tl h4))) h5 h6 hK hP hD hS hl
  refine va_aldq hx hb hK hP a t0 g1 g2 hin hd ?_
  rw [hR]
  exact k9
theorem aw_aaloadN (hC : aC y cc nL ret fr lo kc ks hh X) {a n : Nat} {i : Int32} {C : String} (hd : decode cc pc = .ok (.aaload, 1)) (hT : T[a]? = some (.inl (.object C, n))) (hin : vp_in i n) (hR : R a i.toNatClampNeg = none) (k : AW X cells slots (pc + 1) L (.null :: st) T I J R) : AW X cells slots pc L (.int i :: .ref a :: st) T I J R := by
  obtain ⟨p, l, e, Rm, s, m, args, below, meth, c, Q, A, D, ad0, T0⟩ := X
  obtain ⟨⟨hx, hb, hml, hown, hts⟩, hr, hlocks, hname, hl9, hf1, hf2, hf3, hf4, htab, hA, hN, hZ⟩ := hC
  intro tys ad ws H locs ls h1 h2 h3 h4 h5 h6 hK hP hD hS hl
  obtain ⟨cA, t0, g1, g2⟩ := a_rel_arr h1 hT
  have k9 := k tys ad ws H locs ls h1 h2 h3 (a_okS_cons a_okv_null (a_okS_tl (a_okS_tl h4))) h5 h6 hK hP hD hS hl
  refine va_aldq hx hb hK hP a t0 g1 g2 hin hd ?_
  rw [hR]
  exact k9
theorem aw_iastore (hC : aC y cc nL ret fr lo kc ks hh X) {a n : Nat} {i : Int32} {x : Int32} (hd : decode cc pc = .ok (.iastore, 1)) (hT : T[a]? = some (.inl (.int, n))) (hin : vp_in i n) (k : AW X cells slots (pc + 1) L st T (a_u I a i.toNatClampNeg x) J R) : AW X cells slots pc L (.int x :: .int i :: .ref a :: st) T I J R := by
  obtain ⟨p, l, e, Rm, s, m, args, below, meth, c, Q, A, D, ad0, T0⟩ := X
  obtain ⟨⟨hx, hb, hml, hown, hts⟩, hr, hlocks, hname, hl9, hf1, hf2, hf3, hf4, htab, hA, hN, hZ⟩ := hC
  intro tys ad ws H locs ls h1 h2 h3 h4 h5 h6 hK hP hD hS hl
  obtain ⟨cA, t0, g1, g2⟩ := a_rel_arr h1 hT
  refine va_iast hx hb hK hP hD hS a t0 g1 g2 hin hd (fun H1 locs1 hP1 hD1 hS1 => ?_)
  refine k tys ad _ H1 locs1 ls (a_rel_set h1 hT (cA := cA) (fun ty n q => by cases q; exact ⟨t0, g2⟩) (fun o9 h9 => a_u_row h9) (fun _ _ => rfl) (fun _ _ => rfl) ?_) (a_okI h2 (a_rel_lt hT)) h3 (a_okS_tl (a_okS_tl (a_okS_tl h4))) h5 h6 hK hP1 hD1 hS1 hl
  have e9 : upd (I a) i.toNatClampNeg x = (a_u I a i.toNatClampNeg x) a := funext fun j => by simp only [a_u, upd, true_and]
  show Sum.inl (cA, n, Sum.inl (upd (I a) i.toNatClampNeg x)) = Sum.inl (cA, n, Sum.inl ((a_u I a i.toNatClampNeg x) a))
  rw [e9]
theorem aw_bastore (hC : aC y cc nL ret fr lo kc ks hh X) {a n : Nat} {i : Int32} {x : Int32} (hd : decode cc pc = .ok (.bastore, 1)) (hT : T[a]? = some (.inl (.boolean, n))) (hin : vp_in i n) (k : AW X cells slots (pc + 1) L st T (a_u I a i.toNatClampNeg (vp_nar .boolean x)) J R) : AW X cells slots pc L (.int x :: .int i :: .ref a :: st) T I J R := by
  obtain ⟨p, l, e, Rm, s, m, args, below, meth, c, Q, A, D, ad0, T0⟩ := X
  obtain ⟨⟨hx, hb, hml, hown, hts⟩, hr, hlocks, hname, hl9, hf1, hf2, hf3, hf4, htab, hA, hN, hZ⟩ := hC
  intro tys ad ws H locs ls h1 h2 h3 h4 h5 h6 hK hP hD hS hl
  obtain ⟨cA, t0, g1, g2⟩ := a_rel_arr h1 hT
  refine va_zast hx hb hK hP hD hS a t0 g1 g2 hin hd (fun H1 locs1 hP1 hD1 hS1 => ?_)
  refine k tys ad _ H1 locs1 ls (a_rel_set h1 hT (cA := cA) (fun ty n q => by cases q; exact ⟨t0, g2⟩) (fun o9 h9 => a_u_row h9) (fun _ _ => rfl) (fun _ _ => rfl) ?_) (a_okI h2 (a_rel_lt hT)) h3 (a_okS_tl (a_okS_tl (a_okS_tl h4))) h5 h6 hK hP1 hD1 hS1 hl
  have e9 : upd (I a) i.toNatClampNeg (vp_nar .boolean x) = (a_u I a i.toNatClampNeg (vp_nar .boolean x)) a := funext fun j => by simp only [a_u, upd, true_and]
  show Sum.inl (cA, n, Sum.inl (upd (I a) i.toNatClampNeg (vp_nar .boolean x))) = Sum.inl (cA, n, Sum.inl ((a_u I a i.toNatClampNeg (vp_nar .boolean x)) a))
  rw [e9]
theorem aw_lastore (hC : aC y cc nL ret fr lo kc ks hh X) {a n : Nat} {i : Int32} {x : Int64} (hd : decode cc pc = .ok (.lastore, 1)) (hT : T[a]? = some (.inl (.long, n))) (hin : vp_in i n) (k : AW X cells slots (pc + 1) L st T I (a_u J a i.toNatClampNeg x) R) : AW X cells slots pc L (.long x :: .int i :: .ref a :: st) T I J R := by
  obtain ⟨p, l, e, Rm, s, m, args, below, meth, c, Q, A, D, ad0, T0⟩ := X
  obtain ⟨⟨hx, hb, hml, hown, hts⟩, hr, hlocks, hname, hl9, hf1, hf2, hf3, hf4, htab, hA, hN, hZ⟩ := hC
  intro tys ad ws H locs ls h1 h2 h3 h4 h5 h6 hK hP hD hS hl
  obtain ⟨cA, t0, g1, g2⟩ := a_rel_arr h1 hT
  refine va_last hx hb hK hP hD hS a t0 g1 g2 hin hd (fun H1 locs1 hP1 hD1 hS1 => ?_)
  refine k tys ad _ H1 locs1 ls (a_rel_set h1 hT (cA := cA) (fun ty n q => by cases q; exact ⟨t0, g2⟩) (fun _ _ => rfl) (fun o9 h9 => a_u_row h9) (fun _ _ => rfl) ?_) (a_okJ h2 (a_rel_lt hT)) h3 (a_okS_tl (a_okS_tl (a_okS_tl h4))) h5 h6 hK hP1 hD1 hS1 hl
  have e9 : vp_updL (J a) i.toNatClampNeg x = (a_u J a i.toNatClampNeg x) a := funext fun j => by simp only [a_u, vp_updL, true_and]
  show Sum.inl (cA, n, Sum.inr (Sum.inl (vp_updL (J a) i.toNatClampNeg x))) = Sum.inl (cA, n, Sum.inr (Sum.inl ((a_u J a i.toNatClampNeg x) a)))
  rw [e9]
theorem aw_aastoreR (hC : aC y cc nL ret fr lo kc ks hh X) {a n : Nat} {i : Int32} {C : String} {q0 ci N : Nat} {Tb : u_T} (hq : T[q0]? = some (.inr ci)) (hcl : vwCl[ci]? = some (C, Tb, N)) (hd : decode cc pc = .ok (.aastore, 1)) (hT : T[a]? = some (.inl (.object C, n))) (hin : vp_in i n) (k : AW X cells slots (pc + 1) L st T I J (a_u R a i.toNatClampNeg (some q0))) : AW X cells slots pc L (.ref q0 :: .int i :: .ref a :: st) T I J R := by
  obtain ⟨p, l, e, Rm, s, m, args, below, meth, c, Q, A, D, ad0, T0⟩ := X
  obtain ⟨⟨hx, hb, hml, hown, hts⟩, hr, hlocks, hname, hl9, hf1, hf2, hf3, hf4, htab, hA, hN, hZ⟩ := hC
  intro tys ad ws H locs ls h1 h2 h3 h4 h5 h6 hK hP hD hS hl
  obtain ⟨cA, t0, g1, g2⟩ := a_rel_arr h1 hT
  refine va_astq (r := (C, Tb, N)) hx hb hK hP hD hS a t0 q0 ci g1 g2 (a_rel_at h1 hq) hcl hin hd (fun H1 locs1 hP1 hD1 hS1 => ?_)
  refine k tys ad _ H1 locs1 ls (a_rel_set h1 hT (cA := cA) (fun ty n q => by cases q; exact ⟨t0, g2⟩) (fun _ _ => rfl) (fun _ _ => rfl) (fun o9 h9 => a_u_row h9) ?_) (a_okR h2 (a_rel_lt hT) (fun q9 e9 => by cases e9; exact a_rel_lt hq)) h3 (a_okS_tl (a_okS_tl (a_okS_tl h4))) h5 h6 hK hP1 hD1 hS1 hl
  have e9 : va_up (fun k => Option.map ad (R a k)) i.toNatClampNeg (some (ad q0)) = fun k => Option.map ad (a_u R a i.toNatClampNeg (some q0) a k) := funext fun j => by
    by_cases c9 : j = i.toNatClampNeg
    · subst c9; simp [a_u, va_up]
    · simp [a_u, va_up, c9]
  show Sum.inl (cA, n, Sum.inr (Sum.inr (Sum.inr (Sum.inr (va_up (fun k => Option.map ad (R a k)) i.toNatClampNeg (some (ad q0))))))) = Sum.inl (cA, n, Sum.inr (Sum.inr (Sum.inr (Sum.inr (fun k => Option.map ad (a_u R a i.toNatClampNeg (some q0) a k))))))
  rw [e9]
theorem aw_aastoreN (hC : aC y cc nL ret fr lo kc ks hh X) {a n : Nat} {i : Int32} {C : String}  (hd : decode cc pc = .ok (.aastore, 1)) (hT : T[a]? = some (.inl (.object C, n))) (hin : vp_in i n) (k : AW X cells slots (pc + 1) L st T I J (a_u R a i.toNatClampNeg (none))) : AW X cells slots pc L (.null :: .int i :: .ref a :: st) T I J R := by
  obtain ⟨p, l, e, Rm, s, m, args, below, meth, c, Q, A, D, ad0, T0⟩ := X
  obtain ⟨⟨hx, hb, hml, hown, hts⟩, hr, hlocks, hname, hl9, hf1, hf2, hf3, hf4, htab, hA, hN, hZ⟩ := hC
  intro tys ad ws H locs ls h1 h2 h3 h4 h5 h6 hK hP hD hS hl
  obtain ⟨cA, t0, g1, g2⟩ := a_rel_arr h1 hT
  refine va_astqN  hx hb hK hP hD hS a t0 g1 g2 hin hd (fun H1 locs1 hP1 hD1 hS1 => ?_)
  refine k tys ad _ H1 locs1 ls (a_rel_set h1 hT (cA := cA) (fun ty n q => by cases q; exact ⟨t0, g2⟩) (fun _ _ => rfl) (fun _ _ => rfl) (fun o9 h9 => a_u_row h9) ?_) (a_okR h2 (a_rel_lt hT) (fun q9 e9 => nomatch e9)) h3 (a_okS_tl (a_okS_tl (a_okS_tl h4))) h5 h6 hK hP1 hD1 hS1 hl
  have e9 : va_up (fun k => Option.map ad (R a k)) i.toNatClampNeg (none) = fun k => Option.map ad (a_u R a i.toNatClampNeg (none) a k) := funext fun j => by
    by_cases c9 : j = i.toNatClampNeg
    · subst c9; simp [a_u, va_up]
    · simp [a_u, va_up, c9]
  show Sum.inl (cA, n, Sum.inr (Sum.inr (Sum.inr (Sum.inr (va_up (fun k => Option.map ad (R a k)) i.toNatClampNeg (none)))))) = Sum.inl (cA, n, Sum.inr (Sum.inr (Sum.inr (Sum.inr (fun k => Option.map ad (a_u R a i.toNatClampNeg (none) a k))))))
  rw [e9]
theorem aw_alen (hC : aC y cc nL ret fr lo kc ks hh X) {a n : Nat} {ty : FieldType} {v : Int32} (hd : decode cc pc = .ok (.arraylength, 1)) (hT : T[a]? = some (.inl (ty, n))) (hv : Int32.ofNat n = v) (k : AW X cells slots (pc + 1) L (.int v :: st) T I J R) : AW X cells slots pc L (.ref a :: st) T I J R := by
  obtain ⟨p, l, e, Rm, s, m, args, below, meth, c, Q, A, D, ad0, T0⟩ := X
  obtain ⟨⟨hx, hb, hml, hown, hts⟩, hr, hlocks, hname, hl9, hf1, hf2, hf3, hf4, htab, hA, hN, hZ⟩ := hC
  intro tys ad ws H locs ls h1 h2 h3 h4 h5 h6 hK hP hD hS hl
  obtain ⟨cA, t0, g1, g2⟩ := a_rel_arr h1 hT
  exact va_alen hx hb hK hP a t0 g1 g2 hv hd (k tys ad ws H locs ls h1 h2 h3 (a_okS_cons a_okv_int (a_okS_tl h4)) h5 h6 hK hP hD hS hl)
theorem a_rel_push {tys tys' : List (ClassId × FieldType)} {ad : Nat → Nat} {ws : va_W} (h : a_rel T I J R tys ad ws) (hok : a_ok T.length I J R) {q : Nat} {t : aT} {cA : ClassId} {e : va_E} (htys : ∀ (t0 : Nat) (z : ClassId × FieldType), tys[t0]? = some z → tys'[t0]? = some z) (hty : ∀ (ty : FieldType) (n : Nat), t = .inl (ty, n) → ∃ t0 : Nat, tys'[t0]? = some (cA, ty))
    (he : e = a_cell (fun j => if j = T.length then q else ad j) I J R T.length t cA) : a_rel (T ++ [t]) I J R tys' (fun j => if j = T.length then q else ad j) (ws ++ [(q, e)]) := by
  refine ⟨by simp [h.1], fun i t' hi => ?_⟩
  by_cases c : i < T.length
  · rw [List.getElem?_append_left c] at hi
    obtain ⟨cA', g1, g2⟩ := h.2 i t' hi
    refine ⟨cA', ?_, fun ty n q9 => ?_⟩
    · rw [List.getElem?_append_left (by rw [h.1]; exact c), g1, a_cell_ad (n := T.length) (ad := ad) (fun j hj => if_neg (by omega)) hok]
      simp only [if_neg (show ¬ i = T.length by omega)]
    · obtain ⟨t0, g3⟩ := g2 ty n q9
      exact ⟨t0, htys _ _ g3⟩
  · rw [List.getElem?_append_right (by omega)] at hi
    have hz : i - T.length < 1 := (List.getElem?_eq_some_iff.mp hi).1
    have hi2 : i = T.length := by omega
    subst hi2
    simp only [Nat.sub_self, List.getElem?_cons_zero, Option.some.injEq] at hi
    subst hi
    exact ⟨cA, by rw [List.getElem?_append_right (by rw [h.1]; exact Nat.le_refl _), h.1]; simp [he], hty⟩
theorem a_ok_push {n : Nat} (h : a_ok n I J R) : a_ok (n + 1) I J R := ⟨fun o k q e => Nat.lt_succ_of_lt (h.1 o k q e), fun o ho => h.2 o (by omega)⟩
theorem a_dflt {ty : FieldType} (h : a_kd ty ≠ 3) {ad : Nat → Nat} {o k : Nat} (hI : I o = fun _ => 0) (hJ : J o = fun _ => 0) (hR : R o = fun _ => none) : defaultValue ty = a_fv ad I J R o k ty := by
  cases ty <;> first | (simp [a_kd] at h; done) | (simp [a_fv, defaultValue, hI, hJ, hR, va_rf])
theorem aw_new (hC : aC y cc nL ret fr lo kc ks hh X) {idx ci : Nat} {C : String} {Tb : u_T} (hd : decode cc pc = .ok (.new idx, 3)) (hcl : aClass ci C Tb) (w1 : Cond.classLink y.cls idx C ∈ a_G) (w2 : Cond.instantiable C (a_nf ci) ∈ a_G) (w3 : Cond.initialized C ∈ a_G) (hc : cells + 1 ≤ kc) (hs : slots + a_nf ci ≤ ks) (k : AW X (cells + 1) (slots + a_nf ci) (pc + 3) L (.ref T.length :: st) (T ++ [.inr ci]) I J R) : AW X cells slots pc L st T I J R := by
  obtain ⟨p, l, e, Rm, s, m, args, below, meth, c, Q, A, D, ad0, T0⟩ := X
  obtain ⟨⟨hx, hb, hml, hown, hts⟩, hr, hlocks, hname, hl9, hf1, hf2, hf3, hf4, htab, hA, hN, hZ⟩ := hC
  obtain ⟨g1, g2, g3, g4, g5, g6⟩ := hcl
  intro tys ad ws H locs ls h1 h2 h3 h4 h5 h6 hK hP hD hS hl
  have z := h2.2 T.length (Nat.le_refl _)
  refine va_new (fs := (List.range (a_nf ci)).map (fun k => a_fv (fun j => j) I J R T.length k (a_fty ci k))) hx hb hts g2 (a_fty ci) g3 hown (hts _ w1) (hts _ w2) (hts _ w3) hK hP hD hS hA g1 (fun j hj => ?_) (by rw [hf3]; exact hc) (by rw [hf4]; exact hs) hd (fun q H1 hP1 hD1 hS1 => ?_)
  · rw [vp_V, List.getD_eq_getElem?_getD, a_fs_get hj]
    exact a_dflt (g6 j hj) z.1 z.2.1 z.2.2
  have hK1 := hK
  have hok2 : a_ok (T ++ [(.inr ci : aT)]).length I J R := by rw [List.length_append]; exact a_ok_push h2
  have had : ∀ i, i < T.length → (fun j => if j = T.length then q else ad j) i = ad i := fun i hi => if_neg (by omega)
  have hle : T.length ≤ (T ++ [(.inr ci : aT)]).length := by simp
  have k9 := k _ (fun j => if j = T.length then q else ad j) _ H1 locs ls (a_rel_push h1 h2 (fun _ _ h9 => h9) (cA := 0) (fun ty n q9 => nomatch q9) (by
    show Sum.inr (ci, _) = Sum.inr (ci, _)
    congr 3
    funext j
    unfold a_fv
    simp only [z.1, z.2.1, z.2.2, Option.map_none])) hok2 (a_okL_le hle h3) (a_okS_cons (a_okv_ref (by simp)) (a_okS_le hle h4)) (h5.trans (List.prefix_append _ _)) (fun i hi => (had i (Nat.lt_of_lt_of_le hi h5.length_le)).trans (h6 i hi)) hK1 hP1 hD1 hS1 (a_lv_le hl (a_lv_eq had h3))
  rw [List.map_cons, a_cvS_le had h4] at k9
  have e9 : a_cv (fun j => if j = T.length then q else ad j) (.ref T.length) = .ref q := by simp [a_cv]
  rw [e9] at k9
  exact k9
theorem aw_newarrayI (hC : aC y cc nL ret fr lo kc ks hh X) {n : Int32} {N : Nat} (hd : decode cc pc = .ok (.newarray .int, 2)) (w1 : Cond.arrayClass .int ∈ a_G) (hN9 : n = nI N) (hN2 : N ≤ 60000000) (hc : cells + 1 ≤ kc) (hs : slots + N ≤ ks) (k : AW X (cells + 1) (slots + N) (pc + 2) L (.ref T.length :: st) (T ++ [.inl (.int, N)]) I J R) : AW X cells slots pc L (.int n :: st) T I J R := by
  obtain ⟨p, l, e, Rm, s, m, args, below, meth, c, Q, A, D, ad0, T0⟩ := X
  obtain ⟨⟨hx, hb, hml, hown, hts⟩, hr, hlocks, hname, hl9, hf1, hf2, hf3, hf4, htab, hA, hN, hZ⟩ := hC
  intro tys ad ws H locs ls h1 h2 h3 h4 h5 h6 hK hP hD hS hl
  have z := h2.2 T.length (Nat.le_refl _)
  subst hN9
  refine va_newa (atype := .int) (ty := .int) (a0 := (N, .inl (fun _ => 0))) hx hb (hts _ w1) rfl hK hP hD hS hA (fun cA => rfl) (nI_pos (by omega)) (nI_clamp (by omega)) (by show N * 4 ≤ 536870912; omega) (by rw [hf3]; exact hc) (by rw [hf4]; exact hs) hd (fun q cA H1 hK1 hP1 hD1 hS1 => ?_)
  have hok2 : a_ok (T ++ [(.inl (.int, N) : aT)]).length I J R := by rw [List.length_append]; exact a_ok_push h2
  have had : ∀ i, i < T.length → (fun j => if j = T.length then q else ad j) i = ad i := fun i hi => if_neg (by omega)
  have hle : T.length ≤ (T ++ [(.inl (.int, N) : aT)]).length := by simp
  have k9 := k _ (fun j => if j = T.length then q else ad j) _ H1 locs ls (a_rel_push h1 h2 (fun t0 z9 h9 => by rw [List.getElem?_append_left (List.getElem?_eq_some_iff.mp h9).1]; exact h9) (cA := cA) (fun ty n q9 => by cases q9; exact ⟨tys.length, by simp⟩) (by show Sum.inl (cA, N, _) = Sum.inl (cA, N, a_av _ I J R T.length .int); rw [show a_av (fun j => if j = T.length then q else ad j) I J R T.length .int = .inl (fun _ => 0) by simp only [a_av, z.1]])) hok2 (a_okL_le hle h3) (a_okS_cons (a_okv_ref (by simp)) (a_okS_le hle (a_okS_tl h4))) (h5.trans (List.prefix_append _ _)) (fun i hi => (had i (Nat.lt_of_lt_of_le hi h5.length_le)).trans (h6 i hi)) hK1 hP1 hD1 hS1 (a_lv_le hl (a_lv_eq had h3))
  rw [List.map_cons, a_cvS_le had (a_okS_tl h4)] at k9
  have e9 : a_cv (fun j => if j = T.length then q else ad j) (.ref T.length) = .ref q := by simp [a_cv]
  rw [e9] at k9
  exact k9
theorem aw_newarrayZ (hC : aC y cc nL ret fr lo kc ks hh X) {n : Int32} {N : Nat} (hd : decode cc pc = .ok (.newarray .boolean, 2)) (w1 : Cond.arrayClass .boolean ∈ a_G) (hN9 : n = nI N) (hN2 : N ≤ 60000000) (hc : cells + 1 ≤ kc) (hs : slots + N ≤ ks) (k : AW X (cells + 1) (slots + N) (pc + 2) L (.ref T.length :: st) (T ++ [.inl (.boolean, N)]) I J R) : AW X cells slots pc L (.int n :: st) T I J R := by
  obtain ⟨p, l, e, Rm, s, m, args, below, meth, c, Q, A, D, ad0, T0⟩ := X
  obtain ⟨⟨hx, hb, hml, hown, hts⟩, hr, hlocks, hname, hl9, hf1, hf2, hf3, hf4, htab, hA, hN, hZ⟩ := hC
  intro tys ad ws H locs ls h1 h2 h3 h4 h5 h6 hK hP hD hS hl
  have z := h2.2 T.length (Nat.le_refl _)
  subst hN9
  refine va_newa (atype := .boolean) (ty := .boolean) (a0 := (N, .inl (fun _ => 0))) hx hb (hts _ w1) rfl hK hP hD hS hA (fun cA => rfl) (nI_pos (by omega)) (nI_clamp (by omega)) (by show N * 1 ≤ 536870912; omega) (by rw [hf3]; exact hc) (by rw [hf4]; exact hs) hd (fun q cA H1 hK1 hP1 hD1 hS1 => ?_)
  have hok2 : a_ok (T ++ [(.inl (.boolean, N) : aT)]).length I J R := by rw [List.length_append]; exact a_ok_push h2
  have had : ∀ i, i < T.length → (fun j => if j = T.length then q else ad j) i = ad i := fun i hi => if_neg (by omega)
  have hle : T.length ≤ (T ++ [(.inl (.boolean, N) : aT)]).length := by simp
  have k9 := k _ (fun j => if j = T.length then q else ad j) _ H1 locs ls (a_rel_push h1 h2 (fun t0 z9 h9 => by rw [List.getElem?_append_left (List.getElem?_eq_some_iff.mp h9).1]; exact h9) (cA := cA) (fun ty n q9 => by cases q9; exact ⟨tys.length, by simp⟩) (by show Sum.inl (cA, N, _) = Sum.inl (cA, N, a_av _ I J R T.length .boolean); rw [show a_av (fun j => if j = T.length then q else ad j) I J R T.length .boolean = .inl (fun _ => 0) by simp only [a_av, z.1]])) hok2 (a_okL_le hle h3) (a_okS_cons (a_okv_ref (by simp)) (a_okS_le hle (a_okS_tl h4))) (h5.trans (List.prefix_append _ _)) (fun i hi => (had i (Nat.lt_of_lt_of_le hi h5.length_le)).trans (h6 i hi)) hK1 hP1 hD1 hS1 (a_lv_le hl (a_lv_eq had h3))
  rw [List.map_cons, a_cvS_le had (a_okS_tl h4)] at k9
  have e9 : a_cv (fun j => if j = T.length then q else ad j) (.ref T.length) = .ref q := by simp [a_cv]
  rw [e9] at k9
  exact k9
theorem aw_newarrayJ (hC : aC y cc nL ret fr lo kc ks hh X) {n : Int32} {N : Nat} (hd : decode cc pc = .ok (.newarray .long, 2)) (w1 : Cond.arrayClass .long ∈ a_G) (hN9 : n = nI N) (hN2 : N ≤ 60000000) (hc : cells + 1 ≤ kc) (hs : slots + N ≤ ks) (k : AW X (cells + 1) (slots + N) (pc + 2) L (.ref T.length :: st) (T ++ [.inl (.long, N)]) I J R) : AW X cells slots pc L (.int n :: st) T I J R := by
  obtain ⟨p, l, e, Rm, s, m, args, below, meth, c, Q, A, D, ad0, T0⟩ := X
  obtain ⟨⟨hx, hb, hml, hown, hts⟩, hr, hlocks, hname, hl9, hf1, hf2, hf3, hf4, htab, hA, hN, hZ⟩ := hC
  intro tys ad ws H locs ls h1 h2 h3 h4 h5 h6 hK hP hD hS hl
  have z := h2.2 T.length (Nat.le_refl _)
  subst hN9
  refine va_newa (atype := .long) (ty := .long) (a0 := (N, .inr (.inl (fun _ => 0)))) hx hb (hts _ w1) rfl hK hP hD hS hA (fun cA => rfl) (nI_pos (by omega)) (nI_clamp (by omega)) (by show N * 8 ≤ 536870912; omega) (by rw [hf3]; exact hc) (by rw [hf4]; exact hs) hd (fun q cA H1 hK1 hP1 hD1 hS1 => ?_)
  have hok2 : a_ok (T ++ [(.inl (.long, N) : aT)]).length I J R := by rw [List.length_append]; exact a_ok_push h2
  have had : ∀ i, i < T.length → (fun j => if j = T.length then q else ad j) i = ad i := fun i hi => if_neg (by omega)
  have hle : T.length ≤ (T ++ [(.inl (.long, N) : aT)]).length := by simp
  have k9 := k _ (fun j => if j = T.length then q else ad j) _ H1 locs ls (a_rel_push h1 h2 (fun t0 z9 h9 => by rw [List.getElem?_append_left (List.getElem?_eq_some_iff.mp h9).1]; exact h9) (cA := cA) (fun ty n q9 => by cases q9; exact ⟨tys.length, by simp⟩) (by show Sum.inl (cA, N, _) = Sum.inl (cA, N, a_av _ I J R T.length .long); rw [show a_av (fun j => if j = T.length then q else ad j) I J R T.length .long = .inr (.inl (fun _ => 0)) by simp only [a_av, z.2.1]])) hok2 (a_okL_le hle h3) (a_okS_cons (a_okv_ref (by simp)) (a_okS_le hle (a_okS_tl h4))) (h5.trans (List.prefix_append _ _)) (fun i hi => (had i (Nat.lt_of_lt_of_le hi h5.length_le)).trans (h6 i hi)) hK1 hP1 hD1 hS1 (a_lv_le hl (a_lv_eq had h3))
  rw [List.map_cons, a_cvS_le had (a_okS_tl h4)] at k9
  have e9 : a_cv (fun j => if j = T.length then q else ad j) (.ref T.length) = .ref q := by simp [a_cv]
  rw [e9] at k9
  exact k9
theorem aw_anewarray (hC : aC y cc nL ret fr lo kc ks hh X) {n : Int32} {N idx : Nat} {C : String} (hd : decode cc pc = .ok (.anewarray idx, 3)) (w1 : Cond.classLink y.cls idx C ∈ a_G) (w2 : C ∈ (["Layerwright$Statement", "Layerwright$Plan", "Layerwright$Type", "Layerwright$Generator", "Layerwright$Entry"] : List String)) (hN9 : n = nI N) (hN2 : N ≤ 60000000) (hc : cells + 1 ≤ kc) (hs : slots + N ≤ ks) (k : AW X (cells + 1) (slots + N) (pc + 3) L (.ref T.length :: st) (T ++ [.inl (.object C, N)]) I J R) : AW X cells slots pc L (.int n :: st) T I J R := by
  obtain ⟨p, l, e, Rm, s, m, args, below, meth, c, Q, A, D, ad0, T0⟩ := X
  obtain ⟨⟨hx, hb, hml, hown, hts⟩, hr, hlocks, hname, hl9, hf1, hf2, hf3, hf4, htab, hA, hN, hZ⟩ := hC
  intro tys ad ws H locs ls h1 h2 h3 h4 h5 h6 hK hP hD hS hl
  have z := h2.2 T.length (Nat.le_refl _)
  subst hN9
  refine va_newq hx hb hown (hts _ w1) (hN.2.2.2.1 C w2) hK hP hD hS hA (nI_pos (by omega)) (nI_clamp (by omega)) (by omega) (by rw [hf3]; exact hc) (by rw [hf4]; exact hs) hd (fun q cA H1 hK1 hP1 hD1 hS1 => ?_)
  have hok2 : a_ok (T ++ [(.inl (.object C, N) : aT)]).length I J R := by rw [List.length_append]; exact a_ok_push h2
  have had : ∀ i, i < T.length → (fun j => if j = T.length then q else ad j) i = ad i := fun i hi => if_neg (by omega)
  have hle : T.length ≤ (T ++ [(.inl (.object C, N) : aT)]).length := by simp
  have k9 := k _ (fun j => if j = T.length then q else ad j) _ H1 locs ls (a_rel_push h1 h2 (fun t0 z9 h9 => by rw [List.getElem?_append_left (List.getElem?_eq_some_iff.mp h9).1]; exact h9) (cA := cA) (fun ty n q9 => by cases q9; exact ⟨tys.length, by simp⟩) (by show Sum.inl (cA, N, _) = Sum.inl (cA, N, a_av _ I J R T.length (.object C)); rw [show a_av (fun j => if j = T.length then q else ad j) I J R T.length (.object C) = .inr (.inr (.inr (.inr (fun _ => none)))) by simp only [a_av, z.2.2, Option.map_none]])) hok2 (a_okL_le hle h3) (a_okS_cons (a_okv_ref (by simp)) (a_okS_le hle (a_okS_tl h4))) (h5.trans (List.prefix_append _ _)) (fun i hi => (had i (Nat.lt_of_lt_of_le hi h5.length_le)).trans (h6 i hi)) hK1 hP1 hD1 hS1 (a_lv_le hl (a_lv_eq had h3))
  rw [List.map_cons, a_cvS_le had (a_okS_tl h4)] at k9
  have e9 : a_cv (fun j => if j = T.length then q else ad j) (.ref T.length) = .ref q := by simp [a_cv]
  rw [e9] at k9
  exact k9
end AWMEM
