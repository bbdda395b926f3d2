def sDiff (I : aI) (J : aJ) (x a : Nat) : Prop := I 58 (3 * iN I 62 (x / 16) + a) &&& 2 = 0 ∧ sGives I J x a ≠ I 70 (3 * x + a) ∧ ¬ ((I 72 x >>> (nI a &&& 31)) &&& 1 = 1 ∧ 0 ≤ sGives I J x a ∧ sGives I J x a = I 73 (3 * x + a))
def sDf (I : aI) (J : aJ) (x a : Nat) : Bool := decide (I 58 (3 * iN I 62 (x / 16) + a) &&& 2 = 0) && (decide (sGives I J x a ≠ I 70 (3 * x + a)) && !(decide ((I 72 x >>> (nI a &&& 31)) &&& 1 = 1) && (decide (0 ≤ sGives I J x a) && decide (sGives I J x a = I 73 (3 * x + a)))))
theorem sDf_iff {I : aI} {J : aJ} {x a : Nat} : sDf I J x a = true ↔ sDiff I J x a := by
  unfold sDf sDiff
  simp only [Bool.and_eq_true, decide_eq_true_eq, Bool.not_eq_true', Bool.and_eq_false_iff, decide_eq_false_iff_not, Classical.not_and_iff_not_or_not]
theorem sDf_y {I : aI} {J : aJ} {x a : Nat} (h : sDiff I J x a) : (1 : Int32) = bI (sDf I J x a) := by rw [sDf_iff.mpr h]; rfl
theorem sDf_n {I : aI} {J : aJ} {x a : Nat} (h : ¬ sDiff I J x a) : (0 : Int32) = bI (sDf I J x a) := by
  have e : sDf I J x a = false := by
    cases q : sDf I J x a
    · rfl
    · exact absurd (sDf_iff.mp q) h
  rw [e]; rfl
abbrev sKept (I : aI) (x : Nat) : Bool := anyB (fun j => decide (I 64 (8 * (x / 16) + j) = nI (x % 16))) (iN I 63 (x / 16))
noncomputable abbrev fD (I : aI) (J : aJ) (x : Nat) : Nat → Bool := fun k => sDf I J x k
noncomputable abbrev fF (I : aI) (J : aJ) (x : Nat) : Nat → Bool := fun k => sDf I J x k && decide (I 58 (3 * iN I 62 (x / 16) + k) &&& 1 ≠ 0)
noncomputable def sCmp (I : aI) (J : aJ) (x : Nat) : Int32 :=
  if sKept I x = false then (if 0 < I 69 x then 4 else 0) else if ¬ 0 < I 69 x then 1 else if (decide (I 71 x ≠ 0) || anyB (fF I J x) 3) = true then 3 else if anyB (fD I J x) 3 = true then 2 else 0
theorem bI_or (a b : Bool) : bI a ||| bI b = bI (a || b) := by cases a <;> cases b <;> rfl
theorem any_st {p : Nat → Bool} {k : Nat} {acc : Bool} (h : acc = anyB p k) : (acc || p k) = anyB p (k + 1) := by rw [anyB, h]
theorem fF_no {I : aI} {J : aJ} {x k : Nat} {b fo : Bool} (h : sDf I J x k = false ∨ I 58 (3 * iN I 62 (x / 16) + k) &&& 1 = 0) (e : fo = (b || anyB (fF I J x) k)) : fo = (b || anyB (fF I J x) (k + 1)) := by
  have q : fF I J x k = false := by
    show (sDf I J x k && decide (I 58 (3 * iN I 62 (x / 16) + k) &&& 1 ≠ 0)) = false
    rcases h with h | h
    · rw [h]; rfl
    · rw [decide_eq_false (not_not_intro h), Bool.and_false]
  rw [anyB, q, Bool.or_false]; exact e
theorem fF_yes {I : aI} {J : aJ} {x k : Nat} {b : Bool} (h : sDf I J x k = true) (h2 : ¬ I 58 (3 * iN I 62 (x / 16) + k) &&& 1 = 0) : true = (b || anyB (fF I J x) (k + 1)) := by
  have q : fF I J x k = true := by
    show (sDf I J x k && decide (I 58 (3 * iN I 62 (x / 16) + k) &&& 1 ≠ 0)) = true
    rw [h, decide_eq_true h2]; rfl
  rw [anyB, q, Bool.or_true, Bool.or_true]
/-- the sources: nothing, a field, an attribute of a lower generator -/
abbrev SO3 (I : aI) : Prop := ∀ j, j < 12 → I 65 j = -1 ∨ (I 65 j = nI (iN I 65 j) ∧ iN I 65 j < 22 ∧ (10 ≤ iN I 65 j → (iN I 65 j - 10) / 3 < j / 3))
abbrev GW (I : aI) (g : Nat) : Prop := g ≤ 4 ∧ I 44 20 = nI g ∧ SO3 I ∧ NR I 62 4 3 ∧ NR I 61 3 3 ∧ NR I 63 4 9 ∧ B01 I 71
theorem SO3.s2 {I : aI} (h : SO3 I) : SO2 I := fun j hj => (h j hj).imp id (fun q => ⟨q.1, q.2.1⟩)
theorem GW.g4 {I : aI} {g : Nat} (h : GW I g) : g ≤ 4 := h.1
theorem GW.gn {I : aI} {g : Nat} (h : GW I g) : I 44 20 = nI g := h.2.1
theorem GW.so {I : aI} {g : Nat} (h : GW I g) : SO3 I := h.2.2.1
theorem GW.ty {I : aI} {g : Nat} (h : GW I g) : NR I 62 4 3 := h.2.2.2.1
theorem GW.up {I : aI} {g : Nat} (h : GW I g) : NR I 61 3 3 := h.2.2.2.2.1
theorem GW.ks {I : aI} {g : Nat} (h : GW I g) : NR I 63 4 9 := h.2.2.2.2.2.1
theorem GW.bd {I : aI} {g : Nat} (h : GW I g) : B01 I 71 := h.2.2.2.2.2.2
theorem GW_cg {I I2 : aI} {g : Nat} (h0 : I2 44 20 = I 44 20) (h65 : I2 65 = I 65) (h62 : I2 62 = I 62) (h61 : I2 61 = I 61) (h63 : I2 63 = I 63) (h71 : I2 71 = I 71) (h : GW I g) : GW I2 g := by
  unfold GW SO3 NR B01 iN at *; rw [h0, h65, h62, h61, h63, h71]; exact h
theorem sVal_cg {I I2 : aI} {J J2 : aJ} (h57 : I2 44 57 = I 44 57) (hJ : J2 88 = J 88) (f : Nat) : sVal I2 J2 f = sVal I J f := by unfold sVal; rw [h57, hJ]
theorem gvB_cg {I I2 : aI} {x s : Nat} (h61 : I2 61 = I 61) (h62 : I2 62 = I 62) (h69 : I2 69 = I 69) (h70 : I2 70 = I 70) (h91 : I2 91 (16 * ((s - 10) / 3) + x % 16) = I 91 (16 * ((s - 10) / 3) + x % 16)) : gvB I2 x s = gvB I x s := by
  unfold gvB iN; rw [h61, h62, h69, h70, h91]
theorem sGives_cg {I I2 : aI} {J J2 : aJ} {x a : Nat} (hso : SO3 I) (hx : x < 64) (ha : a < 3) (h57 : I2 44 57 = I 44 57) (hJ : J2 88 = J 88) (h58 : I2 58 = I 58) (h61 : I2 61 = I 61) (h62 : I2 62 = I 62) (h65 : I2 65 = I 65) (h69 : I2 69 = I 69) (h70 : I2 70 = I 70) (h91 : ∀ y, y < 16 * (x / 16) → I2 91 y = I 91 y) : sGives I2 J2 x a = sGives I J x a := by
  have e : ∀ j, iN I2 65 j = iN I 65 j := fun j => by unfold iN; rw [h65]
  have e2 : ∀ j, iN I2 62 j = iN I 62 j := fun j => by unfold iN; rw [h62]
  have e3 : ∀ s, gvA I2 J2 x s = gvA I J x s := fun s => by unfold gvA iN; rw [sVal_cg h57 hJ, h61, h62]
  rw [sGives, sGives, e, h65, h58, e2, e3]
  by_cases c : I 65 (3 * (x / 16) + a) = -1 ∨ I 58 (3 * iN I 62 (x / 16) + a) &&& 2 ≠ 0
  · rw [if_pos c, if_pos c]
  · rw [if_neg c, if_neg c]
    by_cases d : iN I 65 (3 * (x / 16) + a) < 10
    · rw [if_pos d, if_pos d]
    · rw [if_neg d, if_neg d]
      rcases hso (3 * (x / 16) + a) (by omega) with q | q
      · exact absurd (Or.inl q) c
      · exact gvB_cg h61 h62 h69 h70 (h91 _ (by have := q.2.2 (by omega); omega))
theorem sDiff_cg {I I2 : aI} {J J2 : aJ} {x a : Nat} (hg : sGives I2 J2 x a = sGives I J x a) (h58 : I2 58 = I 58) (h62 : I2 62 = I 62) (h70 : I2 70 = I 70) (h72 : I2 72 = I 72) (h73 : I2 73 = I 73) : sDf I2 J2 x a = sDf I J x a := by
  have e : sDiff I2 J2 x a ↔ sDiff I J x a := by unfold sDiff iN; rw [hg, h58, h62, h70, h72, h73]
  exact Bool.eq_iff_iff.mpr (by rw [sDf_iff, sDf_iff]; exact e)
theorem anyB_cg {p q : Nat → Bool} : ∀ {n : Nat}, (∀ j, j < n → p j = q j) → anyB p n = anyB q n
  | 0, _ => rfl
  | n + 1, h => by rw [anyB, anyB, anyB_cg (fun j hj => h j (by omega)), h n (by omega)]
theorem sCmp_cg {I I2 : aI} {J J2 : aJ} {x : Nat} (hso : SO3 I) (hx : x < 64) (h57 : I2 44 57 = I 44 57) (hJ : J2 88 = J 88) (h : ∀ o, o ≠ 44 → o ≠ 91 → I2 o = I o) (h91 : ∀ y, y < 16 * (x / 16) → I2 91 y = I 91 y) : sCmp I2 J2 x = sCmp I J x := by
  have r := fun o h1 h2 => h o h1 h2
  have g : ∀ a, a < 3 → sDf I2 J2 x a = sDf I J x a := fun a ha => sDiff_cg (sGives_cg hso hx ha h57 hJ (r 58 (by decide) (by decide)) (r 61 (by decide) (by decide)) (r 62 (by decide) (by decide)) (r 65 (by decide) (by decide)) (r 69 (by decide) (by decide)) (r 70 (by decide) (by decide)) h91) (r 58 (by decide) (by decide)) (r 62 (by decide) (by decide)) (r 70 (by decide) (by decide)) (r 72 (by decide) (by decide)) (r 73 (by decide) (by decide))
  have gF : anyB (fF I2 J2 x) 3 = anyB (fF I J x) 3 := anyB_cg (fun j hj => by simp only [fF]; rw [g j hj, r 58 (by decide) (by decide)]; unfold iN; rw [r 62 (by decide) (by decide)])
  have gD : anyB (fD I2 J2 x) 3 = anyB (fD I J x) 3 := anyB_cg (fun j hj => g j hj)
  have gK : sKept I2 x = sKept I x := by simp only [sKept]; unfold iN; rw [r 64 (by decide) (by decide), r 63 (by decide) (by decide)]
  rw [sCmp, sCmp, gF, gD, gK, r 69 (by decide) (by decide), r 71 (by decide) (by decide)]
/-- the comparisons are right -/
def CmpOK (I : aI) (J : aJ) (g : Nat) : Prop := ∀ x, x < 16 * g → I 91 x = sCmp I J x
theorem SolP.f44 {I I2 : aI} {J J2 : aJ} {n k : Nat} (h : SolP I I2 J J2 n) (h1 : k ≠ 53) (h2 : k ≠ 57) : I2 44 k = I 44 k := by
  obtain ⟨K, P, S, -, I3, h3, h4, -⟩ := h
  rw [h4, a_u_ne (fun q => h2 q.2), a_u_ne (fun q => h1 q.2), h3.fr 44 (by decide)]
theorem SolP.gw {I I2 : aI} {J J2 : aJ} {n g : Nat} (h : SolP I I2 J J2 n) (hg : GW I g) : GW I2 g :=
  GW_cg (h.f44 (by decide) (by decide)) (h.fr 65 (by decide)) (h.fr 62 (by decide)) (h.fr 61 (by decide)) (h.fr 63 (by decide)) (h.fr 71 (by decide)) hg
theorem cmp_put {I : aI} {J : aJ} {S : Nat → Int32} {k g : Nat} (hg : g ≤ 4) (hk : k < 16 * g) (hso : SO3 I) (h : ∀ x, x < k → S x = sCmp (a_ur I 91 S) J x) : ∀ x, x < k + 1 → (fun j => if j = k then sCmp (a_ur I 91 S) J k else S j) x = sCmp (a_ur I 91 (fun j => if j = k then sCmp (a_ur I 91 S) J k else S j)) J x := fun x hx => by
  have e : sCmp (a_ur I 91 (fun j => if j = k then sCmp (a_ur I 91 S) J k else S j)) J x = sCmp (a_ur I 91 S) J x := by
    refine sCmp_cg (by unfold SO3 iN at *; rw [a_ur_ne (by decide)]; exact hso) (by omega) (by rw [a_ur_ne (by decide), a_ur_ne (by decide)]) rfl (fun o h1 h2 => by rw [a_ur_ne h2, a_ur_ne h2]) (fun y hy => ?_)
    rw [a_ur_self, a_ur_self]
    exact if_neg (by omega)
  rw [e]
  by_cases c : x = k
  · subst c; exact if_pos rfl
  · exact (if_neg c).trans (h x (by omega))
