/-- what a source gives is put down for an attribute that has drifted -/
def rdD (I : aI) (v : Int32) (x k : Nat) : aI :=
  if I 60 (iN I 62 (x / 16)) = 0 then I
  else if 0 ≤ v ∧ sKept I x = true then a_u (a_u I 72 x (I 72 x ||| (1 <<< ((nI k) &&& 31)))) 73 (3 * x + k) v
  else a_u (a_u I 72 x (I 72 x &&& ((1 <<< ((nI k) &&& 31)) ^^^ (-1)))) 73 (3 * x + k) (I 73 (3 * x + k))
theorem rdD_0 {I : aI} {v : Int32} {x k : Nat} (h : I 60 (iN I 62 (x / 16)) = 0) : I = rdD I v x k := (if_pos h).symm
theorem rdD_y {I : aI} {v : Int32} {x k : Nat} (h : ¬ I 60 (iN I 62 (x / 16)) = 0) (h1 : 0 ≤ v) (h2 : sKept I x = true) : a_u (a_u I 72 x (I 72 x ||| (1 <<< ((nI k) &&& 31)))) 73 (3 * x + k) v = rdD I v x k := by unfold rdD; rw [if_neg h, if_pos ⟨h1, h2⟩]
theorem rdD_n {I : aI} {v : Int32} {x k : Nat} (h : ¬ I 60 (iN I 62 (x / 16)) = 0) (h1 : v < 0 ∨ sKept I x = false) : a_u (a_u I 72 x (I 72 x &&& ((1 <<< ((nI k) &&& 31)) ^^^ (-1)))) 73 (3 * x + k) (I 73 (3 * x + k)) = rdD I v x k := by
  unfold rdD; rw [if_neg h, if_neg (fun q => by rcases h1 with h1 | h1; exact absurd q.1 (Int32.not_le.mpr h1); rw [h1] at q; cases q.2)]
/-- the comparisons of a store, name by name -/
noncomputable def cFr (I : aI) (J : aJ) : Nat → Nat → Int32
  | 0 => fun _ => 0
  | k + 1 => fun j => if j = k then sCmp (a_ur I 91 (cFr I J k)) J k else cFr I J k j
theorem cFr_ok {I : aI} {J : aJ} {g : Nat} (hg : g ≤ 4) (hso : SO3 I) : ∀ k, k ≤ 16 * g → ∀ x, x < k → cFr I J k x = sCmp (a_ur I 91 (cFr I J k)) J x
  | 0, _ => fun x hx => absurd hx (by omega)
  | k + 1, hk => cmp_put hg (by omega) hso (cFr_ok hg hso k (by omega))
theorem cmp_uniq {I I2 : aI} {J J2 : aJ} {g : Nat} (hg : g ≤ 4) (hso : SO3 I) (h57 : I2 44 57 = I 44 57) (hJ : J2 88 = J 88) (h : ∀ o, o ≠ 44 → o ≠ 91 → o ≠ 92 → (83 ≤ o ∧ o ≤ 87) ∨ o = 93 ∨ I2 o = I o) (hc : CmpOK I J g) (hc2 : CmpOK I2 J2 g) : ∀ x, x < 16 * g → I2 91 x = I 91 x := by
  intro x
  induction x using Nat.strongRecOn with
  | _ x ih =>
    intro hx
    rw [hc x hx, hc2 x hx]
    have r : ∀ o, o ≠ 44 → o ≠ 91 → o ≠ 92 → ¬ (83 ≤ o ∧ o ≤ 87) → o ≠ 93 → I2 o = I o := fun o h1 h2 h3 h4 h5 => by
      rcases h o h1 h2 h3 with q | q | q
      · exact absurd q h4
      · exact absurd q h5
      · exact q
    have s : ∀ o, (57 < o ∧ o < 80) → I2 o = I o := fun o ho => r o (by omega) (by omega) (by omega) (by omega) (by omega)
    have g1 : ∀ a, a < 3 → sDf I2 J2 x a = sDf I J x a := fun a ha => sDiff_cg (sGives_cg hso (by omega) ha h57 hJ (s 58 (by decide)) (s 61 (by decide)) (s 62 (by decide)) (s 65 (by decide)) (s 69 (by decide)) (s 70 (by decide)) (fun y hy => ih y (by omega) (by omega))) (s 58 (by decide)) (s 62 (by decide)) (s 70 (by decide)) (s 72 (by decide)) (s 73 (by decide))
    have gF : anyB (fF I2 J2 x) 3 = anyB (fF I J x) 3 := anyB_cg (fun j hj => by simp only [fF]; rw [g1 j hj, s 58 (by decide)]; unfold iN; rw [s 62 (by decide)])
    have gD : anyB (fD I2 J2 x) 3 = anyB (fD I J x) 3 := anyB_cg (fun j hj => g1 j hj)
    have gK : sKept I2 x = sKept I x := by simp only [sKept]; unfold iN; rw [s 64 (by decide), s 63 (by decide)]
    rw [sCmp, sCmp, gF, gD, gK, s 69 (by decide), s 71 (by decide)]
/-- what the source of an attribute gives, by lasting rows and what the statements say -/
noncomputable def gvV (I : aI) (c : Int32) (mj : aJ) (g x a : Nat) : Int32 := sGives (a_ur (a_u I 44 57 c) 91 (cFr (a_u I 44 57 c) mj (16 * g))) mj x a
theorem SO3_cg {I I2 : aI} (h : I2 65 = I 65) (g : SO3 I) : SO3 I2 := by unfold SO3 iN at *; rw [h]; exact g
theorem gv_eq {A I : aI} {J mj : aJ} {c : Int32} {g x a : Nat} (hb : BaseF A I) (hg : GW I g) (hx : x < 16 * g) (ha : a < 3) (hc : CmpOK I J g) (h57 : I 44 57 = c) (hJ : J 88 = mj 88) : sGives I J x a = gvV A c mj g x a := by
  have hg4 := hg.g4
  have e65 : I 65 = A 65 := hb.1 65 (by decide)
  have hsoA : SO3 (a_u A 44 57 c) := SO3_cg (by rw [a_u_row (by decide), e65]) hg.so
  obtain ⟨B, hB⟩ : ∃ B, B = a_ur (a_u A 44 57 c) 91 (cFr (a_u A 44 57 c) mj (16 * g)) := ⟨_, rfl⟩
  have hcB : CmpOK B mj g := by
    intro x hx; rw [hB, a_ur_self]; exact cFr_ok hg4 hsoA (16 * g) (Nat.le_refl _) x hx
  have hBo : ∀ o, o ≠ 44 → o ≠ 91 → B o = A o := fun o h1 h2 => by rw [hB, a_ur_ne h2, a_u_row h1]
  have hB57 : B 44 57 = c := by rw [hB, a_ur_ne (by decide), a_u_self]
  have hsoB : SO3 B := SO3_cg (by rw [hBo 65 (by decide) (by decide), e65]) hg.so
  have u := cmp_uniq (I := B) (I2 := I) (J := mj) (J2 := J) hg4 hsoB (by rw [h57, hB57]) hJ (fun o h1 h2 h3 => by
    by_cases q1 : 83 ≤ o ∧ o ≤ 87
    · exact Or.inl q1
    · by_cases q2 : o = 93
      · exact Or.inr (Or.inl q2)
      · exact Or.inr (Or.inr (by rw [hBo o h1 h2]; exact hb.1 o ⟨h1, by omega, by omega, by omega, by omega, by omega, h2, h3, q2⟩))) hcB hc
  unfold gvV; rw [← hB]
  have s : ∀ o, (57 < o ∧ o < 80) → I o = B o := fun o ho => by rw [hBo o (by omega) (by omega)]; exact hb.1 o ⟨by omega, by omega, by omega, by omega, by omega, by omega, by omega, by omega, by omega⟩
  exact sGives_cg hsoB (by omega) ha (by rw [h57, hB57]) hJ (s 58 (by decide)) (s 61 (by decide)) (s 62 (by decide)) (s 65 (by decide)) (s 69 (by decide)) (s 70 (by decide)) (fun y hy => u y (by omega))
noncomputable def rdK (I : aI) (c : Int32) (mj : aJ) (g x k : Nat) : aI := rdD (a_u I 70 (3 * x + k) (I 67 (3 * (iN I 69 x - 1) + k))) (gvV (a_u I 70 (3 * x + k) (I 67 (3 * (iN I 69 x - 1) + k))) c mj g x k) x k
abbrev rdC (I : aI) (x k : Nat) : Prop := I 58 (3 * iN I 62 (x / 16) + k) &&& 4 = 0 ∧ I 67 (3 * (iN I 69 x - 1) + k) ≠ I 70 (3 * x + k)
noncomputable def rdA (I : aI) (c : Int32) (mj : aJ) (g x : Nat) : Nat → aI × Nat
  | 0 => (I, 0)
  | k + 1 => if rdC (rdA I c mj g x k).1 x k then (rdK (rdA I c mj g x k).1 c mj g x k, (rdA I c mj g x k).2 + 1) else rdA I c mj g x k
noncomputable def rdX (I : aI) (c : Int32) (mj : aJ) (g x : Nat) : aI × Nat × Nat :=
  if 0 < iN I 69 x then (if I 68 (iN I 69 x - 1) ≠ 0 then (a_u I 69 x 0, 1, 0) else ((rdA I c mj g x 3).1, 0, (rdA I c mj g x 3).2)) else (I, 0, 0)
noncomputable def rdN (I : aI) (c : Int32) (mj : aJ) (g : Nat) : Nat → aI × Nat × Nat
  | 0 => (I, 0, 0)
  | k + 1 => ((rdX (rdN I c mj g k).1 c mj g k).1, (rdN I c mj g k).2.1 + (rdX (rdN I c mj g k).1 c mj g k).2.1, (rdN I c mj g k).2.2 + (rdX (rdN I c mj g k).1 c mj g k).2.2)
theorem rdD_fr {I : aI} {v : Int32} {x k o : Nat} (h : o ≠ 72 ∧ o ≠ 73) : rdD I v x k o = I o := by
  unfold rdD; split
  · rfl
  · split <;> rw [a_u_row h.2, a_u_row h.1]
theorem rdK_fr {I : aI} {c : Int32} {mj : aJ} {g x k o : Nat} (h : o ≠ 70 ∧ o ≠ 72 ∧ o ≠ 73) : rdK I c mj g x k o = I o := by unfold rdK; rw [rdD_fr h.2, a_u_row h.1]
theorem rdA_fr {I : aI} {c : Int32} {mj : aJ} {g x o : Nat} (h : o ≠ 70 ∧ o ≠ 72 ∧ o ≠ 73) : ∀ k, (rdA I c mj g x k).1 o = I o
  | 0 => rfl
  | k + 1 => by
    simp only [rdA]; split
    · exact (rdK_fr h).trans (rdA_fr h k)
    · exact rdA_fr h k
theorem rdX_fr {I : aI} {c : Int32} {mj : aJ} {g x o : Nat} (h : o ≠ 69 ∧ o ≠ 70 ∧ o ≠ 72 ∧ o ≠ 73) : (rdX I c mj g x).1 o = I o := by
  unfold rdX; split
  · split
    · exact a_u_row h.1
    · exact rdA_fr h.2 3
  · rfl
theorem rdN_fr {I : aI} {c : Int32} {mj : aJ} {g o : Nat} (h : o ≠ 69 ∧ o ≠ 70 ∧ o ≠ 72 ∧ o ≠ 73) : ∀ k, (rdN I c mj g k).1 o = I o
  | 0 => rfl
  | k + 1 => (rdX_fr h).trans (rdN_fr h k)
theorem rdX_E {I : aI} {c : Int32} {mj : aJ} {g x : Nat} (h : NR I 69 64 61) : NR (rdX I c mj g x).1 69 64 61 := by
  unfold rdX; split
  · split
    · exact h.put (m := 0) (by omega) (by omega)
    · exact NR_cg (rdA_fr (by decide) 3) h
  · exact h
theorem rdN_E {I : aI} {c : Int32} {mj : aJ} {g : Nat} (h : NR I 69 64 61) : ∀ k, NR (rdN I c mj g k).1 69 64 61
  | 0 => h
  | k + 1 => rdX_E (rdN_E h k)
theorem rdA_c (I : aI) (c : Int32) (mj : aJ) (g x : Nat) : ∀ k, (rdA I c mj g x k).2 ≤ k
  | 0 => Nat.le_refl _
  | k + 1 => by have := rdA_c I c mj g x k; simp only [rdA]; split <;> omega
theorem rdX_c (I : aI) (c : Int32) (mj : aJ) (g x : Nat) : (rdX I c mj g x).2.1 ≤ 1 ∧ (rdX I c mj g x).2.2 ≤ 3 := by
  unfold rdX; split
  · split
    · exact ⟨Nat.le_refl _, by simp⟩
    · exact ⟨by simp, rdA_c _ _ _ _ _ 3⟩
  · exact ⟨by simp, by simp⟩
theorem rdN_c (I : aI) (c : Int32) (mj : aJ) (g : Nat) : ∀ k, (rdN I c mj g k).2.1 ≤ k ∧ (rdN I c mj g k).2.2 ≤ 3 * k
  | 0 => ⟨Nat.le_refl _, Nat.le_refl _⟩
  | k + 1 => by have := rdN_c I c mj g k; have := rdX_c (rdN I c mj g k).1 c mj g k; simp only [rdN]; omega
theorem rdD_bf {A B : aI} {v : Int32} {x k : Nat} (h : BaseF A B) : BaseF (rdD A v x k) (rdD B v x k) := by
  have e : ∀ o, (45 ≤ o ∧ o < 83) → B o = A o := fun o ho => h.1 o ⟨by omega, by omega, by omega, by omega, by omega, by omega, by omega, by omega, by omega⟩
  have eK : sKept B x = sKept A x := by simp only [sKept]; unfold iN; rw [e 64 (by decide), e 63 (by decide)]
  have eN : iN B 62 (x / 16) = iN A 62 (x / 16) := by unfold iN; rw [e 62 (by decide)]
  refine ⟨fun o ho => ?_, fun q hq => by rw [rdD_fr (by decide), rdD_fr (by decide)]; exact h.2 q hq⟩
  unfold rdD
  rw [e 60 (by decide), eN, eK, e 72 (by decide), e 73 (by decide)]
  split
  · exact h.1 o ho
  · split
    · by_cases c3 : o = 73
      · subst c3; funext j; by_cases cj : j = 3 * x + k
        · subst cj; rw [a_u_self, a_u_self]
        · rw [a_u_ne (fun q => cj q.2), a_u_ne (fun q => cj q.2), a_u_row (by decide), a_u_row (by decide), e 73 (by decide)]
      · rw [a_u_row c3, a_u_row c3]
        by_cases c2 : o = 72
        · subst c2; funext j; by_cases cj : j = x
          · subst cj; rw [a_u_self, a_u_self]
          · rw [a_u_ne (fun q => cj q.2), a_u_ne (fun q => cj q.2), e 72 (by decide)]
        · rw [a_u_row c2, a_u_row c2]; exact h.1 o ho
    · by_cases c3 : o = 73
      · subst c3; funext j; by_cases cj : j = 3 * x + k
        · subst cj; rw [a_u_self, a_u_self]
        · rw [a_u_ne (fun q => cj q.2), a_u_ne (fun q => cj q.2), a_u_row (by decide), a_u_row (by decide), e 73 (by decide)]
      · rw [a_u_row c3, a_u_row c3]
        by_cases c2 : o = 72
        · subst c2; funext j; by_cases cj : j = x
          · subst cj; rw [a_u_self, a_u_self]
          · rw [a_u_ne (fun q => cj q.2), a_u_ne (fun q => cj q.2), e 72 (by decide)]
        · rw [a_u_row c2, a_u_row c2]; exact h.1 o ho
theorem a_u_bf {A B : aI} {o k : Nat} {v : Int32} (h : BaseF A B) : BaseF (a_u A o k v) (a_u B o k v) := by
  refine ⟨fun q hq => ?_, fun q hq => ?_⟩
  · funext j
    by_cases c : q = o ∧ j = k
    · obtain ⟨rfl, rfl⟩ := c; rw [a_u_self, a_u_self]
    · rw [a_u_ne c, a_u_ne c, h.1 q hq]
  · by_cases c : 44 = o ∧ q = k
    · obtain ⟨rfl, rfl⟩ := c; rw [a_u_self, a_u_self]
    · rw [a_u_ne c, a_u_ne c]; exact h.2 q hq
/-- the statements' rows are the same -/
abbrev StEq (I I0 : aI) : Prop := (∀ o, 45 ≤ o ∧ o ≤ 56 → I0 o = I o) ∧ I0 44 0 = I 44 0 ∧ I0 44 13 = I 44 13
abbrev SolD (I : aI) (n : Nat) (c : Int32) (mj : aJ) : Prop := ∀ (I0 I1 : aI) (J0 J1 : aJ), StEq I I0 → SolP I0 I1 J0 J1 n → I1 44 57 = c ∧ J1 88 = mj 88
theorem rd_step {A I2 I3 I : aI} {J2 J3 mj : aJ} {c : Int32} {n g x q r : Nat} (hb : BaseF A I2) (hg : GW I2 g) (hx : x < 16 * g) (hq : q < 3) (he : iN A 69 x = r + 1) (hsol : SolD I n c mj) (hst : StEq I A) (hC : CmR (a_u I2 70 (3 * x + q) (I2 67 (3 * r + q))) I3 J2 J3 n g) : BaseF (rdK A c mj g x q) (rdD I3 (sGives I3 J3 x q) x q) := by
  have e67 : I2 67 = A 67 := hb.1 67 (by decide)
  have hb2 : BaseF (a_u A 70 (3 * x + q) (A 67 (3 * r + q))) (a_u I2 70 (3 * x + q) (I2 67 (3 * r + q))) := by rw [e67]; exact a_u_bf hb
  have hb3 := hb2.trans hC.bf
  have hg2 : GW (a_u I2 70 (3 * x + q) (I2 67 (3 * r + q))) g := GW_cg (by rw [a_u_row (by decide)]) (a_u_row (by decide)) (a_u_row (by decide)) (a_u_row (by decide)) (a_u_row (by decide)) (a_u_row (by decide)) hg
  have hg3 := hC.gw hg2
  have hcv : I3 44 57 = c ∧ J3 88 = mj 88 := by
    obtain ⟨I1, h1, ⟨S, h2⟩, -⟩ := hC
    have z := hsol _ I1 _ J3 ⟨fun o ho => by rw [a_u_row (by omega), hb.1 o ⟨by omega, by omega, by omega, by omega, by omega, by omega, by omega, by omega, by omega⟩]; exact hst.1 o ho, by rw [a_u_row (by decide), hb.2 0 (by decide)]; exact hst.2.1, by rw [a_u_row (by decide), hb.2 13 (by decide)]; exact hst.2.2⟩ h1
    exact ⟨by rw [h2, a_ur_ne (by decide)]; exact z.1, z.2⟩
  have hcm : CmpOK I3 J3 g := by obtain ⟨I1, h1, h2, h3⟩ := hC; exact h3
  rw [gv_eq hb3 hg3 hx hq hcm hcv.1 hcv.2]
  unfold rdK; rw [he, Nat.add_sub_cancel]
  exact rdD_bf hb3
theorem rdC_bf {A B : aI} {x q r : Nat} (h : BaseF A B) (he : iN A 69 x = r + 1) : rdC A x q ↔ (B 58 (3 * iN B 62 (x / 16) + q) &&& 4 = 0 ∧ B 67 (3 * r + q) ≠ B 70 (3 * x + q)) := by
  unfold rdC; rw [he, Nat.add_sub_cancel]
  have eN : iN B 62 (x / 16) = iN A 62 (x / 16) := by unfold iN; rw [h.1 62 (by decide)]
  rw [eN, h.1 58 (by decide), h.1 67 (by decide), h.1 70 (by decide)]
theorem BaseF.sw {I I2 : aI} {n : Nat} (h : BaseF I I2) (g : SW I n) : SW I2 n :=
  SW_cg (h.2 0 (by decide)) (h.1 45 (by decide)) (h.1 46 (by decide)) (h.1 47 (by decide)) (h.1 48 (by decide)) (h.1 49 (by decide)) (h.1 50 (by decide)) (h.1 51 (by decide)) (h.1 53 (by decide)) g
theorem BaseF.gw {I I2 : aI} {g : Nat} (h : BaseF I I2) (hg : GW I g) : GW I2 g :=
  GW_cg (h.2 20 (by decide)) (h.1 65 (by decide)) (h.1 62 (by decide)) (h.1 61 (by decide)) (h.1 63 (by decide)) (h.1 71 (by decide)) hg
theorem rdX_0 {I : aI} {c : Int32} {mj : aJ} {g x : Nat} (h : iN I 69 x = 0) : rdX I c mj g x = (I, 0, 0) := by unfold rdX; rw [if_neg (by omega)]
theorem rdX_1 {I : aI} {c : Int32} {mj : aJ} {g x r : Nat} (h : iN I 69 x = r + 1) (hg : I 68 r ≠ 0) : rdX I c mj g x = (a_u I 69 x 0, 1, 0) := by unfold rdX; rw [if_pos (by omega), if_pos (by rw [h]; exact hg)]
theorem rdX_2 {I : aI} {c : Int32} {mj : aJ} {g x r : Nat} (h : iN I 69 x = r + 1) (hg : I 68 r = 0) : rdX I c mj g x = ((rdA I c mj g x 3).1, 0, (rdA I c mj g x 3).2) := by unfold rdX; rw [if_pos (by omega), if_neg (by rw [h]; exact not_not_intro hg)]
/-- reading: the serial moves where something has changed -/
noncomputable def rdS (I : aI) (c : Int32) (mj : aJ) (g : Nat) : aI := a_u (rdN I c mj g (16 * g)).1 44 35 (I 44 35 + (if 0 < (rdN I c mj g (16 * g)).2.1 + (rdN I c mj g (16 * g)).2.2 then 1 else 0))
