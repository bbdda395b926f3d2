theorem sCmp_cg2 {I I2 : aI} {J J2 : aJ} {x : Nat} (hso : SO3 I) (hx : x < 64) (h57 : I2 44 57 = I 44 57) (hJ : J2 88 = J 88) (h : ∀ o, o ≠ 44 → o ≠ 91 → o ≠ 92 → I2 o = I o) (h91 : ∀ y, y < 16 * (x / 16) → I2 91 y = I 91 y) : sCmp I2 J2 x = sCmp I J x := by
  have g : ∀ a, a < 3 → sDf I2 J2 x a = sDf I J x a := fun a ha => sDiff_cg (sGives_cg hso hx ha h57 hJ (h 58 (by decide) (by decide) (by decide)) (h 61 (by decide) (by decide) (by decide)) (h 62 (by decide) (by decide) (by decide)) (h 65 (by decide) (by decide) (by decide)) (h 69 (by decide) (by decide) (by decide)) (h 70 (by decide) (by decide) (by decide)) h91) (h 58 (by decide) (by decide) (by decide)) (h 62 (by decide) (by decide) (by decide)) (h 70 (by decide) (by decide) (by decide)) (h 72 (by decide) (by decide) (by decide)) (h 73 (by decide) (by decide) (by decide))
  have gF : anyB (fF I2 J2 x) 3 = anyB (fF I J x) 3 := anyB_cg (fun j hj => by simp only [fF]; rw [g j hj, h 58 (by decide) (by decide) (by decide)]; unfold iN; rw [h 62 (by decide) (by decide) (by decide)])
  have gD : anyB (fD I2 J2 x) 3 = anyB (fD I J x) 3 := anyB_cg (fun j hj => g j hj)
  have gK : sKept I2 x = sKept I x := by simp only [sKept]; unfold iN; rw [h 64 (by decide) (by decide) (by decide), h 63 (by decide) (by decide) (by decide)]
  rw [sCmp, sCmp, gF, gD, gK, h 69 (by decide) (by decide) (by decide), h 71 (by decide) (by decide) (by decide)]
theorem CmpOK_cg {I I2 : aI} {J J2 : aJ} {g : Nat} (hg : g ≤ 4) (hso : SO3 I) (h57 : I2 44 57 = I 44 57) (hJ : J2 88 = J 88) (h : ∀ o, o ≠ 44 → o ≠ 92 → I2 o = I o) (hc : CmpOK I J g) : CmpOK I2 J2 g := fun x hx => by
  rw [h 91 (by decide) (by decide), hc x hx]
  exact (sCmp_cg2 hso (by omega) h57 hJ (fun o h1 _ h3 => h o h1 h3) (fun y _ => by rw [h 91 (by decide) (by decide)])).symm
abbrev CmR (I I2 : aI) (J J2 : aJ) (n g : Nat) : Prop := ∃ I1, SolP I I1 J J2 n ∧ (∃ S, I2 = a_ur I1 91 S) ∧ CmpOK I2 J2 g
theorem CmR.fr {I I2 : aI} {J J2 : aJ} {n g : Nat} (h : CmR I I2 J J2 n g) : ∀ o, o ≠ 44 ∧ o ≠ 83 ∧ o ≠ 84 ∧ o ≠ 85 ∧ o ≠ 86 ∧ o ≠ 91 → I2 o = I o := by
  obtain ⟨I1, h1, ⟨S, h2⟩, -⟩ := h
  intro o ho
  rw [h2, a_ur_ne ho.2.2.2.2.2]; exact h1.fr o ⟨ho.1, ho.2.1, ho.2.2.1, ho.2.2.2.1, ho.2.2.2.2.1⟩
theorem CmR.f44 {I I2 : aI} {J J2 : aJ} {n g k : Nat} (h : CmR I I2 J J2 n g) (h1 : k ≠ 53) (h2 : k ≠ 57) : I2 44 k = I 44 k := by
  obtain ⟨I1, h3, ⟨S, h4⟩, -⟩ := h
  rw [h4, a_ur_ne (by decide)]; exact h3.f44 h1 h2
theorem CmR.gw {I I2 : aI} {J J2 : aJ} {n g : Nat} (h : CmR I I2 J J2 n g) (hg : GW I g) : GW I2 g :=
  GW_cg (h.f44 (by decide) (by decide)) (h.fr 65 (by decide)) (h.fr 62 (by decide)) (h.fr 61 (by decide)) (h.fr 63 (by decide)) (h.fr 71 (by decide)) hg
theorem GW.th {I : aI} {g : Nat} {v : Int32} (h : GW I g) : GW (a_u I 44 61 v) g := GW_cg (a_u_ne (by decide)) (a_u_row (by decide)) (a_u_row (by decide)) (a_u_row (by decide)) (a_u_row (by decide)) (a_u_row (by decide)) h
theorem PlR.fr {I I2 : aI} {J J2 : aJ} {n g : Nat} (h : PlR I I2 J J2 n g) : ∀ o, o ≠ 44 ∧ o ≠ 83 ∧ o ≠ 84 ∧ o ≠ 85 ∧ o ≠ 86 ∧ o ≠ 91 ∧ o ≠ 92 → I2 o = I o := by
  obtain ⟨I1, Ic, h1, h2, h3, h4⟩ := h
  intro o ho
  rw [h4.1 o ⟨ho.1, ho.2.2.2.2.2.2⟩]; exact CmR.fr ⟨I1, h1, h2, h3⟩ o ⟨ho.1, ho.2.1, ho.2.2.1, ho.2.2.2.1, ho.2.2.2.2.1, ho.2.2.2.2.2.1⟩
theorem PlR.f44 {I I2 : aI} {J J2 : aJ} {n g k : Nat} (h : PlR I I2 J J2 n g) (h1 : k ≠ 53) (h2 : k ≠ 57) (h5 : k ≠ 59) : I2 44 k = I 44 k := by
  obtain ⟨I1, Ic, g1, g2, g3, g4⟩ := h
  rw [g4.2.1 k h5]; exact CmR.f44 ⟨I1, g1, g2, g3⟩ h1 h2
theorem PlR.gw {I I2 : aI} {J J2 : aJ} {n g : Nat} (h : PlR I I2 J J2 n g) (hg : GW I g) : GW I2 g :=
  GW_cg (h.f44 (by decide) (by decide) (by decide)) (h.fr 65 (by decide)) (h.fr 62 (by decide)) (h.fr 61 (by decide)) (h.fr 63 (by decide)) (h.fr 71 (by decide)) hg
theorem upL_cg {I I2 : aI} (h91 : I2 91 = I 91) (h59 : I2 59 = I 59) (h62 : I2 62 = I 62) (x : Nat) : upL I2 x = upL I x := by unfold upL iN; rw [h91, h59, h62]
theorem dnL_cg {I I2 : aI} (h91 : I2 91 = I 91) (h59 : I2 59 = I 59) (h62 : I2 62 = I 62) (x : Nat) : dnL I2 x = dnL I x := by unfold dnL iN; rw [h91, h59, h62]
theorem aUp_cg {I I2 : aI} (h91 : I2 91 = I 91) (h59 : I2 59 = I 59) (h62 : I2 62 = I 62) : ∀ k, aUp I2 k = aUp I k
  | 0 => rfl
  | k + 1 => by rw [aUp, aUp, aUp_cg h91 h59 h62 k, upL_cg h91 h59 h62]
theorem aDn_cg {I I2 : aI} (h91 : I2 91 = I 91) (h59 : I2 59 = I 59) (h62 : I2 62 = I 62) (n : Nat) : ∀ k, aDn I2 n k = aDn I n k
  | 0 => rfl
  | k + 1 => by rw [aDn, aDn, aDn_cg h91 h59 h62 n k, dnL_cg h91 h59 h62]
theorem allA_cg {I I2 : aI} (h91 : I2 91 = I 91) (h59 : I2 59 = I 59) (h62 : I2 62 = I 62) (n : Nat) : allA I2 n = allA I n := by
  show aUp I2 n ++ aDn I2 n n = aUp I n ++ aDn I n n
  rw [aUp_cg h91 h59 h62, aDn_cg h91 h59 h62]
theorem allA_le (I : aI) (n : Nat) : (allA I n).length ≤ 2 * n := by
  have h := aDn_2 I n n (Nat.le_refl _)
  rw [Nat.sub_self] at h
  simp only [aUp, List.length_nil] at h
  show (aUp I n ++ aDn I n n).length ≤ 2 * n
  rw [List.length_append]; omega
/-- the list -/
theorem PlR.list {I I2 : aI} {J J2 : aJ} {n g : Nat} (h : PlR I I2 J J2 n g) : I2 44 59 = nI (allA I2 (16 * g)).length ∧ ∀ k (hk : k < (allA I2 (16 * g)).length), I2 92 k = nI (allA I2 (16 * g))[k] := by
  obtain ⟨I1, Ic, g1, g2, g3, g4⟩ := h
  have e : allA I2 (16 * g) = allA Ic (16 * g) := allA_cg (g4.1 91 (by decide)) (g4.1 59 (by decide)) (g4.1 62 (by decide)) _
  rw [e]; exact g4.2.2
theorem PlR.cmp {I I2 : aI} {J J2 : aJ} {n g : Nat} (hg : GW I g) (h : PlR I I2 J J2 n g) : CmpOK I2 J2 g := by
  obtain ⟨I1, Ic, g1, g2, g3, g4⟩ := h
  exact CmpOK_cg hg.g4 (CmR.gw ⟨I1, g1, g2, g3⟩ hg).so (g4.2.1 57 (by decide)) rfl (fun o h1 h2 => g4.1 o ⟨h1, h2⟩) g3
theorem NR_fr {I I2 : aI} {a n b : Nat} (h : I2 a = I a) (g : NR I a n b) : NR I2 a n b := NR_cg h g
def cntT (p : Nat → Bool) : Nat → Nat
  | 0 => 0
  | k + 1 => cntT p k + if p k then 1 else 0
theorem cntT_le (p : Nat → Bool) : ∀ k, cntT p k ≤ k
  | 0 => Nat.le_refl _
  | k + 1 => by have := cntT_le p k; simp only [cntT]; split <;> omega
abbrev hA1 (I : aI) (p : Nat) (A : Nat) : Nat → Bool := fun k => anyB (fun m => decide (I 92 m = I 80 (128 * p + k))) A
noncomputable def hA (I : aI) (J : aJ) (n g p : Nat) : Bool := cP I J n g && allB (hA1 I p (allA I (16 * g)).length) (iN I 79 p)
