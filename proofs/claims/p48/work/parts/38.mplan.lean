/-- the actions that a name brings on the way up, and on the way down -/
def upL (I : aI) (x : Nat) : List Nat := (if I 91 x = 3 ∧ I 59 (iN I 62 (x / 16)) = 0 then [300 + x] else []) ++ ((if I 91 x = 1 ∨ I 91 x = 3 then [100 + x] else []) ++ (if I 91 x = 2 then [200 + x] else []))
def dnL (I : aI) (x : Nat) : List Nat := (if I 91 x = 4 then [300 + x] else []) ++ (if I 91 x = 3 ∧ I 59 (iN I 62 (x / 16)) ≠ 0 then [400 + x] else [])
def aUp (I : aI) : Nat → List Nat
  | 0 => []
  | k + 1 => aUp I k ++ upL I k
def aDn (I : aI) (n : Nat) : Nat → List Nat
  | 0 => []
  | j + 1 => aDn I n j ++ dnL I (n - 1 - j)
theorem ud_2 (I : aI) (x : Nat) : (upL I x).length + (dnL I x).length ≤ 2 := by
  unfold upL dnL
  by_cases h1 : I 91 x = 1
  · simp [h1]
  by_cases h2 : I 91 x = 2
  · simp [h2]
  by_cases h3 : I 91 x = 3
  · by_cases h5 : I 59 (iN I 62 (x / 16)) = 0 <;> simp [h3, h5]
  by_cases h4 : I 91 x = 4
  · simp [h4]
  simp [h1, h2, h3, h4]
theorem aUp_2 (I : aI) : ∀ k, (aUp I k).length ≤ 2 * k
  | 0 => Nat.le_refl _
  | k + 1 => by have := aUp_2 I k; have := ud_2 I k; simp only [aUp, List.length_append]; omega
theorem aDn_2 (I : aI) (n : Nat) : ∀ j, j ≤ n → (aUp I n).length + (aDn I n j).length ≤ 2 * j + (aUp I (n - j)).length
  | 0, _ => by simp [aDn]
  | j + 1, hj => by
    have h1 := aDn_2 I n j (by omega)
    have h2 := ud_2 I (n - 1 - j)
    have e : n - j = (n - 1 - j) + 1 := by omega
    rw [e] at h1
    simp only [aUp, List.length_append] at h1
    simp only [aDn, List.length_append]
    rw [show n - (j + 1) = n - 1 - j by omega]; omega
abbrev allA (I : aI) (n : Nat) : List Nat := aUp I n ++ aDn I n n
/-- the list holds A; nothing else has changed -/
def LI (I0 I3 : aI) (A : List Nat) : Prop := (∀ o, o ≠ 44 ∧ o ≠ 92 → I3 o = I0 o) ∧ (∀ j, j ≠ 59 → I3 44 j = I0 44 j) ∧ I3 44 59 = nI A.length ∧ ∀ k (h : k < A.length), I3 92 k = nI A[k]
theorem LI.put {I0 I3 : aI} {A : List Nat} {a l : Nat} (h : LI I0 I3 A) (hl : l = A.length) : LI I0 (a_u (a_u I3 92 l (nI a)) 44 59 (nI (l + 1))) (A ++ [a]) := by
  subst hl
  refine ⟨fun o ho => by rw [a_u_row ho.1, a_u_row ho.2]; exact h.1 o ho, fun j hj => by rw [a_u_ne (fun q => hj q.2), a_u_row (by decide)]; exact h.2.1 j hj, by rw [a_u_self, List.length_append]; rfl, fun k hk => ?_⟩
  rw [a_u_row (by decide)]
  by_cases e : k = A.length
  · subst e; rw [a_u_self, List.getElem_concat_length rfl]
  · rw [a_u_ne (fun q => e q.2), List.getElem_append_left (by rw [List.length_append] at hk; simp at hk; omega)]; exact h.2.2.2 k _
theorem LI.st (I0 : aI) : LI I0 (a_u I0 44 59 0) [] := ⟨fun o ho => by rw [a_u_row ho.1], fun j hj => by rw [a_u_ne (fun q => hj q.2)], by rw [a_u_self]; rfl, fun k hk => absurd hk (by simp)⟩
theorem LI.gw {I0 I3 : aI} {A : List Nat} {g : Nat} (h : LI I0 I3 A) (hg : GW I0 g) : GW I3 g :=
  GW_cg (h.2.1 20 (by decide)) (h.1 65 (by decide)) (h.1 62 (by decide)) (h.1 61 (by decide)) (h.1 63 (by decide)) (h.1 71 (by decide)) hg
theorem LI.sw {I0 I3 : aI} {A : List Nat} {n : Nat} (h : LI I0 I3 A) (hg : SW I0 n) : SW I3 n :=
  SW_cg (h.2.1 0 (by decide)) (h.1 45 (by decide)) (h.1 46 (by decide)) (h.1 47 (by decide)) (h.1 48 (by decide)) (h.1 49 (by decide)) (h.1 50 (by decide)) (h.1 51 (by decide)) (h.1 53 (by decide)) hg
theorem LI.gok {I0 I3 : aI} {A : List Nat} {n : Nat} (h : LI I0 I3 A) (hg : GOK I0 n) : GOK I3 n := fun s hs => by
  rw [h.1 85 (by decide), h.1 46 (by decide)]; exact hg s hs
/-- what plansNow leaves: I2 compared, the list -/
def PlR (I I2 : aI) (J J2 : aJ) (n g : Nat) : Prop := ∃ I1 Ic, SolP I I1 J J2 n ∧ (∃ S, Ic = a_ur I1 91 S) ∧ CmpOK Ic J2 g ∧ LI Ic I2 (allA Ic (16 * g))
