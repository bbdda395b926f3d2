/-- left out, by the names that have failed -/
abbrev loF (I : aI) (F : Nat → Int32) (x : Nat) : Nat → Bool := fun k => decide (10 ≤ I 65 (3 * (x / 16) + k)) && decide (F (16 * ((iN I 65 (3 * (x / 16) + k) - 10) / 3) + x % 16) ≠ 0)
def loB (I : aI) (F : Nat → Int32) (x : Nat) : Bool := decide (F x ≠ 0) || anyB (loF I F x) 3
abbrev acN (I : aI) (p a : Nat) : Nat := iN I 80 (128 * p + a) % 100
/-- passing over what is left out -/
def psF (I : aI) (p : Nat) : Nat → Nat → (Nat → Int32) → Nat × (Nat → Int32)
  | 0, a, F => (a, F)
  | m + 1, a, F => if loB I F (acN I p a) = true then psF I p m (a + 1) (fun j => if j = acN I p a then 1 else F j) else (a, F)
theorem psF_le (I : aI) (p : Nat) : ∀ (m a : Nat) (F : Nat → Int32), a ≤ (psF I p m a F).1 ∧ (psF I p m a F).1 ≤ a + m
  | 0, a, F => ⟨Nat.le_refl _, Nat.le_refl _⟩
  | m + 1, a, F => by
    simp only [psF]; split
    · have := psF_le I p m (a + 1) (fun j => if j = acN I p a then 1 else F j); omega
    · exact ⟨Nat.le_refl _, by omega⟩
theorem psF_01 (I : aI) (p : Nat) : ∀ (m a : Nat) (F : Nat → Int32), (∀ j, F j = 0 ∨ F j = 1) → ∀ j, (psF I p m a F).2 j = 0 ∨ (psF I p m a F).2 j = 1
  | 0, a, F, h => h
  | m + 1, a, F, h => by
    simp only [psF]; split
    · exact psF_01 I p m (a + 1) _ (fun j => by (try dsimp only); split; exact Or.inr rfl; exact h j)
    · exact h
abbrev psT (I : aI) (a : Nat) (F : Nat → Int32) : aI := a_ur (a_u I 44 44 (nI a)) 81 F
def psS (I : aI) (p a : Nat) : aI :=
  if (psF I p (iN I 79 p - a) a (I 81)).1 = iN I 79 p then a_u (a_u (psT I (psF I p (iN I 79 p - a) a (I 81)).1 (psF I p (iN I 79 p - a) a (I 81)).2) 44 43 (-1)) 44 45 (-1)
  else psT I (psF I p (iN I 79 p - a) a (I 81)).1 (psF I p (iN I 79 p - a) a (I 81)).2
/-- the actions of a plan are numbers with names -/
abbrev AcW (I : aI) (p : Nat) : Prop := iN I 79 p ≤ 128 ∧ I 79 p = nI (iN I 79 p) ∧ ∀ k, k < iN I 79 p → I 80 (128 * p + k) = nI (iN I 80 (128 * p + k)) ∧ iN I 80 (128 * p + k) < 500 ∧ acN I p k < 64
theorem SOK_cg {I I2 : aI} (h : I2 65 = I 65) (g : SOK I) : SOK I2 := by unfold SOK iN at *; rw [h]; exact g
theorem loB_eq {I I2 : aI} {F : Nat → Int32} {x : Nat} (h65 : I2 65 = I 65) (h81 : I2 81 = F) : (decide (I2 81 x ≠ 0) || anyB (loS I2 x) 3) = loB I F x := by
  unfold loB; rw [h81]
  have e : anyB (loS I2 x) 3 = anyB (loF I F x) 3 := anyB_cg (fun j _ => by simp only [loS, loF]; unfold iN; rw [h65, h81])
  rw [e]
theorem psF_y {I : aI} {p m a : Nat} {F : Nat → Int32} {R : Nat × (Nat → Int32)} (h : psF I p (m + 1) a F = R) (hb : loB I F (acN I p a) = true) : psF I p m (a + 1) (fun j => if j = acN I p a then 1 else F j) = R := by rw [psF, if_pos hb] at h; exact h
theorem psF_n {I : aI} {p m a : Nat} {F : Nat → Int32} {R : Nat × (Nat → Int32)} (h : psF I p (m + 1) a F = R) (hb : loB I F (acN I p a) = false) : R = (a, F) := by rw [psF, if_neg (by rw [hb]; simp)] at h; exact h.symm
theorem a_u_id {α : Type} {f : Nat → Nat → α} {o k : Nat} : a_u f o k (f o k) = f := by
  funext a b; simp only [a_u]; split
  · next h => rw [h.1, h.2]
  · rfl
noncomputable def cgS (I : aI) (J : aJ) (x : Nat) (md : Bool) : Nat → Bool := fun k => !(if md = true then decide (I 58 (3 * iN I 62 (x / 16) + k) &&& 2 = 0) else sDf I J x k) || decide (0 ≤ sGives I J x k)
theorem cg_n0 {I : aI} {J : aJ} {x k : Nat} {md : Bool} (h : md = true) (h2 : ¬ I 58 (3 * iN I 62 (x / 16) + k) &&& 2 = 0) : cgS I J x md k = true := by unfold cgS; rw [if_pos h, decide_eq_false h2]; rfl
theorem cg_n1 {I : aI} {J : aJ} {x k : Nat} {md : Bool} (h : md = false) (h2 : sDf I J x k = false) : cgS I J x md k = true := by unfold cgS; rw [h, h2]; rfl
theorem cg_g {I : aI} {J : aJ} {x k : Nat} {md : Bool} (h : 0 ≤ sGives I J x k) : cgS I J x md k = true := by unfold cgS; rw [decide_eq_true h, Bool.or_true]
theorem cg_f0 {I : aI} {J : aJ} {x k : Nat} {md : Bool} (h : md = true) (h2 : I 58 (3 * iN I 62 (x / 16) + k) &&& 2 = 0) (h3 : sGives I J x k < 0) : cgS I J x md k = false := by unfold cgS; rw [if_pos h, decide_eq_true h2, decide_eq_false (Int32.not_le.mpr h3)]; rfl
theorem cg_f1 {I : aI} {J : aJ} {x k : Nat} {md : Bool} (h : md = false) (h2 : sDf I J x k = true) (h3 : sGives I J x k < 0) : cgS I J x md k = false := by unfold cgS; rw [h, h2, decide_eq_false (Int32.not_le.mpr h3)]; rfl
theorem all_y {p : Nat → Bool} {acc : Bool} {k : Nat} (h : acc = allB p k) (hp : p k = true) : acc = allB p (k + 1) := by rw [allB, hp, Bool.and_true]; exact h
theorem all_n {p : Nat → Bool} {k : Nat} (hp : p k = false) : false = allB p (k + 1) := by rw [allB, hp, Bool.and_false]
def mkV (I : aI) (J : aJ) (x k : Nat) : Int32 := if I 58 (3 * iN I 62 (x / 16) + k) &&& 2 ≠ 0 then nI ((x + 7 * iN I 74 x) % 64) <<< (nI (iN I 61 (iN I 62 (x / 16))) &&& 31) else sGives I J x k
abbrev mkR (I : aI) (J : aJ) (x r k : Nat) : Nat → Int32 := fun j => if 3 * r ≤ j ∧ j < 3 * r + k then mkV I J x (j - 3 * r) else I 67 j
theorem mkR_put {I : aI} {J : aJ} {x r k : Nat} {v : Int32} (hv : v = mkV I J x k) (j : Nat) : (if j = 3 * r + k then v else mkR I J x r k j) = mkR I J x r (k + 1) j := by
  simp only [mkR]
  by_cases e : j = 3 * r + k
  · subst e; rw [if_pos rfl, if_pos (by omega), show 3 * r + k - 3 * r = k by omega]; exact hv
  · rw [if_neg e]
    by_cases c : 3 * r ≤ j ∧ j < 3 * r + k
    · rw [if_pos c, if_pos (by omega)]
    · rw [if_neg c, if_neg (by omega)]
abbrev mkA (I : aI) (J : aJ) (x r : Nat) : aI := a_ur (a_u (a_u (a_u I 66 r (nI (iN I 62 (x / 16)))) 68 r 0) 44 25 (nI (r + 1))) 67 (mkR I J x r 3)
abbrev mkB (I : aI) (J : aJ) (x r : Nat) : aI := a_u (mkA I J x r) 74 x (nI (iN I 74 x + 1))
abbrev wrT (I : aI) (x r : Nat) : aI := a_ur (a_u (a_u (a_u I 69 x (nI (r + 1))) 71 x 0) 72 x 0) 70 (wrS I x r 3)
def mkS (I : aI) (J : aJ) (x r : Nat) (w t : Bool) : aI := if w = true then a_u (wrT (a_u (mkB I J x r) 82 x (I 69 x)) x r) 71 x (bI t) else mkB I J x r
