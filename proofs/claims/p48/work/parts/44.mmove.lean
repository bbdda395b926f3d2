theorem SolP.z53 {I I2 : aI} {J J2 : aJ} {n : Nat} (h : SolP I I2 J J2 n) : I2 44 53 = 0 := by
  obtain ⟨K, P, S, -, I3, h3, h4, -⟩ := h
  rw [h4, a_u_ne (fun q => absurd q.2 (by decide)), a_u_self]
theorem SolP.zr {I I2 : aI} {J J2 : aJ} {n : Nat} (h : SolP I I2 J J2 n) : Zr J2 := by
  obtain ⟨K, P, S, hJ, I3, h3, h4, h5, h6⟩ := h
  have hP : ∀ j, 10 ≤ j → P j = 0 := Fix_z h5 (fun i hi => if_neg (by omega))
  intro j hj
  rw [hJ]
  refine ⟨?_, by rw [a_ur_ne (by decide), a_ur_self]; exact hP j hj⟩
  rw [a_ur_self]
  split at h6
  · rw [h6]; exact hP j hj
  · exact Ch_z hP 10 S (Nat.le_refl _) h6 j hj
theorem CmR.zr {I I2 : aI} {J J2 : aJ} {n g : Nat} (h : CmR I I2 J J2 n g) : Zr J2 := by obtain ⟨I1, h1, -⟩ := h; exact h1.zr
theorem PlR.zr {I I2 : aI} {J J2 : aJ} {n g : Nat} (h : PlR I I2 J J2 n g) : Zr J2 := by obtain ⟨I1, Ic, h1, -⟩ := h; exact h1.zr
theorem fill_89 {J : aJ} (h : Zr J) : (a_fill J 88 10 (J 89)) 88 = J 89 := funext fun j => by
  by_cases c : j < 10
  · rw [a_fill_in c]
  · rw [a_fill_out (by omega), (h j (by omega)).1, (h j (by omega)).2]
/-- the rows that lasting facts speak of are as before -/
def BaseF (I I3 : aI) : Prop := (∀ o, o ≠ 44 ∧ o ≠ 83 ∧ o ≠ 84 ∧ o ≠ 85 ∧ o ≠ 86 ∧ o ≠ 87 ∧ o ≠ 91 ∧ o ≠ 92 ∧ o ≠ 93 → I3 o = I o) ∧ ∀ k, k ≠ 53 ∧ k ≠ 57 ∧ k ≠ 59 → I3 44 k = I 44 k
theorem BaseF.refl (I : aI) : BaseF I I := ⟨fun _ _ => rfl, fun _ _ => rfl⟩
theorem BaseF.trans {I I2 I3 : aI} (h : BaseF I I2) (g : BaseF I2 I3) : BaseF I I3 := ⟨fun o ho => (g.1 o ho).trans (h.1 o ho), fun k hk => (g.2 k hk).trans (h.2 k hk)⟩
theorem SolP.bf {I I2 : aI} {J J2 : aJ} {n : Nat} (h : SolP I I2 J J2 n) : BaseF I I2 := ⟨fun o ho => h.fr o ⟨ho.1, ho.2.1, ho.2.2.1, ho.2.2.2.1, ho.2.2.2.2.1⟩, fun k hk => h.f44 hk.1 hk.2.1⟩
theorem CmR.bf {I I2 : aI} {J J2 : aJ} {n g : Nat} (h : CmR I I2 J J2 n g) : BaseF I I2 := ⟨fun o ho => h.fr o ⟨ho.1, ho.2.1, ho.2.2.1, ho.2.2.2.1, ho.2.2.2.2.1, ho.2.2.2.2.2.2.1⟩, fun k hk => h.f44 hk.1 hk.2.1⟩
theorem PlR.bf {I I2 : aI} {J J2 : aJ} {n g : Nat} (h : PlR I I2 J J2 n g) : BaseF I I2 := ⟨fun o ho => h.fr o ⟨ho.1, ho.2.1, ho.2.2.1, ho.2.2.2.1, ho.2.2.2.2.1, ho.2.2.2.2.2.2.1, ho.2.2.2.2.2.2.2.1⟩, fun k hk => h.f44 hk.1 hk.2.1 hk.2.2⟩
theorem CI.bf {I0 I : aI} {J0 J : aJ} (h : CI I0 J0 I J) : BaseF I0 I := ⟨fun o ho => h.1 o ⟨ho.1, ho.2.2.2.2.2.1⟩, fun k hk => h.2.1 k hk.1⟩
abbrev mayR (I : aI) (P : Nat → Int64) (k : Nat) : Nat → Int32 := fun j => if j < k then bI (decide (I 45 j ≠ 4) && decide (cOn I P j)) else I 93 j
theorem may_0 {I : aI} {P : Nat → Int64} {k : Nat} (h : I 45 k = 4 ∨ ¬ cOn I P k) : (0 : Int32) = bI (decide (I 45 k ≠ 4) && decide (cOn I P k)) := by
  rcases h with h | h
  · rw [decide_eq_false (not_not_intro h)]; rfl
  · rw [decide_eq_false h, Bool.and_false]; rfl
theorem may_1 {I : aI} {P : Nat → Int64} {k : Nat} (h1 : I 45 k ≠ 4) (h2 : cOn I P k) : (1 : Int32) = bI (decide (I 45 k ≠ 4) && decide (cOn I P k)) := by
  rw [decide_eq_true h1, decide_eq_true h2]; rfl
theorem may_put {I : aI} {P : Nat → Int64} {k : Nat} {v : Int32} (hv : v = bI (decide (I 45 k ≠ 4) && decide (cOn I P k))) (j : Nat) : (if j = k then v else mayR I P k j) = mayR I P (k + 1) j := by
  simp only [mayR]
  by_cases e : j = k
  · subst e; rw [if_pos rfl, if_pos (by omega), hv]
  · rw [if_neg e]
    by_cases c9 : j < k
    · rw [if_pos c9, if_pos (by omega)]
    · rw [if_neg c9, if_neg (by omega)]
theorem lf1_cg {I I2 : aI} {n : Nat} (h45 : I2 45 = I 45) (h46 : I2 46 = I 46) (h47 : I2 47 = I 47) (h48 : I2 48 = I 48) (h93 : I2 93 = I 93) : lf1 I2 n = lf1 I n := funext fun c => by unfold lf1; rw [cfl_cg h45 h46 h47 h48, h93]
theorem lf2_cg {I I2 : aI} {n : Nat} (h45 : I2 45 = I 45) (h46 : I2 46 = I 46) (h47 : I2 47 = I 47) (h48 : I2 48 = I 48) (h93 : I2 93 = I 93) : lf2 I2 n = lf2 I n := funext fun c => funext fun b => by unfold lf2; rw [cfl_cg h45 h46 h47 h48, h93]
theorem lf3_cg {I I2 : aI} {n : Nat} (h45 : I2 45 = I 45) (h46 : I2 46 = I 46) (h47 : I2 47 = I 47) (h48 : I2 48 = I 48) (h93 : I2 93 = I 93) : lf3 I2 n = lf3 I n := funext fun c => funext fun b => funext fun a => by unfold lf3; rw [cfl_cg h45 h46 h47 h48, h93]
theorem CI.l2 {I0 I : aI} {J0 J : aJ} {n : Nat} (h : CI I0 J0 I J) : lc2 I n = lc2 I0 n := by
  unfold lc2; rw [lf2_cg (h.1 45 (by decide)) (h.1 46 (by decide)) (h.1 47 (by decide)) (h.1 48 (by decide)) (h.1 93 (by decide))]
theorem CI.l3 {I0 I : aI} {J0 J : aJ} {n : Nat} (h : CI I0 J0 I J) : lc3 I n = lc3 I0 n := by
  unfold lc3; rw [lf3_cg (h.1 45 (by decide)) (h.1 46 (by decide)) (h.1 47 (by decide)) (h.1 48 (by decide)) (h.1 93 (by decide))]
noncomputable def cfV (I : aI) (n : Nat) : Int32 := if lc1 I n ≠ 0 then lc1 I n else if lc2 I n ≠ 0 then lc2 I n else if lc3 I n ≠ 0 then lc3 I n else -1
theorem cOn_93 {I : aI} {S P : Nat → Int64} {R : Nat → Int32} {s : Nat} (h : S = P) : cOn (a_ur I 93 R) S s ↔ cOn I P s := by
  subst h
  unfold cOn hOn; rw [a_ur_ne (show 44 ≠ 93 by decide), a_ur_ne (show 84 ≠ 93 by decide), a_ur_ne (show 45 ≠ 93 by decide), a_ur_ne (show 86 ≠ 93 by decide), a_ur_ne (show 85 ≠ 93 by decide), a_ur_ne (show 46 ≠ 93 by decide), a_ur_ne (show 47 ≠ 93 by decide), a_ur_ne (show 87 ≠ 93 by decide)]
abbrev canMv (I : aI) (x y : Nat) : Prop := I 44 45 < 0 ∧ I 69 x ≠ 0 ∧ ¬ 0 < I 69 y ∧ I 62 (x / 16) = I 62 (y / 16)
abbrev mvR (I : aI) (r x y k : Nat) : Nat → Int32 := fun j => if 3 * y ≤ j ∧ j < 3 * y + k then I r (3 * x + (j - 3 * y)) else I r j
theorem mv_put {I : aI} {r x y k : Nat} (hne : x ≠ y) (hk : k < 3) (j : Nat) : (if j = 3 * y + k then mvR I r x y k (3 * x + k) else mvR I r x y k j) = mvR I r x y (k + 1) j := by
  simp only [mvR]
  by_cases e : j = 3 * y + k
  · subst e; rw [if_pos rfl, if_neg (by omega), if_pos (by omega), show 3 * y + k - 3 * y = k by omega]
  · rw [if_neg e]
    by_cases c : 3 * y ≤ j ∧ j < 3 * y + k
    · rw [if_pos c, if_pos (by omega)]
    · rw [if_neg c, if_neg (by omega)]
abbrev mvS (I : aI) (x y : Nat) : aI := a_u (a_u (a_ur (a_ur (a_u (a_u (a_u (a_u I 44 61 0) 69 y (I 69 x)) 71 y (I 71 x)) 72 y (I 72 x)) 70 (mvR I 70 x y 3)) 73 (mvR I 73 x y 3)) 69 x 0) 44 35 (I 44 35 + 1)
abbrev tkB (I : aI) (r : Nat) : Bool := anyB (fun k => decide (I 69 k = nI (r + 1))) 64
abbrev canTk (I : aI) (x r : Nat) : Prop := I 44 45 < 0 ∧ ¬ 0 < I 69 x ∧ I 68 r = 0 ∧ tkB I r = false ∧ I 62 (x / 16) = I 66 r
abbrev tkR (I : aI) (x r k : Nat) : Nat → Int32 := fun j => if (3 * x ≤ j ∧ j < 3 * x + k) ∧ I 58 (3 * iN I 62 (x / 16) + (j - 3 * x)) &&& 4 ≠ 0 then 0 else wrS I x r 3 j
theorem tk_put {I : aI} {x r k : Nat} {v : Int32} (hv : (I 58 (3 * iN I 62 (x / 16) + k) &&& 4 ≠ 0 ∧ v = 0) ∨ (I 58 (3 * iN I 62 (x / 16) + k) &&& 4 = 0 ∧ v = tkR I x r k (3 * x + k))) (j : Nat) : (if j = 3 * x + k then v else tkR I x r k j) = tkR I x r (k + 1) j := by
  by_cases e : j = 3 * x + k
  · subst e; rw [if_pos rfl]
    rcases hv with ⟨h, hv⟩ | ⟨h, hv⟩
    · rw [hv]; simp only [tkR]; rw [if_pos ⟨by omega, by rw [show 3 * x + k - 3 * x = k by omega]; exact h⟩]
    · rw [hv]; simp only [tkR]; rw [if_neg (fun q => by omega), if_neg (fun q => by rw [show 3 * x + k - 3 * x = k by omega] at q; exact q.2 h)]
  · rw [if_neg e]; simp only [tkR]
    by_cases c : 3 * x ≤ j ∧ j < 3 * x + k
    · have c2 : 3 * x ≤ j ∧ j < 3 * x + (k + 1) := by omega
      simp only [c, c2]
    · have c2 : ¬ (3 * x ≤ j ∧ j < 3 * x + (k + 1)) := by omega
      simp only [c, c2, false_and, if_false]
abbrev tkS (I : aI) (x r : Nat) : aI := a_u (a_ur (wrT (a_u I 44 61 0) x r) 70 (tkR I x r 3)) 44 35 (I 44 35 + 1)
