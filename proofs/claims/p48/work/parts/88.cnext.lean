theorem allB_cg {p q : Nat → Bool} : ∀ {n : Nat}, (∀ j, j < n → p j = q j) → allB p n = allB q n
  | 0, _ => rfl
  | n + 1, h => by rw [allB, allB, allB_cg (fun j hj => h j (by omega)), h n (by omega)]
/-- whether an action can be done -/
noncomputable def canB (m : aI) (mj : aJ) (x wh r : Nat) : Bool := if wh = 1 then decide (r ≠ 60) && allB (cgS m mj x true) 3 else if wh = 2 then allB (cgS m mj x false) 3 else true
theorem sg_c0 {m : aI} {mj : aJ} {x a : Nat} (h : m 58 (3 * iN m 62 (x / 16) + a) &&& 2 ≠ 0) : sGives m mj x a = 0 := (gv_0 (Or.inr h)).symm
theorem ab_can {I m : aI} {mj : aJ} {g x wh r : Nat} (hinv : InvR m g) (hs : InvS m g) (hx : x < 16 * g) (hr : r ≤ 60) (hwh : 1 ≤ wh ∧ wh ≤ 4) (hGv : ∀ a, a < 3 → I 34 (3 * x + a) = sGives m mj x a) (h2 : wh = 2 → m 69 x ≠ 0) : abV I wh x r = canB m mj x wh r := by
  have hg4 := hinv.1.g4
  have hx6 : x < 64 := by omega
  have hp : ∀ a, a < 3 → sGives m mj x a = -1 ∨ 0 ≤ sGives m mj x a := fun a ha => sg_pos hinv.1 hx ha hinv.2.2.1
  have neg : ∀ v : Int32, 0 ≤ v → v ≠ -1 := fun v h z => by rw [z] at h; exact absurd h (by decide)
  have k1 : ∀ a, a < 3 → decide (I 34 (3 * x + a) ≠ -1) = cgS m mj x true a := fun a ha => by
    rw [hGv a ha]
    simp only [cgS, if_true]
    rcases hp a ha with e | e
    · rw [e, decide_eq_false (not_not_intro rfl), decide_eq_false (show ¬ (0 : Int32) ≤ -1 by decide)]
      by_cases c : m 58 (3 * iN m 62 (x / 16) + a) &&& 2 = 0
      · rw [decide_eq_true c]; rfl
      · rw [sg_c0 c] at e; exact absurd e (by decide)
    · rw [decide_eq_true (neg _ e), decide_eq_true e, Bool.or_true]
  have k2 : m 69 x ≠ 0 → ∀ a, a < 3 → decide (I 34 (3 * x + a) ≠ -1) = cgS m mj x false a := fun h0 a ha => by
    rw [hGv a ha]
    simp only [cgS]
    rcases hp a ha with e | e
    · have c : m 58 (3 * iN m 62 (x / 16) + a) &&& 2 = 0 := Decidable.not_not.mp (fun c => by rw [sg_c0 c] at e; exact absurd e (by decide))
      have hd : sDf m mj x a = true := (df_s hinv.2.1 hx6 ha h0).mpr (by
        rw [e]
        exact ⟨h0, c, neg _ (hs.2 x a hx6 ha h0), fun z => neg _ (hinv.2.1.2.2 x a hx6 ha z.1).1 z.2⟩)
      rw [e, decide_eq_false (not_not_intro rfl), decide_eq_false (show ¬ (0 : Int32) ≤ -1 by decide), if_neg (by decide), hd]; rfl
    · rw [decide_eq_true (neg _ e), decide_eq_true e, Bool.or_true]
  unfold canB
  simp only [abV]
  rcases (show wh = 1 ∨ wh = 2 ∨ 2 < wh by omega) with e | e | e
  · rw [if_pos e, decide_eq_true e, decide_eq_false (show ¬ (wh = 3 ∨ wh = 4) by omega), Bool.true_and, Bool.false_or, allB_cg k1, show (!decide (60 ≤ r)) = decide (r ≠ 60) from by rw [← decide_not]; exact decide_eq_decide.mpr (by omega)]
  · rw [if_neg (by omega), if_pos e, decide_eq_false (show ¬ wh = 1 by omega), decide_eq_false (show ¬ (wh = 3 ∨ wh = 4) by omega), Bool.false_and, Bool.false_or, allB_cg (k2 (h2 e))]; rfl
  · rw [if_neg (by omega), if_neg (by omega), decide_eq_false (show ¬ wh = 1 by omega), decide_eq_true (show wh = 3 ∨ wh = 4 by omega), Bool.false_and, Bool.true_or]; rfl
theorem dn_no {m : aI} {mj : aJ} {x wh hw r : Nat} (h : canB m mj x wh r = false) : doS m mj x wh hw r = (false, m) := by
  unfold canB at h
  split at h
  · next e => rw [e]; refine ds_1 ?_
              by_cases c : r = 60
              · exact Or.inl c
              · right; rw [decide_eq_true c, Bool.true_and] at h; exact h
  · next e =>
    split at h
    · next e2 => exact ds_3 e (Or.inr ⟨e2, h⟩)
    · cases h
theorem dn_f {m : aI} {mj : aJ} {x wh hw r : Nat} (h1 : wh ≠ 1) (h : hw = 1) : doS m mj x wh hw r = (false, m) := ds_3 h1 (Or.inl h)
theorem dn_y {m : aI} {mj : aJ} {x wh hw r : Nat} (h : canB m mj x wh r = true) (hd : hw ≠ 1 ∨ wh = 1) : doS m mj x wh hw r = (!decide (hw = 1), a_u (acS m mj x wh hw r) 44 35 (m 44 35 + (if hw = 2 then 0 else 1))) := by
  unfold canB at h
  unfold acS
  split at h
  · next e =>
    rw [Bool.and_eq_true, decide_eq_true_eq] at h
    rw [if_pos e, e]; exact ds_2 h.1 h.2
  · next e =>
    have hw1 : hw ≠ 1 := hd.resolve_right e
    rw [if_neg e, decide_eq_false hw1]
    exact ds_4 e hw1 (by
      split at h
      · exact Or.inr h
      · next e2 => exact Or.inl e2)
theorem acS_35 {m : aI} {mj : aJ} {x wh hw r : Nat} : acS m mj x wh hw r 44 35 = m 44 35 := by
  unfold acS
  split
  · exact mkS_35
  · split
    · rw [chS_o (by decide) (by decide) (by decide)]
    · split
      · rw [a_u_row (by decide), a_u_row (by decide)]
      · split
        · rw [a_u_row (by decide)]
        · rfl
theorem acS_82 {m : aI} {mj : aJ} {x wh hw r : Nat} {v : Int32} : a_u (acS m mj x wh hw r) 44 35 v 82 = acS m mj x wh hw r 82 := a_u_row (by decide)
/-- the steps of the ghost: rows -/
theorem stF_o {m : aI} {mj : aJ} {x wh hw r a o : Nat} (h : o ≠ 44) (h2 : o ≠ 81) : stF m mj x wh hw r a o = (doS m mj x wh hw r).2 o := by
  show a_u (a_u _ 81 x _) 44 44 _ o = _
  rw [a_u_row h, a_u_row h2]
theorem stF_4 {m : aI} {mj : aJ} {x wh hw r a k : Nat} (h : k ≠ 44) : stF m mj x wh hw r a 44 k = (doS m mj x wh hw r).2 44 k := by
  show a_u (a_u _ 81 x _) 44 44 _ 44 k = _
  rw [a_u_ne (fun z => h z.2), a_u_row (by decide)]
theorem psS_o {I : aI} {p a o : Nat} (h : o ≠ 44) (h2 : o ≠ 81) : psS I p a o = I o := by
  unfold psS
  split
  · rw [a_u_row h, a_u_row h]; show a_ur (a_u I 44 44 _) 81 _ o = _; rw [a_ur_ne h2, a_u_row h]
  · show a_ur (a_u I 44 44 _) 81 _ o = _; rw [a_ur_ne h2, a_u_row h]
theorem psS_4 {I : aI} {p a k : Nat} (h : k ≠ 43) (h2 : k ≠ 44) (h3 : k ≠ 45) : psS I p a 44 k = I 44 k := by
  unfold psS
  split
  · rw [a_u_ne (fun z => h3 z.2), a_u_ne (fun z => h z.2)]; show a_ur (a_u I 44 44 _) 81 _ 44 k = _; rw [a_ur_ne (by decide), a_u_ne (fun z => h2 z.2)]
  · show a_ur (a_u I 44 44 _) 81 _ 44 k = _; rw [a_ur_ne (by decide), a_u_ne (fun z => h2 z.2)]
theorem stS_o {m : aI} {mj : aJ} {x wh hw r p a o : Nat} (h : o ≠ 44) (h2 : o ≠ 81) : stS m mj x wh hw r p a o = (doS m mj x wh hw r).2 o := by
  unfold stS
  split
  · rw [a_u_row h]; exact stF_o h h2
  · rw [psS_o h h2]; exact stF_o h h2
theorem stS_4 {m : aI} {mj : aJ} {x wh hw r p a k : Nat} (h : k ≠ 43) (h2 : k ≠ 44) (h3 : k ≠ 45) : stS m mj x wh hw r p a 44 k = (doS m mj x wh hw r).2 44 k := by
  unfold stS
  split
  · rw [a_u_ne (fun z => h z.2)]; exact stF_4 h2
  · rw [psS_4 h h2 h3]; exact stF_4 h2
/-- the apply that is on, and the lock of the state -/
def CAp (I : aI) (R : aR) (m : aI) (pq : Nat → Nat) : Prop := (m 44 43 < 0 → R 38 3 = none) ∧ (∀ p, p < 40 → m 44 43 = nI p → R 38 3 = some (pq p) ∧ I 38 4 = m 44 44 ∧ (∀ y, y < 64 → I 39 y = m 81 y) ∧ ∀ y, y < 64 → I 40 y = m 82 y - 1) ∧ I 38 0 = bI (decide (0 ≤ m 44 45)) ∧ (0 ≤ m 44 45 → I 38 5 = m 44 45)
