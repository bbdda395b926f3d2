/-- a call whose answer stands in what holds afterwards -/
def aRelV (Q : Option Value → aI → aJ → Prop) (T : List aT) (R : aR) : aP := fun o T2 I2 J2 R2 => ∃ v, o = .inl v ∧ T2 = T ∧ R2 = R ∧ Q v I2 J2
theorem aRelV_x {Q : Option Value → aI → aJ → Prop} {T0 : List aT} {X : aX} {c s pc : Nat} {L : List (Option Value)} {T : List aT} {R : aR} : ∀ (E : String) (T2 : List aT) (I2 : aI) (J2 : aJ) (R2 : aR), T0 <+: T2 → aRelV Q T R (.inr E) T2 I2 J2 R2 → AE X c s pc L E T2 I2 J2 R2 := fun _ _ _ _ _ _ h => nomatch h.choose_spec.1
theorem aRelV_k {Q : Option Value → aI → aJ → Prop} {T0 : List aT} {X : aX} {c s pc : Nat} {L : List (Option Value)} {st : List Value} {T : List aT} {R : aR} (k : ∀ (v : Option Value) (I2 : aI) (J2 : aJ), Q v I2 J2 → AW X c s pc L (v.toList ++ st) T I2 J2 R) : ∀ (v2 : Option Value) (T2 : List aT) (I2 : aI) (J2 : aJ) (R2 : aR), T0 <+: T2 → aRelV Q T R (.inl v2) T2 I2 J2 R2 → AW X c s pc L (v2.toList ++ st) T2 I2 J2 R2 := by
  rintro v2 T2 I2 J2 R2 - ⟨v, h, rfl, rfl, hQ⟩
  cases h
  exact k _ I2 J2 hQ
abbrev plRow (I : aI) (p k : Nat) : Nat → Int32 := fun j => if 128 * p ≤ j ∧ j < 128 * p + k then I 92 (j - 128 * p) else I 80 j
abbrev plS (I : aI) (p l : Nat) (x : Int32) : aI := a_u (a_ur (a_u (a_u (a_u (a_u I 44 61 0) 75 p x) 76 p (I 44 35)) 79 p (nI l)) 80 (plRow I p l)) 44 36 (nI (p + 1))
theorem pl_put {I : aI} {p k : Nat} (j : Nat) : (if j = 128 * p + k then I 92 k else plRow I p k j) = plRow I p (k + 1) j := by
  simp only [plRow]
  by_cases e : j = 128 * p + k
  · subst e; rw [if_pos rfl, if_pos (by omega), show 128 * p + k - 128 * p = k by omega]
  · rw [if_neg e]
    by_cases c : 128 * p ≤ j ∧ j < 128 * p + k
    · rw [if_pos c, if_pos (by omega)]
    · rw [if_neg c, if_neg (by omega)]
abbrev canAp (I : aI) (x : Nat) : Prop := I 77 x ≠ 0 ∧ I 78 x = 0 ∧ I 76 x = I 44 35 ∧ 0 < I 79 x ∧ I 44 45 < 0
abbrev apR (k : Nat) (r : Nat → Int32) : Nat → Int32 := fun j => if j < k then 0 else r j
abbrev apS (I : aI) (x : Nat) : aI := a_ur (a_ur (a_u (a_u (a_u (a_u (a_u I 44 61 0) 78 x 1) 44 43 (nI x)) 44 44 0) 44 45 (I 44 13 + 3)) 81 (apR 64 (I 81))) 82 (apR 64 (I 82))
theorem ap_put {k : Nat} {r : Nat → Int32} (j : Nat) : (if j = k then 0 else apR k r j) = apR (k + 1) r j := by
  simp only [apR]
  by_cases e : j = k
  · rw [if_pos e, if_pos (by omega)]
  · rw [if_neg e]
    by_cases c : j < k
    · rw [if_pos c, if_pos (by omega)]
    · rw [if_neg c, if_neg (by omega)]
