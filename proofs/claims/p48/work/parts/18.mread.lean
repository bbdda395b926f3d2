def anyB (p : Nat → Bool) : Nat → Bool
  | 0 => false
  | k + 1 => anyB p k || p k
theorem anyB_iff {p : Nat → Bool} : ∀ {n : Nat}, anyB p n = true ↔ ∃ k, k < n ∧ p k = true
  | 0 => by simp [anyB]
  | n + 1 => by
    rw [anyB, Bool.or_eq_true, anyB_iff]
    constructor
    · rintro (⟨k, h1, h2⟩ | h)
      · exact ⟨k, by omega, h2⟩
      · exact ⟨n, by omega, h⟩
    · rintro ⟨k, h1, h2⟩
      by_cases e : k = n
      · subst e; exact Or.inr h2
      · exact Or.inl ⟨k, by omega, h2⟩
theorem bI_or1 (b : Bool) : bI b ||| 1 = bI true := by cases b <;> rfl
theorem bI_or0 (b : Bool) : bI b ||| 0 = bI b := by cases b <;> rfl
theorem lgc0 (x z : Int64) : (lg_cmp x z = 0) ↔ x = z := lg_cmp_eq x z
