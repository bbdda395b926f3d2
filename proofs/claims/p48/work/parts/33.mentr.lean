abbrev wrS (I : aI) (x r k : Nat) : Nat → Int32 := fun j => if 3 * x ≤ j ∧ j < 3 * x + k then I 67 (3 * r + (j - 3 * x)) else I 70 j
theorem wr_put {I : aI} {x r k : Nat} (j : Nat) : (if j = 3 * x + k then I 67 (3 * r + k) else wrS I x r k j) = wrS I x r (k + 1) j := by
  simp only [wrS]
  by_cases e : j = 3 * x + k
  · rw [if_pos e, if_pos (by omega), show 3 * r + (j - 3 * x) = 3 * r + k by omega]
  · rw [if_neg e]
    by_cases c : 3 * x ≤ j ∧ j < 3 * x + k
    · rw [if_pos c, if_pos (by omega)]
    · rw [if_neg c, if_neg (by omega)]
/-- a source is a field, nothing, or an attribute of a generator -/
abbrev SOK (I : aI) : Prop := ∀ j, j < 12 → 10 ≤ I 65 j → I 65 j = nI (iN I 65 j) ∧ 10 ≤ iN I 65 j ∧ iN I 65 j < 22
abbrev B01 (I : aI) (a : Nat) : Prop := ∀ j, I a j = 0 ∨ I a j = 1
theorem b01_bI {x : Int32} (h : x = 0 ∨ x = 1) : x = bI (decide (x ≠ 0)) := by rcases h with rfl | rfl <;> decide
abbrev loS (I : aI) (x : Nat) : Nat → Bool := fun k => decide (10 ≤ I 65 (3 * (x / 16) + k)) && decide (I 81 (16 * ((iN I 65 (3 * (x / 16) + k) - 10) / 3) + x % 16) ≠ 0)
theorem lo_y {I : aI} {x k : Nat} {acc : Bool} (h1 : 10 ≤ I 65 (3 * (x / 16) + k)) (h2 : ¬ I 81 (16 * ((iN I 65 (3 * (x / 16) + k) - 10) / 3) + x % 16) = 0) (h : acc = (decide (I 81 x ≠ 0) || anyB (loS I x) k)) : true = (decide (I 81 x ≠ 0) || anyB (loS I x) (k + 1)) := by
  simp only [anyB, loS]; simp [h1, h2]
theorem lo_n {I : aI} {x k : Nat} {acc : Bool} (h1 : ¬ 10 ≤ I 65 (3 * (x / 16) + k) ∨ I 81 (16 * ((iN I 65 (3 * (x / 16) + k) - 10) / 3) + x % 16) = 0) (h : acc = (decide (I 81 x ≠ 0) || anyB (loS I x) k)) : acc = (decide (I 81 x ≠ 0) || anyB (loS I x) (k + 1)) := by
  have q : loS I x k = false := by simp only [loS]; rcases h1 with h1 | h1 <;> simp [h1]
  rw [anyB, q, Bool.or_false]; exact h
