abbrev mHolds (I : aI) (J : aJ) (s : Nat) : Prop := I 85 s < 0 ∨ J 88 (I 46 (I 85 s).toNatClampNeg).toNatClampNeg &&& (((1 : Int64) <<< ((I 47 (I 85 s).toNatClampNeg).toInt64 &&& 63)) ^^^ (-1)) = 0
abbrev mOpen (I : aI) (J : aJ) (s : Nat) : Prop := I 85 s < 0 ∨ J 89 (I 46 (I 85 s).toNatClampNeg).toNatClampNeg &&& (((1 : Int64) <<< ((I 47 (I 85 s).toNatClampNeg).toInt64 &&& 63)) ^^^ (-1)) = 0
abbrev mCounts (I : aI) (J : aJ) (s : Nat) : Prop := I 84 s ≠ 0 ∧ I 45 s < 7 ∧ I 86 s = 0 ∧ mHolds I J s
def mLast (p : Nat → Bool) : Nat → Int32
  | 0 => -1
  | k + 1 => if p k then nI k else mLast p k
theorem mLast_lt {p : Nat → Bool} {N : Nat} (hN : N < 2147483648) : ∀ {n : Nat}, n ≤ N → mLast p n = -1 ∨ ∃ k, k < n ∧ mLast p n = nI k ∧ p k = true
  | 0, _ => Or.inl rfl
  | n + 1, h => by
    unfold mLast
    by_cases hp : p n = true
    · rw [if_pos hp]; exact Or.inr ⟨n, by omega, rfl, hp⟩
    · rw [if_neg hp]
      rcases mLast_lt hN (n := n) (by omega) with q | ⟨k, h1, h2, h3⟩
      · exact Or.inl q
      · exact Or.inr ⟨k, by omega, h2, h3⟩
theorem vp_in_of_last {p : Nat → Bool} {n : Nat} {x : Int32} (hn : n ≤ 30) (h : x = mLast p n) (h0 : ¬ x < 0) : vp_in x 30 := by
  rcases mLast_lt (p := p) (N := 30) (by decide) hn with q | ⟨k, h1, h2, -⟩
  · rw [h, q] at h0; exact absurd (by decide) h0
  · rw [h, h2]; exact vp_in_nI (by omega) (by decide)
abbrev mTog (I : aI) (s t : Nat) : Prop := I 49 s = I 49 t ∧ I 50 s = I 50 t ∧ I 51 s = I 51 t
def mGuard (I : aI) (s : Nat) : Int32 := let l := mLast (fun j => decide (I 84 j ≠ 0) && decide (mTog I s j)) s; if 0 ≤ l ∧ I 45 l.toNatClampNeg = 7 then l else -1
