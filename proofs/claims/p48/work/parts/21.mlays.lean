theorem n3 (p k : Nat) : (3 : Int32) * nI p + nI k = nI (3 * p + k) := by rw [show (3 : Int32) = nI 3 from rfl, pk_mul, nI_add]
abbrev mWants (I : aI) (s : Nat) : Prop := ((0 ≤ I 49 s ∧ I 52 s = 0) ∨ (I 49 s < 0 ∧ 0 < I 51 s ∧ I 83 (3 * I 50 s + I 51 s - 1).toNatClampNeg ≠ 0)) ∧ I 45 s = 12
def mCh (I : aI) (p : Nat) : Nat → Int32
  | 0 => 0
  | k + 1 => if I 83 (3 * p + k) = 0 then mCh I p k else nI k + 1
abbrev mTold (I : aI) (n : Nat) (its f : Int32) : Bool := anyB (fun j => decide (I 84 j ≠ 0) && decide (I 45 j = its) && (decide (f < 0) || decide (I 46 j = f))) n
abbrev mHid (I : aI) (n : Nat) (f : Int32) (s : Nat) : Bool := anyB (fun j => decide (I 84 j ≠ 0) && decide (I 45 j = 10) && decide (I 46 j = f) && (decide (I 49 j ≠ I 49 s) || decide (I 50 j ≠ I 50 s))) n
abbrev mPair (I : aI) (s : Nat) : Prop := I 45 s = 5 ∨ I 45 s = 6
abbrev mNotListed (I : aI) (n s : Nat) : Prop := mTold I n 9 (-1) = true ∧ (mTold I n 8 (I 46 s) = false ∨ (mPair I s ∧ mTold I n 8 (I 47 s) = false))
abbrev mHidden (I : aI) (n s : Nat) : Prop := mHid I n (I 46 s) s = true ∨ (mPair I s ∧ mHid I n (I 47 s) s = true)
abbrev mMay (I : aI) (s : Nat) : Prop := I 55 (I 46 s).toNatClampNeg = 0 ∨ I 45 s = 4 ∨ (0 ≤ I 49 s ∧ (I 54 (I 49 s).toNatClampNeg = I 55 (I 46 s).toNatClampNeg - 1 ∨ I 44 13 < I 56 (10 * I 49 s + I 46 s).toNatClampNeg))
def mFault (I : aI) (n s : Nat) : Int32 := if mNotListed I n s then 1 else if mHidden I n s then 2 else if mMay I s then 0 else 3
