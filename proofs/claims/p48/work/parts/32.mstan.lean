theorem SolR.gok {I I2 : aI} {n : Nat} {P S : Nat → Int64} (h : SolR I I2 n P S) (g : SW I n) : GOK I2 n := by
  obtain ⟨I3, h1, h2, -⟩ := h
  have q := LaysR.gok h1 g
  intro s hs
  rw [h2, a_u_row (show 85 ≠ 44 by decide), a_u_row (show 46 ≠ 44 by decide), a_u_row (show 85 ≠ 44 by decide), a_u_row (show 46 ≠ 44 by decide)]
  exact q s hs
theorem SolR.fr {I I2 : aI} {n : Nat} {P S : Nat → Int64} (h : SolR I I2 n P S) : ∀ o, o ≠ 44 ∧ o ≠ 83 ∧ o ≠ 84 ∧ o ≠ 85 ∧ o ≠ 86 → I2 o = I o := by
  obtain ⟨I3, h1, h2, -⟩ := h
  intro o ho
  rw [h2, a_u_row ho.1, a_u_row ho.1]; exact LaysR.fr h1 o ho.2
abbrev sStand (I : aI) (J : aJ) (s : Nat) : Int32 := if I 84 s = 0 then -1 else if 0 < I 86 s then I 86 s else if I 45 s < 7 ∧ ¬ mHolds I J s then 10 else 0
theorem SolP.gok {I I2 : aI} {J J2 : aJ} {n : Nat} (h : SolP I I2 J J2 n) (g : SW I n) : GOK I2 n := by
  obtain ⟨K, P, S, -, h2⟩ := h; exact SolR.gok h2 g
theorem SolP.fr {I I2 : aI} {J J2 : aJ} {n : Nat} (h : SolP I I2 J J2 n) : ∀ o, o ≠ 44 ∧ o ≠ 83 ∧ o ≠ 84 ∧ o ≠ 85 ∧ o ≠ 86 → I2 o = I o := by
  obtain ⟨K, P, S, -, h2⟩ := h; exact SolR.fr h2
abbrev sProof (I : aI) (x : Int64) (p : Nat) : Int32 := if x = 0 then -2 else if x &&& (sRng (iN I 57 (3 * p + 1)) (nI (iN I 57 (3 * p + 2))) ^^^ (-1)) = 0 then -1 else nI (sLeast (x &&& (sRng (iN I 57 (3 * p + 1)) (nI (iN I 57 (3 * p + 2))) ^^^ (-1))))
