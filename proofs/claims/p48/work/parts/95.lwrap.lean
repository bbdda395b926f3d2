theorem GI.hT {T : List aT} {I : aI} {J : aJ} {R : aR} {m : aI} {c : Nat} (h : GI T I J R m c) : aPT T := by
  obtain ⟨n, sq, g, gq, eq, r, p, pq, k, h⟩ := h; exact h.hT
theorem GI.hR {T : List aT} {I : aI} {J : aJ} {R : aR} {m : aI} {c : Nat} (h : GI T I J R m c) : aPR R := by
  obtain ⟨n, sq, g, gq, eq, r, p, pq, k, h⟩ := h; exact h.hR
/-- the same where nothing is answered -/
def CPv (ex : List String) (I : aI) (J : aJ) (m : aI) (c : Nat) (Sp : Nat → Int32 → aI → Prop) : aP := fun o T2 I2 J2 R2 => MFr I I2 J J2 ∧ ((∃ m2, o = .inl none ∧ Sp 0 0 m2 ∧ GI T2 I2 J2 R2 m2 (c + 1)) ∨ (∃ j E, ex[j]? = some E ∧ o = .inr E ∧ Sp (j + 1) 0 m ∧ GI T2 I2 J2 R2 m (c + 1)))
