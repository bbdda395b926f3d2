theorem i_nat_le {x : Int32} {b : Nat} (h1 : 0 ≤ x) (h2 : x ≤ nI b) (hb : b < 90000) : ∃ j, j ≤ b ∧ x = nI j := by
  have e : (nI b).toInt = b := i_nl b (by omega)
  have e2 : (nI (b + 1)).toInt = ((b + 1 : Nat) : Int) := i_nl _ (by omega)
  have h3 := (i_le _ _).mp h2
  rw [e] at h3
  have h5 : x < nI (b + 1) := (i_lt _ _).mpr (by rw [e2]; omega)
  obtain ⟨j, hj, zz1⟩ := i_nat h1 h5 rfl (by omega)
  exact ⟨j, by omega, zz1⟩
theorem i_le_sub1 {v : Int32} {b : Nat} (hb : b ≤ 1000) : v ≤ nI b - 1 ↔ v < nI b := by
  have e : (nI b).toInt = b := i_nl b (by omega)
  simp only [i_lt, i_le, i_sub1 e hb, e]; omega
theorem LEq.iNq {a b : aI} (h : LEq a b) {q : Nat} (h1 : 45 ≤ q ∧ q ≤ 82) : iN b q = iN a q := by unfold iN; rw [h.r h1]
