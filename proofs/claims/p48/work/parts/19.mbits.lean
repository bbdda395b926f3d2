theorem least_a {x : Int64} {k : Nat} (hno : ∀ j, j < k → xb x j = false) (h1 : k ≤ 64) (h : 64 ≤ k) : nI k = nI (sLeast x) := by rw [sLeast_eq hno (Or.inl (by omega))]
theorem least_b {x : Int64} {k : Nat} (hno : ∀ j, j < k → xb x j = false) (h1 : k < 64) (h : ¬ lg_cmp ((x.toUInt64 >>> ((nI k).toInt64.toUInt64 &&& Int64.toUInt64 63)).toInt64 &&& 1) 0 = 0) : nI k = nI (sLeast x) := by
  rw [sLeast_eq hno (Or.inr ⟨h1, ?_⟩)]
  cases e : xb x k with
  | true => rfl
  | false => exact absurd ((lgc0 _ _).mpr ((xb_test h1).mpr e)) h
