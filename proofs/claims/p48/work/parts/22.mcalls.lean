theorem a_u_2 {α : Type} {f : Nat → Nat → α} {o k : Nat} {v w : α} : a_u (a_u f o k v) o k w = a_u f o k w := by
  funext a b; simp only [a_u]; split <;> rfl
theorem vp_lin {c : Nat} {x y : Int32} {n X Y : Nat} (hx0 : 0 ≤ x.toInt) (hx : x.toInt ≤ X) (hy0 : 0 ≤ y.toInt) (hy : y.toInt ≤ Y) (hn : c * X + Y < n) (hb : n ≤ 2147483648) (hc : c < 2147483648) : vp_in (nI c * x + y) n ∧ (nI c * x + y).toInt = c * x.toInt + y.toInt := by
  have h1 : (nI c).toInt = c := by rw [nI_toInt (by omega)]
  have h3 : (c : Int) * x.toInt ≤ (c : Int) * X := Int.mul_le_mul_of_nonneg_left hx (by omega)
  have h4 : 0 ≤ (c : Int) * x.toInt := Int.mul_nonneg (by omega) hx0
  have hn' : (c : Int) * X + Y < n := by exact_mod_cast hn
  have h2 : (nI c * x + y).toInt = c * x.toInt + y.toInt := by
    rw [Int32.toInt_add, Int32.toInt_mul, h1, Int.bmod_add_bmod, Int.bmod_eq_of_le (by omega) (by omega)]
  exact ⟨vp_in_iff.mpr (by rw [h2]; omega), h2⟩
theorem vp_mulz {c : Nat} {x : Int32} {n X : Nat} (hx0 : 0 ≤ x.toInt) (hx : x.toInt ≤ X) (hn : c * X < n) (hb : n ≤ 2147483648) (hc : c < 2147483648) : vp_in (nI c * x) n := by
  have h := (vp_lin (c := c) (x := x) (y := 0) (n := n) (X := X) (Y := 0) hx0 hx (by decide) (by decide) (by omega) hb hc).1
  rwa [Int32.add_zero] at h
theorem nI_toI (k : Nat) : (nI k).toInt = (k : Int).bmod (2 ^ 32) := by simp [nI, Int32.toInt_ofNat']
theorem below1 {x : Int32} {n : Nat} (hn : n ≤ 100000) : x ≤ nI n - 1 ↔ x < nI n := by
  have h1 : (nI n - 1).toInt = (n : Int) - 1 := by
    rw [Int32.toInt_sub, nI_toInt (by omega), show (1 : Int32).toInt = 1 from rfl, Int.bmod_eq_of_le (by omega) (by omega)]
  rw [i_le, i_lt, h1, nI_toInt (by omega)]; omega
theorem nI_p1 (p : Nat) : nI (p + 1) - 1 = nI p := by rw [Int32.sub_eq_add_neg]; exact pk_m1 p
theorem nlin (c p k : Nat) : nI c * nI p + nI k = nI (c * p + k) := by rw [pk_mul, nI_add]
theorem nmul (c p : Nat) : nI c * nI p = nI (c * p) := by rw [pk_mul]
