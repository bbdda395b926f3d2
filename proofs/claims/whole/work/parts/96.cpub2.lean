theorem ison_g9 {T : List aT} {I : aI} {J : aJ} {R : aR} {m : aI} {c n : Nat} {sq : Nat → Nat} {g : Nat} {gq eq : Nat → Nat} {r p : Nat} {pq : Nat → Nat} {k : Nat} (h9 : G9 T I J R m c n sq g gq eq r p pq k) : bI (decide (R 38 3 ≠ none)) = bI (decide (0 ≤ m 44 43)) := by
  refine bI_cg ?_
  rcases h9.pl.2.2.2.2.2.2.2 with e | ⟨i, a, e, hi, _⟩
  · rw [h9.cap.1 (by rw [e]; decide), e]; exact ⟨fun q => absurd rfl q, fun q => absurd q (by decide)⟩
  · have h40 := h9.pl.2.1
    rw [(h9.cap.2.1 i (by omega) e).1, e]
    exact ⟨fun _ => nI_pos' (by omega), fun _ q => by cases q⟩
theorem at3 {x a : Nat} (hx : x < 10000) (ha : a < 3) : (3 * nI x + nI a).toNatClampNeg = 3 * x + a := by
  rw [show (3 * nI x + nI a : Int32) = nI (3 * x + a) from by rw [nI_add, nI_mul]; rfl, nI_clamp (by omega)]
theorem i_le2 {a : Int32} (h : a < 3) : a ≤ 2 := by simp only [i_lt, i_le, Int32.reduceToInt] at *; omega
theorem i_lt3 {a : Int32} (h : a ≤ 2) : a < 3 := by simp only [i_lt, i_le, Int32.reduceToInt] at *; omega
