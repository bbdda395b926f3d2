theorem bI_cg {p q : Prop} [Decidable p] [Decidable q] (h : p ↔ q) : bI (decide p) = bI (decide q) := congrArg bI (decide_eq_decide.mpr h)
abbrev GOK (I : aI) (n : Nat) : Prop := ∀ s, s < n → 0 ≤ I 85 s → vp_in (I 85 s) 30 ∧ vp_in (I 46 (I 85 s).toNatClampNeg) 10
abbrev AOK (I : aI) (n : Nat) : Prop := (I 44 53 = 0 ∨ I 44 53 = 1) ∧ (I 44 53 = 1 → ∀ s, s < n → I 87 s = 0 ∨ I 87 s = 1)
abbrev isPr (I : aI) (s : Nat) : Prop := I 45 s = 5 ∨ I 45 s = 6
theorem sUpd_out {S : Nat → Int64} {f j : Nat} {v : Int64} (h : j ≠ f) : sUpd S f v j = S j := if_neg h
theorem nBy_out {I : aI} {s j : Nat} {S : Nat → Int64} (h1 : j ≠ iN I 46 s) (h2 : isPr I s → j ≠ iN I 47 s) : nBy I s S j = S j := by
  unfold nBy
  split; · exact sUpd_out h1
  split; · exact sUpd_out h1
  split; · exact sUpd_out h1
  split; · exact sUpd_out h1
  split
  · next h => rw [sUpd_out (h2 (Or.inl h)), sUpd_out h1]
  split
  · next h => rw [sUpd_out (h2 (Or.inr h)), sUpd_out h1]
  rfl
theorem nBy_same {I : aI} {s : Nat} {S : Nat → Int64} (h1 : nBy I s S (iN I 46 s) = S (iN I 46 s)) (h2 : isPr I s → nBy I s S (iN I 47 s) = S (iN I 47 s)) : nBy I s S = S := funext fun j => by
  by_cases e : j = iN I 46 s
  · rw [e]; exact h1
  · by_cases p : isPr I s
    · by_cases f : j = iN I 47 s
      · rw [f]; exact h2 p
      · exact nBy_out e (fun _ => f)
    · exact nBy_out e (fun q => absurd q p)
abbrev LN (I : aI) (n : Nat) (S0 S1 S2 : Nat → Int64) (k : Nat) (gs : Int32) : Prop := SLe S2 S1 ∧ (∀ T, SLe T S0 → Stb I n T → SLe T S2) ∧ ((gs = 0 ∧ S2 = S1 ∧ ∀ s, s < k → cOn I S2 s → nBy I s S2 = S2) ∨ (gs = 1 ∧ sumC S2 10 < sumC S1 10))
theorem LN.skip {I : aI} {n : Nat} {S0 S1 S2 : Nat → Int64} {k : Nat} {gs : Int32} (h : LN I n S0 S1 S2 k gs) (ok : cOn I S2 k → nBy I k S2 = S2) : LN I n S0 S1 S2 (k + 1) gs := by
  refine ⟨h.1, h.2.1, h.2.2.imp (fun q => ⟨q.1, q.2.1, fun s hs => ?_⟩) id⟩
  by_cases e : s = k
  · subst e; exact ok
  · exact q.2.2 s (by omega)
theorem LN.put {I : aI} {n : Nat} {S0 S1 S2 : Nat → Int64} {k j : Nat} {gs : Int32} (h : LN I n S0 S1 S2 k gs) (hk : k < n) (hc : cOn I S2 k) (hj : j < 10) (hne : nBy I k S2 j ≠ S2 j) : LN I n S0 S1 (nBy I k S2) (k + 1) 1 := by
  refine ⟨SLe_t (nBy_le _ _ _) h.1, fun T hT hs => Stb_below hk (h.2.1 T hT hs) hs hc, Or.inr ⟨rfl, ?_⟩⟩
  have q := sumC_lt (nBy_le I k S2) hne 10 hj
  have := sumC_mono h.1 10
  omega
theorem LN.gs {I : aI} {n : Nat} {S0 S1 S2 : Nat → Int64} {k : Nat} {gs : Int32} (h : LN I n S0 S1 S2 k gs) : gs = 0 ∨ gs = 1 := h.2.2.imp (fun q => q.1) (fun q => q.1)
theorem gs_or1 {gs : Int32} (h : gs = 0 ∨ gs = 1) : gs ||| 1 = 1 := by rcases h with rfl | rfl <;> rfl
