/-- the greatest sets that some statements, whatever guards them, leave -/
def FixA (I : aI) (n : Nat) (q : Nat → Bool) (S0 S : Nat → Int64) : Prop := SLe S S0 ∧ (∀ s, s < n → q s = true → nBy I s S = S) ∧ ∀ T, SLe T S0 → (∀ s, s < n → q s = true → nBy I s T = T) → SLe T S
theorem FixA_uniq {I : aI} {n : Nat} {q : Nat → Bool} {S0 S S2 : Nat → Int64} (h : FixA I n q S0 S) (g : FixA I n q S0 S2) : S = S2 := SLe_as (g.2.2 S h.1 h.2.1) (h.2.2 S2 g.1 g.2.1)
noncomputable def cfl (I : aI) (n : Nat) (q : Nat → Bool) : Bool := @decide (∃ S, FixA I n q full S ∧ anyB (fun j => decide (S j = 0)) 10 = true) (Classical.propDecidable _)
theorem cfl_iff {I : aI} {n : Nat} {q : Nat → Bool} : cfl I n q = true ↔ ∃ S, FixA I n q full S ∧ anyB (fun j => decide (S j = 0)) 10 = true := @decide_eq_true_iff _ (Classical.propDecidable _)
theorem cfl_eq {I : aI} {n : Nat} {q : Nat → Bool} {S : Nat → Int64} (h : FixA I n q full S) : anyB (fun j => decide (S j = 0)) 10 = cfl I n q := by
  exact Bool.eq_iff_iff.mpr (Iff.trans ⟨fun g => ⟨S, h, g⟩, fun ⟨S2, h2, g⟩ => by rw [FixA_uniq h h2]; exact g⟩ cfl_iff.symm)
theorem nBy_rows {I I2 : aI} (h45 : I2 45 = I 45) (h46 : I2 46 = I 46) (h47 : I2 47 = I 47) (h48 : I2 48 = I 48) (s : Nat) (S : Nat → Int64) : nBy I2 s S = nBy I s S := by
  unfold nBy iN; rw [h45, h46, h47, h48]
theorem FixA_cg {I I2 : aI} {n : Nat} {q : Nat → Bool} {S0 S : Nat → Int64} (h45 : I2 45 = I 45) (h46 : I2 46 = I 46) (h47 : I2 47 = I 47) (h48 : I2 48 = I 48) : FixA I2 n q S0 S ↔ FixA I n q S0 S := by
  unfold FixA; simp only [nBy_rows h45 h46 h47 h48]
theorem cfl_cg {I I2 : aI} {n : Nat} {q : Nat → Bool} (h45 : I2 45 = I 45) (h46 : I2 46 = I 46) (h47 : I2 47 = I 47) (h48 : I2 48 = I 48) : cfl I2 n q = cfl I n q := by
  exact Bool.eq_iff_iff.mpr (by rw [cfl_iff, cfl_iff]; simp only [FixA_cg h45 h46 h47 h48])
theorem Fix_A {I : aI} {n : Nat} {q : Nat → Bool} {S0 S : Nat → Int64} (h53 : I 44 53 = 1) (h87 : ∀ s, s < n → (I 87 s ≠ 0 ↔ q s = true)) (h : Fix I n S0 S) : FixA I n q S0 S := by
  have e : ∀ s (T : Nat → Int64), s < n → (cOn I T s ↔ q s = true) := fun s T hs => by
    have h0 : I 44 53 ≠ 0 := by rw [h53]; decide
    exact ⟨fun c => c.elim (fun c => absurd c.1 h0) (fun c => (h87 s hs).mp c.2), fun c => Or.inr ⟨h0, (h87 s hs).mpr c⟩⟩
  exact ⟨h.1, fun s hs hq => h.2.1 s hs ((e s S hs).mpr hq), fun T hT g => h.2.2 T hT (fun s hs c => g s hs ((e s T hs).mp c))⟩
abbrev al (a b c : Int32) : Nat → Bool := fun j => decide (nI j = a) || decide (nI j = b) || decide (nI j = c)
/-- what the search for a conflict leaves as it was -/
def CI (I0 : aI) (J0 : aJ) (I : aI) (J : aJ) : Prop := (∀ o, o ≠ 44 ∧ o ≠ 87 → I o = I0 o) ∧ (∀ k, k ≠ 53 → I 44 k = I0 44 k) ∧ (∀ o, o ≠ 88 → J o = J0 o) ∧ (∀ j, 10 ≤ j → J 88 j = 0)
theorem CI.sw {I0 I : aI} {J0 J : aJ} {n : Nat} (h : CI I0 J0 I J) (g : SW I0 n) : SW I n :=
  SW_cg (h.2.1 0 (by decide)) (h.1 45 (by decide)) (h.1 46 (by decide)) (h.1 47 (by decide)) (h.1 48 (by decide)) (h.1 49 (by decide)) (h.1 50 (by decide)) (h.1 51 (by decide)) (h.1 53 (by decide)) g
theorem CI.gok {I0 I : aI} {J0 J : aJ} {n : Nat} (h : CI I0 J0 I J) (g : GOK I0 n) : GOK I n := fun s hs => by rw [h.1 85 (by decide), h.1 46 (by decide)]; exact g s hs
theorem CI.zr {I0 I : aI} {J0 J : aJ} (h : CI I0 J0 I J) (g : Zr J0) : Zr J := fun j hj => ⟨h.2.2.2 j hj, by rw [h.2.2.1 89 (by decide)]; exact (g j hj).2⟩
theorem CI.refl {I : aI} {J : aJ} (h : Zr J) : CI I J I J := ⟨fun _ _ => rfl, fun _ _ => rfl, fun _ _ => rfl, fun j hj => (h j hj).1⟩
theorem CI.trans {I0 I1 I2 : aI} {J0 J1 J2 : aJ} (h : CI I0 J0 I1 J1) (g : CI I1 J1 I2 J2) : CI I0 J0 I2 J2 := ⟨fun o ho => (g.1 o ho).trans (h.1 o ho), fun k hk => (g.2.1 k hk).trans (h.2.1 k hk), fun o ho => (g.2.2.1 o ho).trans (h.2.2.1 o ho), g.2.2.2⟩
abbrev alR (I : aI) (a b c : Int32) (k : Nat) : Nat → Int32 := fun j => if j < k then bI (al a b c j) else I 87 j
theorem al_put {I : aI} {a b c : Int32} {k : Nat} {v : Int32} (hv : v = bI (al a b c k)) (j : Nat) : (if j = k then v else alR I a b c k j) = alR I a b c (k + 1) j := by
  simp only [alR]
  by_cases e : j = k
  · subst e; rw [if_pos rfl, if_pos (by omega), hv]
  · rw [if_neg e]
    by_cases c9 : j < k
    · rw [if_pos c9, if_pos (by omega)]
    · rw [if_neg c9, if_neg (by omega)]
/-- the first one that is not 0 -/
def fs (f : Nat → Int32) : Nat → Int32
  | 0 => 0
  | k + 1 => if fs f k ≠ 0 then fs f k else f k
theorem fs_z {f : Nat → Int32} {k : Nat} (h : fs f k = 0) (h2 : f k = 0) : fs f (k + 1) = 0 := by rw [fs, if_neg (not_not_intro h)]; exact h2
theorem fs_f {f : Nat → Int32} {k : Nat} {v : Int32} (h : fs f k = 0) (h2 : f k = v) (hv : v ≠ 0) : ∀ m, k < m → fs f m = v
  | 0, hm => absurd hm (by omega)
  | m + 1, hm => by
    by_cases e : k = m
    · subst e; rw [fs, if_neg (not_not_intro h)]; exact h2
    · have := fs_f h h2 hv m (by omega); rw [fs, this, if_pos hv]
theorem bit_nz {c : Nat} (h : c < 32) (x : Int32) : iBit (nI c) ||| x ≠ 0 := fun q => by
  have := congrArg (fun z => bt z c) q
  simp only [b_or, bt_bit h h, b_0] at this; simp at this
noncomputable def lf1 (I : aI) (n : Nat) (c : Nat) : Int32 := if I 93 c ≠ 0 ∧ cfl I n (al (-1) (-1) (nI c)) = true then (iBit (nI c) ||| 0) ||| 0 else 0
noncomputable def lf2 (I : aI) (n : Nat) (c b : Nat) : Int32 := if (I 93 c ≠ 0 ∧ I 93 b ≠ 0) ∧ cfl I n (al (-1) (nI b) (nI c)) = true then (iBit (nI c) ||| iBit (nI b)) ||| 0 else 0
noncomputable def lf3 (I : aI) (n : Nat) (c b a : Nat) : Int32 := if (I 93 c ≠ 0 ∧ I 93 b ≠ 0 ∧ I 93 a ≠ 0) ∧ cfl I n (al (nI a) (nI b) (nI c)) = true then (iBit (nI c) ||| iBit (nI b)) ||| iBit (nI a) else 0
noncomputable def lc1 (I : aI) (n : Nat) : Int32 := fs (lf1 I n) n
noncomputable def lc2 (I : aI) (n : Nat) : Int32 := fs (fun c => fs (lf2 I n c) c) n
noncomputable def lc3 (I : aI) (n : Nat) : Int32 := fs (fun c => fs (fun b => fs (lf3 I n c b) b) c) n
