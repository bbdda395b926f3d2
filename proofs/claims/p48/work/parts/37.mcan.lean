def allB (p : Nat → Bool) : Nat → Bool
  | 0 => true
  | k + 1 => allB p k && p k
theorem allB_iff {p : Nat → Bool} : ∀ {n : Nat}, allB p n = true ↔ ∀ k, k < n → p k = true
  | 0 => by simp [allB]
  | n + 1 => by
    rw [allB, Bool.and_eq_true, allB_iff]
    exact ⟨fun h k hk => by by_cases e : k = n
                            · rw [e]; exact h.2
                            · exact h.1 k (by omega), fun h => ⟨fun k hk => h k (by omega), h n (by omega)⟩⟩
theorem all_st {p : Nat → Bool} {k : Nat} {acc : Bool} (h : acc = allB p k) : (acc && p k) = allB p (k + 1) := by rw [allB, h]
theorem bI_and (a b : Bool) : bI a &&& bI b = bI (a && b) := by cases a <;> cases b <;> rfl
theorem bI_and1 (a : Bool) : bI a &&& 1 = bI a := by cases a <;> rfl
theorem bI_and0 (a : Bool) : bI a &&& 0 = bI false := by cases a <;> rfl
abbrev hkB (I : aI) (h : Nat) (x : Int32) : Bool := anyB (fun j => decide (I 64 (8 * h + j) = x)) (iN I 63 h)
abbrev csK (I : aI) (g s : Nat) : Nat → Bool := fun k => hkB I ((s - 10) / 3) (I 64 (8 * g + k))
def cS (I : aI) (J : aJ) (g a : Nat) (v : Int32) : Bool :=
  if I 65 (3 * g + a) = -1 then true
  else if iN I 65 (3 * g + a) < 10 then decide (0 ≤ sVal I J (iN I 65 (3 * g + a))) && (decide ((v >>> (nI (iN I 65 (3 * g + a)) &&& 31)) &&& 1 = 0) || decide (I 58 (3 * iN I 62 g + a) &&& 4 ≠ 0))
  else allB (csK I g (iN I 65 (3 * g + a))) (iN I 63 g)
theorem cS_0 {I : aI} {J : aJ} {g a : Nat} {v : Int32} (h : I 65 (3 * g + a) = -1) : true = cS I J g a v := by rw [cS, if_pos h]
theorem cS_a {I : aI} {J : aJ} {g a s : Nat} {v : Int32} {b : Bool} (hs : s = iN I 65 (3 * g + a)) (h1 : I 65 (3 * g + a) = nI s ∧ s < 22) (h3 : s < 10) (hv : b = (decide (0 ≤ sVal I J s) && (decide ((v >>> (nI s &&& 31)) &&& 1 = 0) || decide (I 58 (3 * iN I 62 g + a) &&& 4 ≠ 0)))) : b = cS I J g a v := by
  subst hs; rw [cS, if_neg (fun q => nI_ne1 h1.2 (h1.1.symm.trans q)), if_pos h3]; exact hv
theorem cS_b {I : aI} {J : aJ} {g a s : Nat} {v : Int32} {b : Bool} (hs : s = iN I 65 (3 * g + a)) (h1 : I 65 (3 * g + a) = nI s ∧ s < 22) (h3 : ¬ s < 10) (hv : b = allB (csK I g s) (iN I 63 g)) : b = cS I J g a v := by
  subst hs; rw [cS, if_neg (fun q => nI_ne1 h1.2 (h1.1.symm.trans q)), if_neg h3]; exact hv
theorem and_y {p : Nat → Bool} {b acc : Bool} {k : Nat} (h : acc = (b && allB p k)) (hp : p k = true) : acc = (b && allB p (k + 1)) := by rw [allB, hp, Bool.and_true]; exact h
theorem and_n {p : Nat → Bool} {b : Bool} {k : Nat} (hp : p k = false) : false = (b && allB p (k + 1)) := by rw [allB, hp, Bool.and_false, Bool.and_false]
theorem and_st {p : Nat → Bool} {b acc : Bool} {k : Nat} (h : acc = (b && allB p k)) : (acc && p k) = (b && allB p (k + 1)) := by rw [allB, h, Bool.and_assoc]
abbrev cF (I : aI) : Nat → Bool := fun s => decide (I 86 s = 0)
def cG (I : aI) (J : aJ) (v : Int32) : Nat → Bool := fun i => if iN I 63 i = 0 then true else allB (fun k => cS I J i k v) 3
theorem cG_0 {I : aI} {J : aJ} {v : Int32} {i m : Nat} {b c : Bool} (h : iN I 63 i = 0 ∨ m = 3) (hm : m = 0 ∨ 0 < iN I 63 i) (e : c = (b && allB (fun k => cS I J i k v) m)) : c = (b && cG I J v i) := by
  unfold cG
  rcases h with h | h
  · rw [if_pos h, e]; rcases hm with hm | hm
    · subst hm; rfl
    · omega
  · subst h; rw [if_neg (by omega)]; exact e
noncomputable def cP (I : aI) (J : aJ) (n g : Nat) : Bool := (decide (I 44 57 = 0) && allB (cF I) n) && allB (cG I J (tnt I J n)) g
