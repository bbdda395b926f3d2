abbrev SO2 (I : aI) : Prop := ∀ j, j < 12 → I 65 j = -1 ∨ (I 65 j = nI (iN I 65 j) ∧ iN I 65 j < 22)
/-- the source of an attribute of a name gives (s: the source, a natural), by the sets that are found -/
abbrev gvA (I : aI) (J : aJ) (x s : Nat) : Int32 := if sVal I J s < 0 then -1 else sVal I J s <<< (nI (iN I 61 (iN I 62 (x / 16))) &&& 31)
abbrev gvB (I : aI) (x s : Nat) : Int32 := if I 69 (16 * ((s - 10) / 3) + x % 16) = 0 ∨ 2 < I 91 (16 * ((s - 10) / 3) + x % 16) then -1 else (I 70 (3 * (16 * ((s - 10) / 3) + x % 16) + (s - 10) % 3) >>> (nI (iN I 61 (iN I 62 ((s - 10) / 3))) &&& 31)) <<< (nI (iN I 61 (iN I 62 (x / 16))) &&& 31)
def sGives (I : aI) (J : aJ) (x a : Nat) : Int32 :=
  if I 65 (3 * (x / 16) + a) = -1 ∨ I 58 (3 * iN I 62 (x / 16) + a) &&& 2 ≠ 0 then 0
  else if iN I 65 (3 * (x / 16) + a) < 10 then gvA I J x (iN I 65 (3 * (x / 16) + a)) else gvB I x (iN I 65 (3 * (x / 16) + a))
theorem gv_0 {I : aI} {J : aJ} {x a : Nat} (h : I 65 (3 * (x / 16) + a) = -1 ∨ I 58 (3 * iN I 62 (x / 16) + a) &&& 2 ≠ 0) : 0 = sGives I J x a := (if_pos h).symm
theorem nI_ne1 {m : Nat} (h : m < 22) : ¬ nI m = -1 := fun q => by
  have := (i_eq _ _).mp q; rw [nI_toInt (by omega), show (-1 : Int32).toInt = -1 from by decide] at this; omega
theorem gv_a {I : aI} {J : aJ} {x a : Nat} {v : Int32} (h1 : I 65 (3 * (x / 16) + a) = nI (iN I 65 (3 * (x / 16) + a)) ∧ iN I 65 (3 * (x / 16) + a) < 22) (h2 : ¬ I 58 (3 * iN I 62 (x / 16) + a) &&& 2 ≠ 0) (h3 : iN I 65 (3 * (x / 16) + a) < 10) (hv : v = gvA I J x (iN I 65 (3 * (x / 16) + a))) : v = sGives I J x a := by
  rw [sGives, if_neg (fun q => q.elim (fun q => nI_ne1 h1.2 (h1.1.symm.trans q)) h2), if_pos h3]; exact hv
theorem gv_b {I : aI} {J : aJ} {x a : Nat} {v : Int32} (h1 : I 65 (3 * (x / 16) + a) = nI (iN I 65 (3 * (x / 16) + a)) ∧ iN I 65 (3 * (x / 16) + a) < 22) (h2 : ¬ I 58 (3 * iN I 62 (x / 16) + a) &&& 2 ≠ 0) (h3 : ¬ iN I 65 (3 * (x / 16) + a) < 10) (hv : v = gvB I x (iN I 65 (3 * (x / 16) + a))) : v = sGives I J x a := by
  rw [sGives, if_neg (fun q => q.elim (fun q => nI_ne1 h1.2 (h1.1.symm.trans q)) h2), if_neg h3]; exact hv
