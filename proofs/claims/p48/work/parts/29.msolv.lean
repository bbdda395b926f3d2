theorem sCount_le (x : Int64) : sCount x ≤ 64 := cntN_le x 64
abbrev dOn (I : aI) (S : Nat → Int64) (f s : Nat) : Prop := I 45 s = 4 ∧ I 46 s = nI f ∧ cOn I S s
abbrev lay (I : aI) (s : Nat) : Int32 := if I 49 s < 0 then 0 else I 54 (I 49 s).toNatClampNeg + 1
def mTop (I : aI) (S : Nat → Int64) (f : Nat) : Nat → Int32
  | 0 => -1
  | k + 1 => if dOn I S f k then (if mTop I S f k < lay I k then lay I k else mTop I S f k) else mTop I S f k
def mDef (I : aI) (S : Nat → Int64) (f : Nat) (top : Int32) : Nat → Int64
  | 0 => 0
  | k + 1 => if dOn I S f k ∧ lay I k = top then mDef I S f top k ||| sBit (iN I 47 k) else mDef I S f top k
theorem mTop_no {I : aI} {S : Nat → Int64} {f k : Nat} {m : Int32} (h : ¬ dOn I S f k) (e : m = mTop I S f k) : m = mTop I S f (k + 1) := by rw [mTop, if_neg h]; exact e
theorem mTop_yes {I : aI} {S : Nat → Int64} {f k : Nat} {m l : Int32} (h : dOn I S f k) (hl : lay I k = l) (e : m = mTop I S f k) : (m < l → l = mTop I S f (k + 1)) ∧ (¬ m < l → m = mTop I S f (k + 1)) := by
  rw [mTop, if_pos h, hl, ← e]
  exact ⟨fun q => (if_pos q).symm, fun q => (if_neg q).symm⟩
theorem mDef_no {I : aI} {S : Nat → Int64} {f k : Nat} {t : Int32} {m : Int64} (h : ¬ (dOn I S f k ∧ lay I k = t)) (e : m = mDef I S f t k) : m ||| 0 = mDef I S f t (k + 1) := by rw [mDef, if_neg h, Int64.or_zero]; exact e
theorem mDef_yes {I : aI} {S : Nat → Int64} {f k : Nat} {t : Int32} {m : Int64} (h : dOn I S f k ∧ lay I k = t) (e : m = mDef I S f t k) : m ||| sBit (iN I 47 k) = mDef I S f t (k + 1) := by rw [mDef, if_pos h, e]
theorem lay_a {I : aI} {k : Nat} (h : I 49 k < 0) : lay I k = 0 := if_pos h
theorem lay_b {I : aI} {k : Nat} (h : 0 ≤ I 49 k) : lay I k = I 54 (I 49 k).toNatClampNeg + 1 := if_neg (Int32.not_lt.mpr h)
abbrev dSet (I : aI) (n : Nat) (S : Nat → Int64) (f : Nat) : Int64 := mDef I S f (mTop I S f n) n &&& S f
/-- what the defaults of a field make of the sets -/
def DefR (I : aI) (n f : Nat) (S S2 : Nat → Int64) : Prop :=
  if sCount (dSet I n S f) = 1 then ∃ S3, Fix I n (fun j => if j = f then dSet I n S f else S j) S3 ∧ S2 = (if anyB (fun j => decide (S3 j = 0)) 10 = true then S else S3) else S2 = S
theorem Fix_z {I : aI} {n : Nat} {S0 S : Nat → Int64} (h : Fix I n S0 S) (z : ∀ j, 10 ≤ j → S0 j = 0) : ∀ j, 10 ≤ j → S j = 0 := fun j hj => sLe_z (by have q := h.1 j; rwa [z j hj] at q)
theorem keep_lem {J : aJ} {f : Nat} {X : Int64} {K S2 : Nat → Int64} : a_ur (a_ur (a_u J 88 f X) 90 K) 88 S2 = a_ur (a_ur J 90 K) 88 S2 := by
  rw [a_u_ur, a_ur_swap (o := 88) (by decide), a_ur_2, a_ur_swap (o := 90) (by decide)]
theorem keep_row {J : aJ} {f : Nat} {X : Int64} {K : Nat → Int64} : (a_ur (a_u J 88 f X) 90 K) 88 = fun j => if j = f then X else J 88 j := by
  rw [a_ur_ne (by decide), a_u_ur, a_ur_self]
theorem def_a {I : aI} {J : aJ} {n f : Nat} {X : Int64} {K S2 : Nat → Int64} (hds : X = dSet I n (J 88) f) (h1 : sCount X = 1) (hF : Fix I n ((a_ur (a_u J 88 f X) 90 K) 88) S2) (he : bI (anyB (fun j => decide (S2 j = 0)) 10) = 0) : DefR I n f (J 88) S2 := by
  rw [keep_row] at hF
  rw [DefR, ← hds, if_pos h1]
  exact ⟨S2, hF, by rw [if_neg (by rw [bI_e0.mp he]; simp)]⟩
theorem def_b {I : aI} {J : aJ} {n f : Nat} {X : Int64} {K S2 : Nat → Int64} (hds : X = dSet I n (J 88) f) (h1 : sCount X = 1) (hF : Fix I n ((a_ur (a_u J 88 f X) 90 K) 88) S2) (he : ¬ bI (anyB (fun j => decide (S2 j = 0)) 10) = 0) : DefR I n f (J 88) (J 88) := by
  rw [keep_row] at hF
  rw [DefR, ← hds, if_pos h1]
  exact ⟨S2, hF, by rw [if_pos (bI_n0.mp he)]⟩
theorem back_lem {I : aI} {J : aJ} {n f k : Nat} {X : Int64} {K S2 : Nat → Int64} (hf : f < 10) (hZ : ∀ j, 10 ≤ j → J 88 j = 0) (hF : Fix I n ((a_ur (a_u J 88 f X) 90 K) 88) S2) (hk : k = 10) : (fun j => if j < k then J 88 j else S2 j) = J 88 := funext fun j => by
  rw [keep_row] at hF
  by_cases c : j < k
  · rw [if_pos c]
  · rw [if_neg c, hZ j (by omega)]
    exact Fix_z hF (fun i hi => by rw [if_neg (by omega)]; exact hZ i hi) j (by omega)
