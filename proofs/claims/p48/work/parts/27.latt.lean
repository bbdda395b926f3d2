abbrev sLe (x y : Int64) : Prop := ∀ j, j < 64 → xb x j = true → xb y j = true
abbrev SLe (S T : Nat → Int64) : Prop := ∀ i, sLe (S i) (T i)
theorem sLe_r (x : Int64) : sLe x x := fun _ _ h => h
theorem sLe_t {x y z : Int64} (h : sLe x y) (g : sLe y z) : sLe x z := fun j hj b => g j hj (h j hj b)
theorem sLe_as {x y : Int64} (h : sLe x y) (g : sLe y x) : x = y := xb_ext fun j hj => by
  cases e : xb x j with
  | true => exact (h j hj e).symm
  | false => cases f : xb y j with
    | false => rfl
    | true => rw [g j hj f] at e; cases e
theorem sLe_al (x v : Int64) : sLe (x &&& v) x := fun j _ b => by rw [xb_and, Bool.and_eq_true] at b; exact b.1
theorem sLe_and {x y v w : Int64} (h : sLe x y) (g : sLe v w) : sLe (x &&& v) (y &&& w) := fun j hj b => by
  rw [xb_and, Bool.and_eq_true] at b ⊢; exact ⟨h j hj b.1, g j hj b.2⟩
theorem sLe_0 (x : Int64) : sLe 0 x := fun j _ b => by rw [xb_0] at b; cases b
theorem sLe_z {x : Int64} (h : sLe x 0) : x = 0 := sLe_as h (sLe_0 x)
theorem SLe_r (S : Nat → Int64) : SLe S S := fun i => sLe_r _
theorem SLe_t {S T U : Nat → Int64} (h : SLe S T) (g : SLe T U) : SLe S U := fun i => sLe_t (h i) (g i)
theorem SLe_as {S T : Nat → Int64} (h : SLe S T) (g : SLe T S) : S = T := funext fun i => sLe_as (h i) (g i)
theorem xb_shlA (b : Int64) : ∃ c : Nat, ∀ (x : Int64) (j : Nat), j < 64 → xb (x <<< b) j = (decide (c ≤ j) && xb x (j - c)) := by
  refine ⟨(b.toBitVec.smod 64).toNat, fun x j hj => ?_⟩
  unfold xb
  rw [show (x <<< b).toBitVec = x.toBitVec <<< (b.toBitVec.smod 64) from Int64.toBitVec_shiftLeft .., BitVec.shiftLeft_eq', BitVec.getLsbD_shiftLeft]
  generalize (b.toBitVec.smod 64).toNat = c
  by_cases e : j < c
  · simp [hj, e, Nat.not_le.mpr e]
  · simp [hj, e, Nat.not_lt.mp e]
theorem xb_ushrA (b : UInt64) : ∃ c : Nat, ∀ (x : Int64) (j : Nat), xb (x.toUInt64 >>> b).toInt64 j = xb x (c + j) := by
  refine ⟨b.toNat % 64, fun x j => ?_⟩
  have e : (x.toUInt64 >>> b).toInt64.toBitVec = x.toBitVec >>> (b.toNat % 64) := by
    apply BitVec.eq_of_toNat_eq
    show (x.toUInt64 >>> b).toNat = _
    rw [UInt64.toNat_shiftRight, BitVec.toNat_ushiftRight]
    rfl
  unfold xb
  rw [e, BitVec.getLsbD_ushiftRight]
theorem sShift_mono {x y : Int64} (b : Int32) (h : sLe x y) : sLe (sShift x b) (sShift y b) := fun j hj g => by
  unfold sShift at *
  by_cases e : 0 ≤ b
  · rw [if_pos e] at *
    obtain ⟨c, hc⟩ := xb_shlA (b.toInt64 &&& 63)
    rw [hc _ _ hj, Bool.and_eq_true] at *
    exact ⟨g.1, h _ (by omega) g.2⟩
  · rw [if_neg e] at *
    obtain ⟨c, hc⟩ := xb_ushrA ((-b).toInt64.toUInt64 &&& Int64.toUInt64 63)
    rw [hc] at *
    by_cases k : c + j < 64
    · exact h _ k g
    · rw [xb_hi (by omega)] at g; cases g
theorem sRng_mono {a b : Nat} {h k : Int32} (h1 : b ≤ a) (h2 : h.toInt ≤ k.toInt) : sLe (sRng a h) (sRng b k) := fun j hj g => by
  rw [xb_rng] at *
  simp only [Bool.and_eq_true, decide_eq_true_eq] at *
  exact ⟨hj, by omega, by omega⟩
theorem sGr_mono {x y : Int64} (h : sLe x y) : ∀ k, k ≤ 64 → sGr x k ≤ sGr y k
  | 0, _ => Nat.le_refl _
  | k + 1, hk => by
    have ih := sGr_mono h k (by omega)
    have := sGr_le x k
    simp only [sGr]
    by_cases e : xb x k = true
    · rw [if_pos e, if_pos (h k (by omega) e)]; exact Nat.le_refl _
    · rw [if_neg e]; split <;> omega
theorem gr_val (x : Int64) : (nI (sGreat x) + (-1) - 1 : Int32).toInt = (sGreat x : Int) - 2 := by
  have h : sGreat x ≤ 64 := sGr_le x 64
  have e : (nI (sGreat x) + (-1) - 1 : Int32) = nI (sGreat x) - nI 2 := by
    rw [Int32.sub_eq_add_neg, Int32.sub_eq_add_neg, Int32.add_assoc]; rfl
  rw [e, pk_sub_toInt (by omega) (by decide)]; omega
theorem sBelow_mono {x y : Int64} (h : sLe x y) : sLe (sBelow x) (sBelow y) := by
  refine sRng_mono (Nat.le_refl _) ?_
  have := sGr_mono h 64 (Nat.le_refl _)
  rw [gr_val, gr_val]; unfold sGreat; omega
theorem sLeast_no (y : Int64) : ∀ j, j < sLeast y → xb y j = false := fun j hj => by
  unfold sLeast at hj
  cases f : (List.range 64).find? (fun j => xb y j) with
  | none =>
    rw [f] at hj
    have := List.find?_eq_none.mp f j (List.mem_range.mpr (by simpa using hj))
    simpa using this
  | some v =>
    rw [f] at hj
    have := (List.find?_range_eq_some.mp f).2.2 j (by simpa using hj)
    simpa using this
theorem sLeast_yes {x : Int64} (h : x ≠ 0) : xb x (sLeast x) = true := by
  unfold sLeast
  cases f : (List.range 64).find? (fun j => xb x j) with
  | none =>
    exfalso; apply h; refine xb_zero_iff.mpr fun j hj => ?_
    have := List.find?_eq_none.mp f j (List.mem_range.mpr hj)
    simpa using this
  | some v => exact (List.find?_range_eq_some.mp f).1
theorem sAbove_mono {x y : Int64} (h : sLe x y) : sLe (sAbove x) (sAbove y) := by
  unfold sAbove
  by_cases e : x = 0
  · rw [if_pos e]; exact sLe_0 _
  · have e2 : y ≠ 0 := fun q => e (sLe_z (q ▸ h))
    rw [if_neg e, if_neg e2]
    refine sRng_mono ?_ (Int.le_refl _)
    have g := sLeast_le x e
    rcases Nat.lt_or_ge (sLeast x) (sLeast y) with c | c
    · have := h _ g (sLeast_yes e); rw [sLeast_no y _ c] at this; cases this
    · omega
theorem sUpd_mono {S T : Nat → Int64} {v w : Int64} (f : Nat) (h : SLe S T) (g : sLe v w) : SLe (sUpd S f v) (sUpd T f w) := fun i => by
  unfold sUpd; by_cases e : i = f
  · simp only [if_pos e]; exact sLe_and (h f) g
  · simp only [if_neg e]; exact h i
theorem sUpd_le (S : Nat → Int64) (f : Nat) (v : Int64) : SLe (sUpd S f v) S := fun i => by
  unfold sUpd; by_cases e : i = f
  · simp only [if_pos e]; rw [e]; exact sLe_al _ _
  · simp only [if_neg e]; exact sLe_r _
theorem nBy_le (I : aI) (s : Nat) (S : Nat → Int64) : SLe (nBy I s S) S := by
  unfold nBy
  split; · exact sUpd_le _ _ _
  split; · exact sUpd_le _ _ _
  split; · exact sUpd_le _ _ _
  split; · exact sUpd_le _ _ _
  split; · exact SLe_t (sUpd_le _ _ _) (sUpd_le _ _ _)
  split; · exact SLe_t (sUpd_le _ _ _) (sUpd_le _ _ _)
  exact SLe_r _
theorem nBy_mono (I : aI) (s : Nat) {S T : Nat → Int64} (h : SLe S T) : SLe (nBy I s S) (nBy I s T) := by
  unfold nBy
  split; · exact sUpd_mono _ h (sLe_r _)
  split; · exact sUpd_mono _ h (sLe_r _)
  split; · exact sUpd_mono _ h (sLe_r _)
  split; · exact sUpd_mono _ h (sLe_r _)
  split
  · have q := sUpd_mono (iN I 46 s) h (sShift_mono (I 48 s) (h (iN I 47 s)))
    exact sUpd_mono _ q (sShift_mono _ (q _))
  split
  · have q := sUpd_mono (iN I 46 s) h (sBelow_mono (h (iN I 47 s)))
    exact sUpd_mono _ q (sAbove_mono (q _))
  exact h
abbrev hOn (I : aI) (S : Nat → Int64) (s : Nat) : Prop := I 85 s < 0 ∨ S (I 46 (I 85 s).toNatClampNeg).toNatClampNeg &&& (((1 : Int64) <<< ((I 47 (I 85 s).toNatClampNeg).toInt64 &&& 63)) ^^^ (-1)) = 0
theorem hOn_anti {I : aI} {S T : Nat → Int64} {s : Nat} (h : SLe S T) (g : hOn I T s) : hOn I S s := g.imp id (fun q => by have r := sLe_and (h (I 46 (I 85 s).toNatClampNeg).toNatClampNeg) (sLe_r (((1 : Int64) <<< ((I 47 (I 85 s).toNatClampNeg).toInt64 &&& 63)) ^^^ (-1))); rw [q] at r; exact sLe_z r)
abbrev cOn (I : aI) (S : Nat → Int64) (s : Nat) : Prop := (I 44 53 = 0 ∧ I 84 s ≠ 0 ∧ I 45 s < 7 ∧ I 86 s = 0 ∧ hOn I S s) ∨ (I 44 53 ≠ 0 ∧ I 87 s ≠ 0)
theorem cOn_anti {I : aI} {S T : Nat → Int64} {s : Nat} (h : SLe S T) (g : cOn I T s) : cOn I S s := g.imp (fun q => ⟨q.1, q.2.1, q.2.2.1, q.2.2.2.1, hOn_anti h q.2.2.2.2⟩) id
/-- nothing narrows any more -/
def Stb (I : aI) (n : Nat) (S : Nat → Int64) : Prop := ∀ s, s < n → cOn I S s → nBy I s S = S
/-- the greatest sets below S0 that nothing narrows -/
def Fix (I : aI) (n : Nat) (S0 S : Nat → Int64) : Prop := SLe S S0 ∧ Stb I n S ∧ ∀ T, SLe T S0 → Stb I n T → SLe T S
theorem Fix_uniq {I : aI} {n : Nat} {S0 S S2 : Nat → Int64} (h : Fix I n S0 S) (g : Fix I n S0 S2) : S = S2 := SLe_as (g.2.2 S h.1 h.2.1) (h.2.2 S2 g.1 g.2.1)
theorem Stb_below {I : aI} {n s : Nat} {S T : Nat → Int64} (hs : s < n) (h : SLe T S) (g : Stb I n T) (c : cOn I S s) : SLe T (nBy I s S) := by
  have q := nBy_mono I s h
  rwa [g s hs (cOn_anti h c)] at q
theorem cntN_mono {x y : Int64} (h : sLe x y) : ∀ k, k ≤ 64 → cntN x k ≤ cntN y k
  | 0, _ => Nat.le_refl _
  | k + 1, hk => by
    have ih := cntN_mono h k (by omega)
    simp only [cntN]
    by_cases e : xb x k = true
    · rw [if_pos e, if_pos (h k (by omega) e)]; omega
    · rw [if_neg e]; omega
theorem cntN_lt {x y : Int64} (h : sLe x y) {j : Nat} (hx : xb x j = false) (hy : xb y j = true) : ∀ k, k ≤ 64 → j < k → cntN x k < cntN y k
  | 0, _, hj => absurd hj (by omega)
  | k + 1, hk, hj => by
    simp only [cntN]
    by_cases e : j = k
    · subst e
      have := cntN_mono h j (by omega)
      rw [hx, hy]; simp; omega
    · have ih := cntN_lt h hx hy k (by omega) (by omega)
      by_cases f : xb x k = true
      · rw [if_pos f, if_pos (h k (by omega) f)]; omega
      · rw [if_neg f]; omega
theorem sCount_lt {x y : Int64} (h : sLe x y) (hne : x ≠ y) : sCount x < sCount y := by
  have : ∃ j, j < 64 ∧ xb x j = false ∧ xb y j = true := by
    apply Classical.byContradiction; intro q
    apply hne; apply sLe_as h
    intro j hj b
    cases e : xb x j with
    | true => rfl
    | false => exact absurd ⟨j, hj, e, b⟩ q
  obtain ⟨j, hj, h1, h2⟩ := this
  exact cntN_lt h h1 h2 64 (Nat.le_refl _) hj
def sumC (S : Nat → Int64) : Nat → Nat
  | 0 => 0
  | k + 1 => sumC S k + sCount (S k)
theorem sumC_mono {S T : Nat → Int64} (h : SLe S T) : ∀ k, sumC S k ≤ sumC T k
  | 0 => Nat.le_refl _
  | k + 1 => by have := sumC_mono h k; have := cntN_mono (h k) 64 (Nat.le_refl _); simp only [sumC, sCount]; omega
theorem sumC_lt {S T : Nat → Int64} (h : SLe S T) {j : Nat} (hne : S j ≠ T j) : ∀ k, j < k → sumC S k < sumC T k
  | 0, hj => absurd hj (by omega)
  | k + 1, hj => by
    simp only [sumC]
    by_cases e : j = k
    · subst e; have := sumC_mono h j; have := sCount_lt (h j) hne; omega
    · have := sumC_lt h hne k (by omega); have := cntN_mono (h k) 64 (Nat.le_refl _); simp only [sCount]; omega
theorem sumC_le (S : Nat → Int64) : ∀ k, sumC S k ≤ 64 * k
  | 0 => Nat.le_refl _
  | k + 1 => by have := sumC_le S k; have := cntN_le (S k) 64; simp only [sumC, sCount]; omega
