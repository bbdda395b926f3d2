/-- a call that answers v of the store it leaves -/
def aRel (v : aI → aJ → Option Value) (Q : aI → aJ → Prop) (T : List aT) (R : aR) : aP := fun o T2 I2 J2 R2 => o = .inl (v I2 J2) ∧ T2 = T ∧ R2 = R ∧ Q I2 J2
theorem aRel_x {v : aI → aJ → Option Value} {Q : aI → aJ → Prop} {T0 : List aT} {X : aX} {c s pc : Nat} {L : List (Option Value)} {T : List aT} {R : aR} : ∀ (E : String) (T2 : List aT) (I2 : aI) (J2 : aJ) (R2 : aR), T0 <+: T2 → aRel v Q T R (.inr E) T2 I2 J2 R2 → AE X c s pc L E T2 I2 J2 R2 := fun _ _ _ _ _ _ h => nomatch h.1
theorem aRel_k {v : aI → aJ → Option Value} {Q : aI → aJ → Prop} {T0 : List aT} {X : aX} {c s pc : Nat} {L : List (Option Value)} {st : List Value} {T : List aT} {R : aR} (k : ∀ (I2 : aI) (J2 : aJ), Q I2 J2 → AW X c s pc L ((v I2 J2).toList ++ st) T I2 J2 R) : ∀ (v2 : Option Value) (T2 : List aT) (I2 : aI) (J2 : aJ) (R2 : aR), T0 <+: T2 → aRel v Q T R (.inl v2) T2 I2 J2 R2 → AW X c s pc L (v2.toList ++ st) T2 I2 J2 R2 := by
  rintro v2 T2 I2 J2 R2 - ⟨h, rfl, rfl, hQ⟩
  cases h
  exact k I2 J2 hQ
/-- the statements' rows are as they should be -/
abbrev SW (I : aI) (n : Nat) : Prop := (n ≤ 30) ∧ (I 44 0 = nI n) ∧ (NR I 45 n 13) ∧ (NR I 46 n 10) ∧ (NR I 47 n 64) ∧ (NR I 51 n 4) ∧ (NR I 53 3 4) ∧ (∀ s, s < n → iN I 45 s = 12 → iN I 46 s < 3 ∧ 1 ≤ iN I 47 s ∧ iN I 47 s ≤ 3) ∧ (∀ s, s < n → iN I 45 s = 5 ∨ iN I 45 s = 6 → iN I 47 s < 10) ∧ (∀ s, s < n → iN I 45 s = 1 ∨ iN I 45 s = 2 → I 48 s = nI (iN I 48 s) ∧ iN I 48 s < 64) ∧ (∀ s, s < n → I 49 s = -1 ∨ (0 ≤ I 49 s ∧ I 49 s ≤ 5)) ∧ (∀ s, s < n → I 49 s < 0 → I 50 s = nI (iN I 50 s) ∧ iN I 50 s < 3)
theorem SW.n30 {I : aI} {n : Nat} (h : SW I n) : n ≤ 30 := h.1
theorem SW.cnt {I : aI} {n : Nat} (h : SW I n) : I 44 0 = nI n := h.2.1
theorem SW.kd {I : aI} {n : Nat} (h : SW I n) : NR I 45 n 13 := h.2.2.1
theorem SW.fd {I : aI} {n : Nat} (h : SW I n) : NR I 46 n 10 := h.2.2.2.1
theorem SW.on {I : aI} {n : Nat} (h : SW I n) : NR I 47 n 64 := h.2.2.2.2.1
theorem SW.vs {I : aI} {n : Nat} (h : SW I n) : NR I 51 n 4 := h.2.2.2.2.2.1
theorem SW.vv {I : aI} {n : Nat} (h : SW I n) : NR I 53 3 4 := h.2.2.2.2.2.2.1
theorem SW.k12 {I : aI} {n : Nat} (h : SW I n) : ∀ s, s < n → iN I 45 s = 12 → iN I 46 s < 3 ∧ 1 ≤ iN I 47 s ∧ iN I 47 s ≤ 3 := h.2.2.2.2.2.2.2.1
theorem SW.k56 {I : aI} {n : Nat} (h : SW I n) : ∀ s, s < n → iN I 45 s = 5 ∨ iN I 45 s = 6 → iN I 47 s < 10 := h.2.2.2.2.2.2.2.2.1
theorem SW.tw {I : aI} {n : Nat} (h : SW I n) : ∀ s, s < n → iN I 45 s = 1 ∨ iN I 45 s = 2 → I 48 s = nI (iN I 48 s) ∧ iN I 48 s < 64 := h.2.2.2.2.2.2.2.2.2.1
theorem SW.fl {I : aI} {n : Nat} (h : SW I n) : ∀ s, s < n → I 49 s = -1 ∨ (0 ≤ I 49 s ∧ I 49 s ≤ 5) := h.2.2.2.2.2.2.2.2.2.2.1
theorem SW.pk {I : aI} {n : Nat} (h : SW I n) : ∀ s, s < n → I 49 s < 0 → I 50 s = nI (iN I 50 s) ∧ iN I 50 s < 3 := h.2.2.2.2.2.2.2.2.2.2.2
abbrev wantsW (I : aI) (W : Nat → Prop) (s : Nat) : Prop := ((0 ≤ I 49 s ∧ I 52 s = 0) ∨ (I 49 s < 0 ∧ 0 < I 51 s ∧ W (3 * I 50 s + I 51 s - 1).toNatClampNeg)) ∧ I 45 s = 12
def idxW (I : aI) (s : Nat) : Nat := 3 * iN I 46 s + min (iN I 53 (iN I 46 s)) (iN I 47 s) - 1
def ClosedW (I : aI) (n : Nat) (W : Nat → Prop) : Prop := ∀ s, s < n → wantsW I W s → 0 < iN I 53 (iN I 46 s) → W (idxW I s)
def cntF (f : Nat → Int32) : Nat → Nat
  | 0 => 0
  | k + 1 => cntF f k + if f k = 0 then 1 else 0
theorem cntF_put {f : Nat → Int32} {j : Nat} (h0 : f j = 0) : ∀ {n : Nat}, j < n → cntF (fun i => if i = j then 1 else f i) n < cntF f n
  | 0, h => absurd h (by omega)
  | n + 1, h => by
    have le : ∀ m, cntF (fun i => if i = j then 1 else f i) m ≤ cntF f m := fun m => by
      induction m with
      | zero => exact Nat.le_refl _
      | succ m ih =>
        simp only [cntF]
        have q : (if (if m = j then (1 : Int32) else f m) = 0 then 1 else 0) ≤ (if f m = 0 then 1 else 0) := by by_cases e : m = j <;> simp [e]
        exact Nat.add_le_add ih q
    simp only [cntF]
    by_cases e : n = j
    · subst e; have := le n; simp [h0]; omega
    · have := cntF_put h0 (n := n) (by omega); simp [e]; exact this
abbrev LW (I I1 I2 : aI) (n k : Nat) (gs : Int32) : Prop := (∀ o, o ≠ 83 → I2 o = I o) ∧ (∀ W : Nat → Prop, ClosedW I n W → ∀ j, j < 9 → I2 83 j ≠ 0 → W j) ∧ ((gs = 0 ∧ I2 = I1 ∧ ∀ s, s < k → wantsW I (fun j => I2 83 j ≠ 0) s → 0 < iN I 53 (iN I 46 s) → I2 83 (idxW I s) ≠ 0) ∨ (gs = 1 ∧ cntF (I2 83) 9 < cntF (I1 83) 9))
theorem LW.fr {I I1 I2 : aI} {n k : Nat} {gs : Int32} (h : LW I I1 I2 n k gs) : ∀ o, o ≠ 83 → I2 o = I o := h.1
theorem LW.snd {I I1 I2 : aI} {n k : Nat} {gs : Int32} (h : LW I I1 I2 n k gs) : ∀ W : Nat → Prop, ClosedW I n W → ∀ j, j < 9 → I2 83 j ≠ 0 → W j := h.2.1
theorem LW.c {I I1 I2 : aI} {n k : Nat} {gs : Int32} (h : LW I I1 I2 n k gs) : (gs = 0 ∧ I2 = I1 ∧ ∀ s, s < k → wantsW I (fun j => I2 83 j ≠ 0) s → 0 < iN I 53 (iN I 46 s) → I2 83 (idxW I s) ≠ 0) ∨ (gs = 1 ∧ cntF (I2 83) 9 < cntF (I1 83) 9) := h.2.2
theorem wantsW_fr {I I2 : aI} (h : ∀ o, o ≠ 83 → I2 o = I o) (s : Nat) : mWants I2 s ↔ wantsW I (fun j => I2 83 j ≠ 0) s := by
  unfold mWants wantsW; rw [h 49 (by decide), h 52 (by decide), h 51 (by decide), h 50 (by decide), h 45 (by decide)]
theorem ix9 {p v : Nat} (hp : p < 3) (h0 : 0 < v) (hv : v < 4) : (3 * nI p + nI v - 1 : Int32) = nI (3 * p + v - 1) := by
  rw [show (3 : Int32) = nI 3 from rfl, pk_mul, nI_add, show (1 : Int32) = nI 1 from rfl, pk_sub (by omega)]
theorem SW.ix {I : aI} {n s : Nat} (h : SW I n) (hs : s < n) (h1 : I 49 s < 0) (h2 : 0 < I 51 s) : vp_in (3 * I 50 s + I 51 s - 1) 9 := by
  obtain ⟨p1, p2⟩ := h.pk s hs h1
  obtain ⟨v1, v2⟩ := h.vs s hs
  rw [v1] at h2
  have h3 : 0 < iN I 51 s := (nI_ltI (a := 0) (by decide) (by omega)).mp h2
  rw [p1, v1, ix9 p2 h3 v2]
  exact vp_in_nI (by omega) (by decide)
theorem LW.skip {I I1 I2 : aI} {n k : Nat} {gs : Int32} (h : LW I I1 I2 n k gs) (ok : wantsW I (fun j => I2 83 j ≠ 0) k → 0 < iN I 53 (iN I 46 k) → I2 83 (idxW I k) ≠ 0) : LW I I1 I2 n (k + 1) gs := by
  refine ⟨h.fr, h.snd, h.c.imp (fun q => ⟨q.1, q.2.1, fun s hs => ?_⟩) id⟩
  by_cases e : s = k
  · subst e; exact ok
  · exact q.2.2 s (by omega)
theorem LW.put {I I1 I2 : aI} {n k j : Nat} {gs : Int32} (hS : SW I n) (h : LW I I1 I2 n k gs) (hk : k < n) (hw : mWants I2 k) (hv : 0 < iN I 53 (iN I 46 k)) (hj : idxW I k = j) (hj9 : j < 9) (h0 : I2 83 j = 0) : LW I I1 (a_u I2 83 j 1) n (k + 1) 1 := by
  have e83 : a_u I2 83 j 1 83 = fun i => if i = j then 1 else I2 83 i := by funext b; simp [a_u]
  refine ⟨fun o ho => by rw [a_u_row ho]; exact h.fr o ho, fun W hW i hi hne => ?_, Or.inr ⟨rfl, ?_⟩⟩
  · rw [e83] at hne
    by_cases e : i = j
    · subst e; rw [← hj]
      refine hW k hk ?_ hv
      have hw2 := (wantsW_fr h.fr k).mp hw
      refine ⟨hw2.1.imp id (fun q => ⟨q.1, q.2.1, ?_⟩), hw2.2⟩
      have hx := hS.ix hk q.1 q.2.1
      obtain ⟨m, m1, m2⟩ := vp_in_of hx (by decide)
      refine h.snd W hW _ ?_ q.2.2
      rw [m2, nI_clamp (by omega)]; exact m1
    · simp only [if_neg e] at hne; exact h.snd W hW i hi hne
  · rw [e83]
    have h1 := cntF_put h0 hj9
    rcases h.c with q | q
    · rw [← q.2.1]; exact h1
    · exact Nat.lt_trans h1 q.2
theorem cntF_le (f : Nat → Int32) : ∀ n, cntF f n ≤ n
  | 0 => Nat.le_refl _
  | n + 1 => by have := cntF_le f n; simp only [cntF]; split <;> omega
abbrev Least (I I1 : aI) (n : Nat) : Prop := (∀ o, o ≠ 83 → I1 o = I o) ∧ (∀ W : Nat → Prop, ClosedW I n W → ∀ j, j < 9 → I1 83 j ≠ 0 → W j) ∧ ClosedW I n (fun j => I1 83 j ≠ 0)
theorem mWants_ix {I I2 : aI} {n k : Nat} (hS : SW I n) (fr : ∀ o, o ≠ 83 → I2 o = I o) (hk : k < n) : I2 49 k < 0 → 0 < I2 51 k → vp_in (3 * I2 50 k + I2 51 k - 1) 9 := by
  rw [fr 49 (by decide), fr 51 (by decide), fr 50 (by decide)]; exact hS.ix hk
theorem k12_of {I I2 : aI} {n k : Nat} (hS : SW I n) (fr : ∀ o, o ≠ 83 → I2 o = I o) (hk : k < n) (h : mWants I2 k) : iN I 46 k < 3 ∧ 1 ≤ iN I 47 k ∧ iN I 47 k ≤ 3 ∧ iN I 46 k < 10 ∧ iN I 53 (iN I 46 k) < 4 := by
  have h2 := h.2
  rw [fr 45 (by decide)] at h2
  have h3 := (hS.k12 k hk (by rw [iN, h2]; rfl))
  exact ⟨h3.1, h3.2.1, h3.2.2, (hS.fd k hk).2, (hS.vv _ h3.1).2⟩
abbrev mThere (I : aI) (s : Nat) : Prop := (0 ≤ I 49 s ∧ I 52 s = 0) ∨ (I 49 s < 0 ∧ 0 < I 51 s ∧ I 51 s = mCh I (iN I 50 s) 3)
abbrev S84 (I : aI) (k : Nat) : Nat → Int32 := fun j => if j < k then bI (decide (mThere I j)) else I 84 j
abbrev S85 (I : aI) (k : Nat) : Nat → Int32 := fun j => if j < k then (if I 45 j < 7 then mGuard I j else -1) else I 85 j
abbrev S86 (I : aI) (n k : Nat) : Nat → Int32 := fun j => if j < k then (if I 84 j ≠ 0 ∧ I 45 j < 7 then mFault I n j else 0) else I 86 j
theorem mCh_cg {I I2 : aI} (h : I 83 = I2 83) (p : Nat) : ∀ k, mCh I p k = mCh I2 p k
  | 0 => rfl
  | k + 1 => by simp only [mCh]; rw [h, mCh_cg h p k]
theorem mGuard_cg {I I2 : aI} (h : ∀ o, o ≠ 85 → o ≠ 86 → I o = I2 o) (s : Nat) : mGuard I s = mGuard I2 s := by
  unfold mGuard mTog; simp only [h 84 (by decide) (by decide), h 49 (by decide) (by decide), h 50 (by decide) (by decide), h 51 (by decide) (by decide), h 45 (by decide) (by decide)]
theorem mFault_cg {I I2 : aI} (h : ∀ o, o ≠ 85 → o ≠ 86 → I o = I2 o) (n s : Nat) : mFault I n s = mFault I2 n s := by
  unfold mFault mNotListed mHidden mMay mTold mHid mPair; simp only [h 84 (by decide) (by decide), h 49 (by decide) (by decide), h 50 (by decide) (by decide), h 51 (by decide) (by decide), h 45 (by decide) (by decide), h 46 (by decide) (by decide), h 47 (by decide) (by decide), h 44 (by decide) (by decide), h 54 (by decide) (by decide), h 55 (by decide) (by decide), h 56 (by decide) (by decide)]
theorem mThere_fr {I I1 : aI} (h : ∀ o, o ≠ 83 → I1 o = I o) (s : Nat) : mThere I1 s ↔ ((0 ≤ I 49 s ∧ I 52 s = 0) ∨ (I 49 s < 0 ∧ 0 < I 51 s ∧ I 51 s = mCh I1 (iN I 50 s) 3)) := by
  unfold mThere iN; rw [h 49 (by decide), h 52 (by decide), h 51 (by decide), h 50 (by decide)]
theorem S84_put {I : aI} {k : Nat} {v : Int32} (hv : v = bI (decide (mThere I k))) (j : Nat) : (if j = k then v else S84 I k j) = S84 I (k + 1) j := by
  simp only [S84]; by_cases e : j = k
  · rw [if_pos e, if_pos (show j < k + 1 by omega), e, hv]
  · rw [if_neg e]; by_cases e2 : j < k
    · rw [if_pos e2, if_pos (show j < k + 1 by omega)]
    · rw [if_neg e2, if_neg (show ¬ j < k + 1 by omega)]
theorem S85_put {I : aI} {k : Nat} {v : Int32} (hv : v = if I 45 k < 7 then mGuard I k else -1) (j : Nat) : (if j = k then v else S85 I k j) = S85 I (k + 1) j := by
  simp only [S85]; by_cases e : j = k
  · rw [if_pos e, if_pos (show j < k + 1 by omega), e, hv]
  · rw [if_neg e]; by_cases e2 : j < k
    · rw [if_pos e2, if_pos (show j < k + 1 by omega)]
    · rw [if_neg e2, if_neg (show ¬ j < k + 1 by omega)]
theorem S86_put {I : aI} {n k : Nat} {v : Int32} (hv : v = if I 84 k ≠ 0 ∧ I 45 k < 7 then mFault I n k else 0) (j : Nat) : (if j = k then v else S86 I n k j) = S86 I n (k + 1) j := by
  simp only [S86]; by_cases e : j = k
  · rw [if_pos e, if_pos (show j < k + 1 by omega), e, hv]
  · rw [if_neg e]; by_cases e2 : j < k
    · rw [if_pos e2, if_pos (show j < k + 1 by omega)]
    · rw [if_neg e2, if_neg (show ¬ j < k + 1 by omega)]
theorem SW.fl6 {I : aI} {n s : Nat} (h : SW I n) (hs : s < n) (h0 : 0 ≤ I 49 s) : vp_in (I 49 s) 6 ∧ vp_in (10 * I 49 s + I 46 s) 60 := by
  rcases h.fl s hs with q | q
  · rw [q] at h0; exact absurd h0 (by decide)
  · obtain ⟨f1, f2⟩ := h.fd s hs
    have q1 : 0 ≤ (I 49 s).toInt := by have := q.1; rw [i_le] at this; exact this
    have q2 : (I 49 s).toInt ≤ 5 := by have := q.2; rw [i_le] at this; exact this
    refine ⟨vp_in_iff.mpr ⟨q1, by omega⟩, (vp_lin (c := 10) (X := 5) (Y := 9) q1 q2 ?_ ?_ (by decide) (by decide) (by decide)).1⟩
    · rw [f1, nI_toInt (by omega)]; omega
    · rw [f1, nI_toInt (by omega)]; omega
