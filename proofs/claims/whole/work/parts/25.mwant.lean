/-- a call that answers v of the store it leaves -/
def aRel (v : aI → aJ → Option Value) (Q : aI → aJ → Prop) (T : List aT) (R : aR) : aP := fun o T2 I2 J2 R2 => o = .inl (v I2 J2) ∧ T2 = T ∧ R2 = R ∧ Q I2 J2
theorem aRel_x {v : aI → aJ → Option Value} {Q : aI → aJ → Prop} {T0 : List aT} {X : aX} {c s pc : Nat} {L : List (Option Value)} {T : List aT} {R : aR} : ∀ (E : String) (T2 : List aT) (I2 : aI) (J2 : aJ) (R2 : aR), T0 <+: T2 → aRel v Q T R (.inr E) T2 I2 J2 R2 → AE X c s pc L E T2 I2 J2 R2 := fun _ _ _ _ _ _ h => nomatch h.1
theorem aRel_k {v : aI → aJ → Option Value} {Q : aI → aJ → Prop} {T0 : List aT} {X : aX} {c s pc : Nat} {L : List (Option Value)} {st : List Value} {T : List aT} {R : aR} (k : ∀ (I2 : aI) (J2 : aJ), Q I2 J2 → AW X c s pc L ((v I2 J2).toList ++ st) T I2 J2 R) : ∀ (v2 : Option Value) (T2 : List aT) (I2 : aI) (J2 : aJ) (R2 : aR), T0 <+: T2 → aRel v Q T R (.inl v2) T2 I2 J2 R2 → AW X c s pc L (v2.toList ++ st) T2 I2 J2 R2 := by
  rintro v2 T2 I2 J2 R2 - ⟨h, rfl, rfl, hQ⟩
  cases h
  exact k I2 J2 hQ
/-- the statements' rows are as they should be -/
abbrev SW (I : aI) (n : Nat) : Prop := (n ≤ 30) ∧ (I 44 0 = nI n) ∧ (NR I 45 n 13) ∧ (NR I 46 n 10) ∧ (NR I 47 n 64) ∧ (NR I 51 n 4) ∧ (NR I 53 3 4) ∧ (∀ s, s < n → iN I 45 s = 12 → iN I 46 s < 3 ∧ 1 ≤ iN I 47 s ∧ iN I 47 s ≤ 3) ∧ (∀ s, s < n → iN I 45 s = 5 ∨ iN I 45 s = 6 → iN I 47 s < 10) ∧ (∀ s, s < n → iN I 45 s = 1 ∨ iN I 45 s = 2 → I 48 s = nI (iN I 48 s) ∧ iN I 48 s < 64) ∧ (∀ s, s < n → I 49 s = -1 ∨ (0 ≤ I 49 s ∧ I 49 s ≤ 5)) ∧ (∀ s, s < n → I 49 s < 0 → I 50 s = nI (iN I 50 s) ∧ iN I 50 s < 3)
theorem SW.n30 {I : aI} {n : Nat} (h : SW I n) : n ≤ 30 := h.1
theorem SW.cnt {I : aI} {n : Nat} (h : SW I n) : I 44 0 = nI n := h.2.1
theorem SW.kd {I : aI} {n : Nat} (h : SW I n) : NR I 45 n 13 := h.2.2.1
theorem SW.fd {I : aI} {n : Nat} (h : SW I n) : NR I 46 n 10 := h.2.2.2.1
theorem SW.on {I : aI} {n : Nat} (h : SW I n) : NR I 47 n 64 := h.2.2.2.2.1
theorem SW.vs {I : aI} {n : Nat} (h : SW I n) : NR I 51 n 4 := h.2.2.2.2.2.1
theorem SW.vv {I : aI} {n : Nat} (h : SW I n) : NR I 53 3 4 := h.2.2.2.2.2.2.1
theorem SW.k12 {I : aI} {n : Nat} (h : SW I n) : ∀ s, s < n → iN I 45 s = 12 → iN I 46 s < 3 ∧ 1 ≤ iN I 47 s ∧ iN I 47 s ≤ 3 := h.2.2.2.2.2.2.2.1
theorem SW.k56 {I : aI} {n : Nat} (h : SW I n) : ∀ s, s < n → iN I 45 s = 5 ∨ iN I 45 s = 6 → iN I 47 s < 10 := h.2.2.2.2.2.2.2.2.1
theorem SW.tw {I : aI} {n : Nat} (h : SW I n) : ∀ s, s < n → iN I 45 s = 1 ∨ iN I 45 s = 2 → I 48 s = nI (iN I 48 s) ∧ iN I 48 s < 64 := h.2.2.2.2.2.2.2.2.2.1
theorem SW.fl {I : aI} {n : Nat} (h : SW I n) : ∀ s, s < n → I 49 s = -1 ∨ (0 ≤ I 49 s ∧ I 49 s ≤ 5) := h.2.2.2.2.2.2.2.2.2.2.1
theorem SW.pk {I : aI} {n : Nat} (h : SW I n) : ∀ s, s < n → I 49 s < 0 → I 50 s = nI (iN I 50 s) ∧ iN I 50 s < 3 := h.2.2.2.2.2.2.2.2.2.2.2
abbrev wantsW (I : aI) (W : Nat → Prop) (s : Nat) : Prop := ((0 ≤ I 49 s ∧ I 52 s = 0) ∨ (I 49 s < 0 ∧ 0 < I 51 s ∧ W (3 * I 50 s + I 51 s - 1).toNatClampNeg)) ∧ I 45 s = 12
def idxW (I : aI) (s : Nat) : Nat := 3 * iN I 46 s + min (iN I 53 (iN I 46 s)) (iN I 47 s) - 1
def ClosedW (I : aI) (n : Nat) (W : Nat → Prop) : Prop := ∀ s, s < n → wantsW I W s → 0 < iN I 53 (iN I 46 s) → W (idxW I s)
def cntF (f : Nat → Int32) : Nat → Nat
  | 0 => 0
  | k + 1 => cntF f k + if f k = 0 then 1 else 0
theorem cntF_put {f : Nat → Int32} {j : Nat} (h0 : f j = 0) : ∀ {n : Nat}, j < n → cntF (fun i => if i = j then 1 else f i) n < cntF f n
  | 0, h => absurd h (by omega)
  | n + 1, h => by
    have le : ∀ m, cntF (fun i => if i = j then 1 else f i) m ≤ cntF f m := fun m => by
      induction m with
      | zero => exact Nat.le_refl _
      | succ m ih =>
        simp only [cntF]
        have q : (if (if m = j then (1 : Int32) else f m) = 0 then 1 else 0) ≤ (if f m = 0 then 1 else 0) := by by_cases e : m = j <;> simp [e]
        exact Nat.add_le_add ih q
    simp only [cntF]
    by_cases e : n = j
    · subst e; have := le n; simp [h0]; omega
    · have := cntF_put h0 (n := n) (by omega); simp [e]; exact this
abbrev LW (I I1 I2 : aI) (n k : Nat) (gs : Int32) : Prop := (∀ o, o ≠ 83 → I2 o = I o) ∧ (∀ W : Nat → Prop, ClosedW I n W → ∀ j, j < 9 → I2 83 j ≠ 0 → W j) ∧ ((gs = 0 ∧ I2 = I1 ∧ ∀ s, s < k → wantsW I (fun j => I2 83 j ≠ 0) s → 0 < iN I 53 (iN I 46 s) → I2 83 (idxW I s) ≠ 0) ∨ (gs = 1 ∧ cntF (I2 83) 9 < cntF (I1 83) 9))
theorem LW.fr {I I1 I2 : aI} {n k : Nat} {gs : Int32} (h : LW I I1 I2 n k gs) : ∀ o, o ≠ 83 → I2 o = I o := h.1
theorem LW.snd {I I1 I2 : aI} {n k : Nat} {gs : Int32} (h : LW I I1 I2 n k gs) : ∀ W : Nat → Prop, ClosedW I n W → ∀ j, j < 9 → I2 83 j ≠ 0 → W j := h.2.1
theorem LW.c {I I1 I2 : aI} {n k : Nat} {gs : Int32} (h : LW I I1 I2 n k gs) : (gs = 0 ∧ I2 = I1 ∧ ∀ s, s < k → wantsW I (fun j => I2 83 j ≠ 0) s → 0 < iN I 53 (iN I 46 s) → I2 83 (idxW I s) ≠ 0) ∨ (gs = 1 ∧ cntF (I2 83) 9 < cntF (I1 83) 9) := h.2.2
theorem wantsW_fr {I I2 : aI} (h : ∀ o, o ≠ 83 → I2 o = I o) (s : Nat) : mWants I2 s ↔ wantsW I (fun j => I2 83 j ≠ 0) s := by
  unfold mWants wantsW; rw [h 49 (by decide), h 52 (by decide), h 51 (by decide), h 50 (by decide), h 45 (by decide)]
theorem ix9 {p v : Nat} (hp : p < 3) (h0 : 0 < v) (hv : v < 4) : (3 * nI p + nI v - 1 : Int32) = nI (3 * p + v - 1) := by
  rw [show (3 : Int32) = nI 3 from rfl, pk_mul, nI_add, show (1 : Int32) = nI 1 from rfl, pk_sub (by omega)]
theorem SW.ix {I : aI} {n s : Nat} (h : SW I n) (hs : s < n) (h1 : I 49 s < 0) (h2 : 0 < I 51 s) : vp_in (3 * I 50 s + I 51 s - 1) 9 := by
  obtain ⟨p1, p2⟩ := h.pk s hs h1
  obtain ⟨v1, v2⟩ := h.vs s hs
  rw [v1] at h2
  have h3 : 0 < iN I 51 s := (nI_ltI (a := 0) (by decide) (by omega)).mp h2
  rw [p1, v1, ix9 p2 h3 v2]
  exact vp_in_nI (by omega) (by decide)
theorem LW.skip {I I1 I2 : aI} {n k : Nat} {gs : Int32} (h : LW I I1 I2 n k gs) (ok : wantsW I (fun j => I2 83 j ≠ 0) k → 0 < iN I 53 (iN I 46 k) → I2 83 (idxW I k) ≠ 0) : LW I I1 I2 n (k + 1) gs := by
  refine ⟨h.fr, h.snd, h.c.imp (fun q => ⟨q.1, q.2.1, fun s hs => ?_⟩) id⟩
  by_cases e : s = k
  · subst e; exact ok
  · exact q.2.2 s (by omega)
theorem LW.put {I I1 I2 : aI} {n k j : Nat} {gs : Int32} (hS : SW I n) (h : LW I I1 I2 n k gs) (hk : k < n) (hw : mWants I2 k) (hv : 0 < iN I 53 (iN I 46 k)) (hj : idxW I k = j) (hj9 : j < 9) (h0 : I2 83 j = 0) : LW I I1 (a_u I2 83 j 1) n (k + 1) 1 := by
  have e83 : a_u I2 83 j 1 83 = fun i => if i = j then 1 else I2 83 i := by funext b; simp [a_u]
  refine ⟨fun o ho => by rw [a_u_row ho]; exact h.fr o ho, fun W hW i hi hne => ?_, Or.inr ⟨rfl, ?_⟩⟩
  · rw [e83] at hne
    by_cases e : i = j
    · subst e; rw [← hj]
      refine hW k hk ?_ hv
      have hw2 := (wantsW_fr h.fr k).mp hw
      refine ⟨hw2.1.imp id (fun q => ⟨q.1, q.2.1, ?_⟩), hw2.2⟩
      have hx := hS.ix hk q.1 q.2.1
      obtain ⟨m, m1, m2⟩ := vp_in_of hx (by decide)
      refine h.snd W hW _ ?_ q.2.2
      rw [m2, nI_clamp (by omega)]; exact m1
    · simp only [if_neg e] at hne; exact h.snd W hW i hi hne
  · rw [e83]
    have h1 := cntF_put h0 hj9
    rcases h.c with q | q
    · rw [← q.2.1]; exact h1
    · exact Nat.lt_trans h1 q.2
theorem cntF_le (f : Nat → Int32) : ∀ n, cntF f n ≤ n
  | 0 => Nat.le_refl _
  | n + 1 => by have := cntF_le f n; simp only [cntF]; split <;> omega
abbrev Least (I I1 : aI) (n : Nat) : Prop := (∀ o, o ≠ 83 → I1 o = I o) ∧ (∀ W : Nat → Prop, ClosedW I n W → ∀ j, j < 9 → I1 83 j ≠ 0 → W j) ∧ ClosedW I n (fun j => I1 83 j ≠ 0)
theorem mWants_ix {I I2 : aI} {n k : Nat} (hS : SW I n) (fr : ∀ o, o ≠ 83 → I2 o = I o) (hk : k < n) : I2 49 k < 0 → 0 < I2 51 k → vp_in (3 * I2 50 k + I2 51 k - 1) 9 := by
  rw [fr 49 (by decide), fr 51 (by decide), fr 50 (by decide)]; exact hS.ix hk
theorem k12_of {I I2 : aI} {n k : Nat} (hS : SW I n) (fr : ∀ o, o ≠ 83 → I2 o = I o) (hk : k < n) (h : mWants I2 k) : iN I 46 k < 3 ∧ 1 ≤ iN I 47 k ∧ iN I 47 k ≤ 3 ∧ iN I 46 k < 10 ∧ iN I 53 (iN I 46 k) < 4 := by
  have h2 := h.2
  rw [fr 45 (by decide)] at h2
  have h3 := (hS.k12 k hk (by rw [iN, h2]; rfl))
  exact ⟨h3.1, h3.2.1, h3.2.2, (hS.fd k hk).2, (hS.vv _ h3.1).2⟩
abbrev mThere (I : aI) (s : Nat) : Prop := (0 ≤ I 49 s ∧ I 52 s = 0) ∨ (I 49 s < 0 ∧ 0 < I 51 s ∧ I 51 s = mCh I (iN I 50 s) 3)
abbrev S84 (I : aI) (k : Nat) : Nat → Int32 := fun j => if j < k then bI (decide (mThere I j)) else I 84 j
abbrev S85 (I : aI) (k : Nat) : Nat → Int32 := fun j => if j < k then (if I 45 j < 7 then mGuard I j else -1) else I 85 j
abbrev S86 (I : aI) (n k : Nat) : Nat → Int32 := fun j => if j < k then (if I 84 j ≠ 0 ∧ I 45 j < 7 then mFault I n j else 0) else I 86 j
theorem mCh_cg {I I2 : aI} (h : I 83 = I2 83) (p : Nat) : ∀ k, mCh I p k = mCh I2 p k
  | 0 => rfl
  | k + 1 => by simp only [mCh]; rw [h, mCh_cg h p k]
theorem mGuard_cg {I I2 : aI} (h : ∀ o, o ≠ 85 → o ≠ 86 → I o = I2 o) (s : Nat) : mGuard I s = mGuard I2 s := by
  unfold mGuard mTog; simp only [h 84 (by decide) (by decide), h 49 (by decide) (by decide), h 50 (by decide) (by decide), h 51 (by decide) (by decide), h 45 (by decide) (by decide)]
theorem mFault_cg {I I2 : aI} (h : ∀ o, o ≠ 85 → o ≠ 86 → I o = I2 o) (n s : Nat) : mFault I n s = mFault I2 n s := by
  unfold mFault mNotListed mHidden mMay mTold mHid mPair; simp only [h 84 (by decide) (by decide), h 49 (by decide) (by decide), h 50 (by decide) (by decide), h 51 (by decide) (by decide), h 45 (by decide) (by decide), h 46 (by decide) (by decide), h 47 (by decide) (by decide), h 44 (by decide) (by decide), h 54 (by decide) (by decide), h 55 (by decide) (by decide), h 56 (by decide) (by decide)]
theorem mThere_fr {I I1 : aI} (h : ∀ o, o ≠ 83 → I1 o = I o) (s : Nat) : mThere I1 s ↔ ((0 ≤ I 49 s ∧ I 52 s = 0) ∨ (I 49 s < 0 ∧ 0 < I 51 s ∧ I 51 s = mCh I1 (iN I 50 s) 3)) := by
  unfold mThere iN; rw [h 49 (by decide), h 52 (by decide), h 51 (by decide), h 50 (by decide)]
theorem S84_put {I : aI} {k : Nat} {v : Int32} (hv : v = bI (decide (mThere I k))) (j : Nat) : (if j = k then v else S84 I k j) = S84 I (k + 1) j := by
  simp only [S84]; by_cases e : j = k
  · rw [if_pos e, if_pos (show j < k + 1 by omega), e, hv]
  · rw [if_neg e]; by_cases e2 : j < k
    · rw [if_pos e2, if_pos (show j < k + 1 by omega)]
    · rw [if_neg e2, if_neg (show ¬ j < k + 1 by omega)]
theorem S85_put {I : aI} {k : Nat} {v : Int32} (hv : v = if I 45 k < 7 then mGuard I k else -1) (j : Nat) : (if j = k then v else S85 I k j) = S85 I (k + 1) j := by
  simp only [S85]; by_cases e : j = k
  · rw [if_pos e, if_pos (show j < k + 1 by omega), e, hv]
  · rw [if_neg e]; by_cases e2 : j < k
    · rw [if_pos e2, if_pos (show j < k + 1 by omega)]
    · rw [if_neg e2, if_neg (show ¬ j < k + 1 by omega)]
theorem S86_put {I : aI} {n k : Nat} {v : Int32} (hv : v = if I 84 k ≠ 0 ∧ I 45 k < 7 then mFault I n k else 0) (j : Nat) : (if j = k then v else S86 I n k j) = S86 I n (k + 1) j := by
  simp only [S86]; by_cases e : j = k
  · rw [if_pos e, if_pos (show j < k + 1 by omega), e, hv]
  · rw [if_neg e]; by_cases e2 : j < k
    · rw [if_pos e2, if_pos (show j < k + 1 by omega)]
    · rw [if_neg e2, if_neg (show ¬ j < k + 1 by omega)]
theorem SW.fl6 {I : aI} {n s : Nat} (h : SW I n) (hs : s < n) (h0 : 0 ≤ I 49 s) : vp_in (I 49 s) 6 ∧ vp_in (10 * I 49 s + I 46 s) 60 := by
  rcases h.fl s hs with q | q
  · rw [q] at h0; exact absurd h0 (by decide)
  · obtain ⟨f1, f2⟩ := h.fd s hs
    have q1 : 0 ≤ (I 49 s).toInt := by have := q.1; rw [i_le] at this; exact this
    have q2 : (I 49 s).toInt ≤ 5 := by have := q.2; rw [i_le] at this; exact this
    refine ⟨vp_in_iff.mpr ⟨q1, by omega⟩, (vp_lin (c := 10) (X := 5) (Y := 9) q1 q2 ?_ ?_ (by decide) (by decide) (by decide)).1⟩
    · rw [f1, nI_toInt (by omega)]; omega
    · rw [f1, nI_toInt (by omega)]; omega
set_option maxRecDepth 100000 in
theorem m_X12_lays {T : List aT} {I : aI} {J : aJ} {R : aR} (hT : aPT T) (hR : aPR R) {n : Nat} (hS : SW I n) : MX12_lays 0 0 [.ref 44] T I J R (aRel (fun _ _ => none) (fun I2 J2 => J2 = J ∧ ∃ I1, Least I I1 n ∧ I2 = a_ur (a_ur (a_ur I1 84 (S84 I1 n)) 85 (S85 (a_ur I1 84 (S84 I1 n)) n)) 86 (S86 (a_ur I1 84 (S84 I1 n)) n n)) T R) := by
  refine a_met (by decide +kernel) a_le (fun X hC hq => ?_)
  show AW X 0 0 0 [some (.ref 44), none, none, none, none] [] T I J R
  refine aw_iconst (v := 0) hC dX12_lays_0 (by decide) ?_
  refine aw_istore_n (L2 := [some (.ref 44), some (.int 0), none, none, none]) hC dX12_lays_1 rfl (by decide) rfl ?_
  rw [show I = a_ur I 83 (fun j => if j < 0 then 0 else I 83 j) from (a_ur_id (fun j => by rw [if_neg (by omega)])).symm]
  have loop0 : ∀ k, k ≤ 9 → AW X 0 0 2 [some (.ref 44), some (.int (nI k)), none, none, none] [] T (a_ur I 83 (fun j => if j < k then 0 else I 83 j)) J R := by
    refine a_down 9 (fun k hk0 ih0 => ?_)
    refine aw_iload_n hC dX12_lays_2 rfl ?_
    refine aw_bipush (v := 9) hC dX12_lays_3 (by decide) ?_
    refine aw_icmp_ge (tgt := 21) hC dX12_lays_5 (by decide) (fun h1 => ?_) (fun h1 => ?_)
    · show AW X 0 0 21 [some (.ref 44), some (.int (nI k)), none, none, none] [] T (a_ur I 83 (fun j => if j < k then 0 else I 83 j)) J R
      have h1n : 9 ≤ k := (nI_leI (a := 9) (b := k) (by omega) (by omega)).mp h1
      refine aw_iconst (v := 1) hC dX12_lays_21 (by decide) ?_
      refine aw_istore_n (L2 := [some (.ref 44), some (.int 1), none, none, none]) hC dX12_lays_22 rfl (by decide) rfl ?_
      have hexit : ∀ I1 : aI, Least I I1 n → AW X 0 0 140 [some (.ref 44), none, none, none, none] [] T I1 J R := by
        intro I1 hL1
        refine aw_iconst (v := 0) hC dX12_lays_140 (by decide) ?_
        refine aw_istore_n (L2 := [some (.ref 44), none, some (.int 0), none, none]) hC dX12_lays_141 rfl (by decide) rfl ?_
        rw [show I1 = a_ur I1 84 (S84 I1 0) from (a_ur_id (fun j => by simp only [S84]; rw [if_neg (by omega)])).symm]
        have loop1 : ∀ k, k ≤ n → AW X 0 0 142 [some (.ref 44), none, some (.int (nI k)), none, none] [] T (a_ur I1 84 (S84 I1 k)) J R := by
          refine a_down n (fun k hk1 ih1 => ?_)
          refine aw_iload_n hC dX12_lays_142 rfl ?_
          refine aw_aload_n hC dX12_lays_143 rfl ?_
          refine aw_getI hC dX12_lays_144 aF_X12_183 rfl (tg_44 hT) ?_
          rw [a_ur_ne (f := I1) (o := 84) (a := 44) (g := S84 I1 k) (by decide)]
          rw [hL1.1 44 (by decide)]
          rw [hS.cnt]
          refine aw_icmp_ge (tgt := 221) hC dX12_lays_147 (by decide) (fun h2 => ?_) (fun h2 => ?_)
          · show AW X 0 0 221 [some (.ref 44), none, some (.int (nI k)), none, none] [] T (a_ur I1 84 (S84 I1 k)) J R
            have h2n : n ≤ k := (nI_leI (a := n) (b := k) (by omega) (by omega)).mp h2
            refine aw_iconst (v := 0) hC dX12_lays_221 (by decide) ?_
            refine aw_istore_n (L2 := [some (.ref 44), none, some (.int 0), none, none]) hC dX12_lays_222 rfl (by decide) rfl ?_
            rw [show k = n from by omega]
            obtain ⟨I3, hI3⟩ : ∃ I3, I3 = a_ur I1 84 (S84 I1 n) := ⟨_, rfl⟩
            rw [← hI3]
            have hfr3 : ∀ o, o ≠ 83 ∧ o ≠ 84 → I3 o = I o := fun o ho => by rw [hI3, a_ur_ne ho.2]; exact hL1.1 o ho.1
            rw [show I3 = a_ur (a_ur I3 85 (S85 I3 0)) 86 (S86 I3 n 0) from by rw [a_ur_id (f := I3) (o := 85) (fun j => by simp only [S85]; rw [if_neg (by omega)]), a_ur_id (f := I3) (o := 86) (fun j => by simp only [S86]; rw [if_neg (by omega)])]]
            have loop2 : ∀ k2, k2 ≤ n → AW X 0 0 223 [some (.ref 44), none, some (.int (nI k2)), none, none] [] T (a_ur (a_ur I3 85 (S85 I3 k2)) 86 (S86 I3 n k2)) J R := by
              refine a_down n (fun k2 hk2 ih2 => ?_)
              refine aw_iload_n hC dX12_lays_223 rfl ?_
              refine aw_aload_n hC dX12_lays_224 rfl ?_
              refine aw_getI hC dX12_lays_225 aF_X12_183 rfl (tg_44 hT) ?_
              rw [a_ur_ne (f := a_ur I3 85 (S85 I3 k2)) (o := 86) (a := 44) (g := S86 I3 n k2) (by decide)]
              rw [a_ur_ne (f := I3) (o := 85) (a := 44) (g := S85 I3 k2) (by decide)]
              rw [hfr3 44 (by decide)]
              rw [hS.cnt]
              refine aw_icmp_ge (tgt := 298) hC dX12_lays_228 (by decide) (fun h3 => ?_) (fun h3 => ?_)
              · show AW X 0 0 298 [some (.ref 44), none, some (.int (nI k2)), none, none] [] T (a_ur (a_ur I3 85 (S85 I3 k2)) 86 (S86 I3 n k2)) J R
                have h3n : n ≤ k2 := (nI_leI (a := n) (b := k2) (by omega) (by omega)).mp h3
                exact aw_return hC hq rfl dX12_lays_298 a_le a_le ⟨rfl, rfl, rfl, rfl, I1, hL1, by rw [show k2 = n from by omega, hI3]⟩
              · show AW X 0 0 231 [some (.ref 44), none, some (.int (nI k2)), none, none] [] T (a_ur (a_ur I3 85 (S85 I3 k2)) 86 (S86 I3 n k2)) J R
                have h3n : ¬ n ≤ k2 := fun q9 => h3 ((nI_leI (a := n) (b := k2) (by omega) (by omega)).mpr q9)
                refine aw_aload_n hC dX12_lays_231 rfl ?_
                refine aw_getR hC dX12_lays_232 aF_X12_138 rfl (tg_44 hT) (pr_44_50 hR) ?_
                refine aw_iload_n hC dX12_lays_235 rfl ?_
                refine aw_aload_n hC dX12_lays_236 rfl ?_
                refine aw_getR hC dX12_lays_237 aF_X12_7 rfl (tg_44 hT) (pr_44_1 hR) ?_
                refine aw_iload_n hC dX12_lays_240 rfl ?_
                refine aw_iaload_k (j := k2) hC dX12_lays_241 (tg_45 hT) (nI_clamp (by omega)) (vp_in_nI (by omega) (by decide)) ?_
                rw [a_ur_ne (f := a_ur I3 85 (S85 I3 k2)) (o := 86) (a := 45) (g := S86 I3 n k2) (by decide)]
                rw [a_ur_ne (f := I3) (o := 85) (a := 45) (g := S85 I3 k2) (by decide)]
                rw [hfr3 45 (by decide)]
                have hb4 := hS.kd k2 (by omega)
                rw [hb4.1]
                refine aw_bipush (v := 7) hC dX12_lays_242 (by decide) ?_
                refine aw_icmp_ge (tgt := 255) hC dX12_lays_244 (by decide) (fun h5 => ?_) (fun h5 => ?_)
                · show AW X 0 0 255 [some (.ref 44), none, some (.int (nI k2)), none, none] [.int (nI k2), .ref 85] T (a_ur (a_ur I3 85 (S85 I3 k2)) 86 (S86 I3 n k2)) J R
                  have h5n : 7 ≤ (iN I 45 k2) := (nI_leI (a := 7) (b := (iN I 45 k2)) (by omega) (by omega)).mp h5
                  refine aw_iconst (v := (-1)) hC dX12_lays_255 (by decide) ?_
                  refine aw_iastore_k (j := k2) hC dX12_lays_256 (tg_85 hT) (nI_clamp (by omega)) (vp_in_nI (by omega) (by decide)) ?_
                  rw [show a_u (a_ur (a_ur I3 85 (S85 I3 k2)) 86 (S86 I3 n k2)) 85 k2 (-1) = a_ur (a_ur I3 85 (fun j => if j = k2 then (-1) else (S85 I3 k2) j)) 86 (S86 I3 n k2) from by rw [a_u_swap (by first | decide | omega), a_ur_put]]
                  refine aw_aload_n hC dX12_lays_257 rfl ?_
                  refine aw_getR hC dX12_lays_258 aF_X12_141 rfl (tg_44 hT) (pr_44_51 hR) ?_
                  refine aw_iload_n hC dX12_lays_261 rfl ?_
                  refine aw_aload_n hC dX12_lays_262 rfl ?_
                  refine aw_getR hC dX12_lays_263 aF_X12_135 rfl (tg_44 hT) (pr_44_49 hR) ?_
                  refine aw_iload_n hC dX12_lays_266 rfl ?_
                  refine aw_baload_k (j := k2) hC dX12_lays_267 (tg_84 hT) (nI_clamp (by omega)) (vp_in_nI (by omega) (by decide)) ?_
                  rw [a_ur_ne (f := a_ur I3 85 (fun j => if j = k2 then (-1) else (S85 I3 k2) j)) (o := 86) (a := 84) (g := S86 I3 n k2) (by decide)]
                  rw [a_ur_ne (f := I3) (o := 85) (a := 84) (g := fun j => if j = k2 then (-1) else (S85 I3 k2) j) (by decide)]
                  refine aw_if_eq (tgt := 290) hC dX12_lays_268 (by decide) (fun h6 => ?_) (fun h6 => ?_)
                  · show AW X 0 0 290 [some (.ref 44), none, some (.int (nI k2)), none, none] [.int (nI k2), .ref 86] T (a_ur (a_ur I3 85 (fun j => if j = k2 then (-1) else (S85 I3 k2) j)) 86 (S86 I3 n k2)) J R
                    refine aw_iconst (v := 0) hC dX12_lays_290 (by decide) ?_
                    refine aw_iastore_k (j := k2) hC dX12_lays_291 (tg_86 hT) (nI_clamp (by omega)) (vp_in_nI (by omega) (by decide)) ?_
                    rw [show a_u (a_ur (a_ur I3 85 (fun j => if j = k2 then (-1) else (S85 I3 k2) j)) 86 (S86 I3 n k2)) 86 k2 0 = a_ur (a_ur I3 85 (fun j => if j = k2 then (-1) else (S85 I3 k2) j)) 86 (fun j => if j = k2 then 0 else (S86 I3 n k2) j) from by rw [a_ur_put]]
                    refine aw_iinc (v := nI (k2 + 1)) (L2 := [some (.ref 44), none, some (.int (nI (k2 + 1))), none, none]) hC dX12_lays_292 rfl (nI_inc _) (by decide) rfl ?_
                    refine aw_goto (tgt := 223) hC dX12_lays_295 (by decide) ?_
                    rw [show a_ur (a_ur I3 85 (fun j => if j = k2 then (-1) else (S85 I3 k2) j)) 86 (fun j => if j = k2 then 0 else (S86 I3 n k2) j) = a_ur (a_ur I3 85 (S85 I3 (k2 + 1))) 86 (S86 I3 n (k2 + 1)) from a_ur_cg (a_ur_ext (S85_put (by clear hC hq; rw [show I3 45 = I 45 from hfr3 45 (by decide), (hS.kd k2 (by omega)).1]; grind))) (S86_put (by clear hC hq; rw [show I3 45 = I 45 from hfr3 45 (by decide), (hS.kd k2 (by omega)).1]; grind))]
                    exact ih2 (by omega)
                  · show AW X 0 0 271 [some (.ref 44), none, some (.int (nI k2)), none, none] [.int (nI k2), .ref 86] T (a_ur (a_ur I3 85 (fun j => if j = k2 then (-1) else (S85 I3 k2) j)) 86 (S86 I3 n k2)) J R
                    refine aw_aload_n hC dX12_lays_271 rfl ?_
                    refine aw_getR hC dX12_lays_272 aF_X12_7 rfl (tg_44 hT) (pr_44_1 hR) ?_
                    refine aw_iload_n hC dX12_lays_275 rfl ?_
                    refine aw_iaload_k (j := k2) hC dX12_lays_276 (tg_45 hT) (nI_clamp (by omega)) (vp_in_nI (by omega) (by decide)) ?_
                    rw [a_ur_ne (f := a_ur I3 85 (fun j => if j = k2 then (-1) else (S85 I3 k2) j)) (o := 86) (a := 45) (g := S86 I3 n k2) (by decide)]
                    rw [a_ur_ne (f := I3) (o := 85) (a := 45) (g := fun j => if j = k2 then (-1) else (S85 I3 k2) j) (by decide)]
                    rw [hfr3 45 (by decide)]
                    have hb7 := hS.kd k2 (by omega)
                    rw [hb7.1]
                    refine aw_bipush (v := 7) hC dX12_lays_277 (by decide) ?_
                    refine aw_icmp_ge (tgt := 290) hC dX12_lays_279 (by decide) (fun h8 => ?_) (fun h8 => ?_)
                    · show AW X 0 0 290 [some (.ref 44), none, some (.int (nI k2)), none, none] [.int (nI k2), .ref 86] T (a_ur (a_ur I3 85 (fun j => if j = k2 then (-1) else (S85 I3 k2) j)) 86 (S86 I3 n k2)) J R
                      have h8n : 7 ≤ (iN I 45 k2) := (nI_leI (a := 7) (b := (iN I 45 k2)) (by omega) (by omega)).mp h8
                      refine aw_iconst (v := 0) hC dX12_lays_290 (by decide) ?_
                      refine aw_iastore_k (j := k2) hC dX12_lays_291 (tg_86 hT) (nI_clamp (by omega)) (vp_in_nI (by omega) (by decide)) ?_
                      rw [show a_u (a_ur (a_ur I3 85 (fun j => if j = k2 then (-1) else (S85 I3 k2) j)) 86 (S86 I3 n k2)) 86 k2 0 = a_ur (a_ur I3 85 (fun j => if j = k2 then (-1) else (S85 I3 k2) j)) 86 (fun j => if j = k2 then 0 else (S86 I3 n k2) j) from by rw [a_ur_put]]
                      refine aw_iinc (v := nI (k2 + 1)) (L2 := [some (.ref 44), none, some (.int (nI (k2 + 1))), none, none]) hC dX12_lays_292 rfl (nI_inc _) (by decide) rfl ?_
                      refine aw_goto (tgt := 223) hC dX12_lays_295 (by decide) ?_
                      rw [show a_ur (a_ur I3 85 (fun j => if j = k2 then (-1) else (S85 I3 k2) j)) 86 (fun j => if j = k2 then 0 else (S86 I3 n k2) j) = a_ur (a_ur I3 85 (S85 I3 (k2 + 1))) 86 (S86 I3 n (k2 + 1)) from a_ur_cg (a_ur_ext (S85_put (by clear hC hq; rw [show I3 45 = I 45 from hfr3 45 (by decide), (hS.kd k2 (by omega)).1]; grind))) (S86_put (by clear hC hq; rw [show I3 45 = I 45 from hfr3 45 (by decide), (hS.kd k2 (by omega)).1]; grind))]
                      exact ih2 (by omega)
                    · show AW X 0 0 282 [some (.ref 44), none, some (.int (nI k2)), none, none] [.int (nI k2), .ref 86] T (a_ur (a_ur I3 85 (fun j => if j = k2 then (-1) else (S85 I3 k2) j)) 86 (S86 I3 n k2)) J R
                      have h8n : ¬ 7 ≤ (iN I 45 k2) := fun q9 => h8 ((nI_leI (a := 7) (b := (iN I 45 k2)) (by omega) (by omega)).mpr q9)
                      refine aw_aload_n hC dX12_lays_282 rfl ?_
                      refine aw_iload_n hC dX12_lays_283 rfl ?_
                      have hst : ∀ o, o ≠ 83 → o ≠ 84 → o ≠ 85 → o ≠ 86 → (a_ur (a_ur I3 85 (fun j => if j = k2 then (-1) else (S85 I3 k2) j)) 86 (S86 I3 n k2)) o = I o := fun o h1 h2 h3 h4 => by rw [a_ur_ne h4, a_ur_ne h3]; exact hfr3 o ⟨h1, h2⟩
                      refine kX12_209 hC rfl (m_X12_faults hT hR (n := n) (s := k2) (by rw [hst 44 (by decide) (by decide) (by decide) (by decide)]; exact hS.cnt) hS.n30 (by omega) (by rw [hst 46 (by decide) (by decide) (by decide) (by decide), (hS.fd k2 (by omega)).1]; exact vp_in_nI (hS.fd k2 (by omega)).2 (by decide)) (by rw [hst 49 (by decide) (by decide) (by decide) (by decide), hst 46 (by decide) (by decide) (by decide) (by decide)]; exact hS.fl6 (by omega))) dX12_lays_284 (tg_44 hT) rfl a_le a_le a_le a_le a_le rfl aPure_x (aPure_k ?_)
                      show AW X 0 0 287 [some (.ref 44), none, some (.int (nI k2)), none, none] [.int (mFault (a_ur (a_ur I3 85 (fun j => if j = k2 then (-1) else (S85 I3 k2) j)) 86 (S86 I3 n k2)) n k2), .int (nI k2), .ref 86] T (a_ur (a_ur I3 85 (fun j => if j = k2 then (-1) else (S85 I3 k2) j)) 86 (S86 I3 n k2)) J R
                      rw [mFault_cg (I := a_ur (a_ur I3 85 (fun j => if j = k2 then (-1) else (S85 I3 k2) j)) 86 (S86 I3 n k2)) (I2 := I3) (fun o h1 h2 => by rw [a_ur_ne h2, a_ur_ne h1])]
                      refine aw_goto (tgt := 291) hC dX12_lays_287 (by decide) ?_
                      refine aw_iastore_k (j := k2) hC dX12_lays_291 (tg_86 hT) (nI_clamp (by omega)) (vp_in_nI (by omega) (by decide)) ?_
                      rw [show a_u (a_ur (a_ur I3 85 (fun j => if j = k2 then (-1) else (S85 I3 k2) j)) 86 (S86 I3 n k2)) 86 k2 (mFault I3 n k2) = a_ur (a_ur I3 85 (fun j => if j = k2 then (-1) else (S85 I3 k2) j)) 86 (fun j => if j = k2 then mFault I3 n k2 else (S86 I3 n k2) j) from by rw [a_ur_put]]
                      refine aw_iinc (v := nI (k2 + 1)) (L2 := [some (.ref 44), none, some (.int (nI (k2 + 1))), none, none]) hC dX12_lays_292 rfl (nI_inc _) (by decide) rfl ?_
                      refine aw_goto (tgt := 223) hC dX12_lays_295 (by decide) ?_
                      rw [show a_ur (a_ur I3 85 (fun j => if j = k2 then (-1) else (S85 I3 k2) j)) 86 (fun j => if j = k2 then mFault I3 n k2 else (S86 I3 n k2) j) = a_ur (a_ur I3 85 (S85 I3 (k2 + 1))) 86 (S86 I3 n (k2 + 1)) from a_ur_cg (a_ur_ext (S85_put (by clear hC hq; rw [show I3 45 = I 45 from hfr3 45 (by decide), (hS.kd k2 (by omega)).1]; grind))) (S86_put (by clear hC hq; rw [show I3 45 = I 45 from hfr3 45 (by decide), (hS.kd k2 (by omega)).1]; grind))]
                      exact ih2 (by omega)
                · show AW X 0 0 247 [some (.ref 44), none, some (.int (nI k2)), none, none] [.int (nI k2), .ref 85] T (a_ur (a_ur I3 85 (S85 I3 k2)) 86 (S86 I3 n k2)) J R
                  have h5n : ¬ 7 ≤ (iN I 45 k2) := fun q9 => h5 ((nI_leI (a := 7) (b := (iN I 45 k2)) (by omega) (by omega)).mpr q9)
                  refine aw_aload_n hC dX12_lays_247 rfl ?_
                  refine aw_iload_n hC dX12_lays_248 rfl ?_
                  refine kX12_206 hC rfl (m_X12_guards hT hR (s := k2) (by have := hS.n30; omega)) dX12_lays_249 (tg_44 hT) rfl a_le a_le a_le a_le a_le rfl aPure_x (aPure_k ?_)
                  show AW X 0 0 252 [some (.ref 44), none, some (.int (nI k2)), none, none] [.int (mGuard (a_ur (a_ur I3 85 (S85 I3 k2)) 86 (S86 I3 n k2)) k2), .int (nI k2), .ref 85] T (a_ur (a_ur I3 85 (S85 I3 k2)) 86 (S86 I3 n k2)) J R
                  rw [mGuard_cg (I := a_ur (a_ur I3 85 (S85 I3 k2)) 86 (S86 I3 n k2)) (I2 := I3) (fun o h1 h2 => by rw [a_ur_ne h2, a_ur_ne h1])]
                  refine aw_goto (tgt := 256) hC dX12_lays_252 (by decide) ?_
                  refine aw_iastore_k (j := k2) hC dX12_lays_256 (tg_85 hT) (nI_clamp (by omega)) (vp_in_nI (by omega) (by decide)) ?_
                  rw [show a_u (a_ur (a_ur I3 85 (S85 I3 k2)) 86 (S86 I3 n k2)) 85 k2 (mGuard I3 k2) = a_ur (a_ur I3 85 (fun j => if j = k2 then mGuard I3 k2 else (S85 I3 k2) j)) 86 (S86 I3 n k2) from by rw [a_u_swap (by first | decide | omega), a_ur_put]]
                  refine aw_aload_n hC dX12_lays_257 rfl ?_
                  refine aw_getR hC dX12_lays_258 aF_X12_141 rfl (tg_44 hT) (pr_44_51 hR) ?_
                  refine aw_iload_n hC dX12_lays_261 rfl ?_
                  refine aw_aload_n hC dX12_lays_262 rfl ?_
                  refine aw_getR hC dX12_lays_263 aF_X12_135 rfl (tg_44 hT) (pr_44_49 hR) ?_
                  refine aw_iload_n hC dX12_lays_266 rfl ?_
                  refine aw_baload_k (j := k2) hC dX12_lays_267 (tg_84 hT) (nI_clamp (by omega)) (vp_in_nI (by omega) (by decide)) ?_
                  rw [a_ur_ne (f := a_ur I3 85 (fun j => if j = k2 then mGuard I3 k2 else (S85 I3 k2) j)) (o := 86) (a := 84) (g := S86 I3 n k2) (by decide)]
                  rw [a_ur_ne (f := I3) (o := 85) (a := 84) (g := fun j => if j = k2 then mGuard I3 k2 else (S85 I3 k2) j) (by decide)]
                  refine aw_if_eq (tgt := 290) hC dX12_lays_268 (by decide) (fun h9 => ?_) (fun h9 => ?_)
                  · show AW X 0 0 290 [some (.ref 44), none, some (.int (nI k2)), none, none] [.int (nI k2), .ref 86] T (a_ur (a_ur I3 85 (fun j => if j = k2 then mGuard I3 k2 else (S85 I3 k2) j)) 86 (S86 I3 n k2)) J R
                    refine aw_iconst (v := 0) hC dX12_lays_290 (by decide) ?_
                    refine aw_iastore_k (j := k2) hC dX12_lays_291 (tg_86 hT) (nI_clamp (by omega)) (vp_in_nI (by omega) (by decide)) ?_
                    rw [show a_u (a_ur (a_ur I3 85 (fun j => if j = k2 then mGuard I3 k2 else (S85 I3 k2) j)) 86 (S86 I3 n k2)) 86 k2 0 = a_ur (a_ur I3 85 (fun j => if j = k2 then mGuard I3 k2 else (S85 I3 k2) j)) 86 (fun j => if j = k2 then 0 else (S86 I3 n k2) j) from by rw [a_ur_put]]
                    refine aw_iinc (v := nI (k2 + 1)) (L2 := [some (.ref 44), none, some (.int (nI (k2 + 1))), none, none]) hC dX12_lays_292 rfl (nI_inc _) (by decide) rfl ?_
                    refine aw_goto (tgt := 223) hC dX12_lays_295 (by decide) ?_
                    rw [show a_ur (a_ur I3 85 (fun j => if j = k2 then mGuard I3 k2 else (S85 I3 k2) j)) 86 (fun j => if j = k2 then 0 else (S86 I3 n k2) j) = a_ur (a_ur I3 85 (S85 I3 (k2 + 1))) 86 (S86 I3 n (k2 + 1)) from a_ur_cg (a_ur_ext (S85_put (by clear hC hq; rw [show I3 45 = I 45 from hfr3 45 (by decide), (hS.kd k2 (by omega)).1]; grind))) (S86_put (by clear hC hq; rw [show I3 45 = I 45 from hfr3 45 (by decide), (hS.kd k2 (by omega)).1]; grind))]
                    exact ih2 (by omega)
                  · show AW X 0 0 271 [some (.ref 44), none, some (.int (nI k2)), none, none] [.int (nI k2), .ref 86] T (a_ur (a_ur I3 85 (fun j => if j = k2 then mGuard I3 k2 else (S85 I3 k2) j)) 86 (S86 I3 n k2)) J R
                    refine aw_aload_n hC dX12_lays_271 rfl ?_
                    refine aw_getR hC dX12_lays_272 aF_X12_7 rfl (tg_44 hT) (pr_44_1 hR) ?_
                    refine aw_iload_n hC dX12_lays_275 rfl ?_
                    refine aw_iaload_k (j := k2) hC dX12_lays_276 (tg_45 hT) (nI_clamp (by omega)) (vp_in_nI (by omega) (by decide)) ?_
                    rw [a_ur_ne (f := a_ur I3 85 (fun j => if j = k2 then mGuard I3 k2 else (S85 I3 k2) j)) (o := 86) (a := 45) (g := S86 I3 n k2) (by decide)]
                    rw [a_ur_ne (f := I3) (o := 85) (a := 45) (g := fun j => if j = k2 then mGuard I3 k2 else (S85 I3 k2) j) (by decide)]
                    rw [hfr3 45 (by decide)]
                    have hb10 := hS.kd k2 (by omega)
                    rw [hb10.1]
                    refine aw_bipush (v := 7) hC dX12_lays_277 (by decide) ?_
                    refine aw_icmp_ge (tgt := 290) hC dX12_lays_279 (by decide) (fun h11 => ?_) (fun h11 => ?_)
                    · show AW X 0 0 290 [some (.ref 44), none, some (.int (nI k2)), none, none] [.int (nI k2), .ref 86] T (a_ur (a_ur I3 85 (fun j => if j = k2 then mGuard I3 k2 else (S85 I3 k2) j)) 86 (S86 I3 n k2)) J R
                      have h11n : 7 ≤ (iN I 45 k2) := (nI_leI (a := 7) (b := (iN I 45 k2)) (by omega) (by omega)).mp h11
                      refine aw_iconst (v := 0) hC dX12_lays_290 (by decide) ?_
                      refine aw_iastore_k (j := k2) hC dX12_lays_291 (tg_86 hT) (nI_clamp (by omega)) (vp_in_nI (by omega) (by decide)) ?_
                      rw [show a_u (a_ur (a_ur I3 85 (fun j => if j = k2 then mGuard I3 k2 else (S85 I3 k2) j)) 86 (S86 I3 n k2)) 86 k2 0 = a_ur (a_ur I3 85 (fun j => if j = k2 then mGuard I3 k2 else (S85 I3 k2) j)) 86 (fun j => if j = k2 then 0 else (S86 I3 n k2) j) from by rw [a_ur_put]]
                      refine aw_iinc (v := nI (k2 + 1)) (L2 := [some (.ref 44), none, some (.int (nI (k2 + 1))), none, none]) hC dX12_lays_292 rfl (nI_inc _) (by decide) rfl ?_
                      refine aw_goto (tgt := 223) hC dX12_lays_295 (by decide) ?_
                      rw [show a_ur (a_ur I3 85 (fun j => if j = k2 then mGuard I3 k2 else (S85 I3 k2) j)) 86 (fun j => if j = k2 then 0 else (S86 I3 n k2) j) = a_ur (a_ur I3 85 (S85 I3 (k2 + 1))) 86 (S86 I3 n (k2 + 1)) from a_ur_cg (a_ur_ext (S85_put (by clear hC hq; rw [show I3 45 = I 45 from hfr3 45 (by decide), (hS.kd k2 (by omega)).1]; grind))) (S86_put (by clear hC hq; rw [show I3 45 = I 45 from hfr3 45 (by decide), (hS.kd k2 (by omega)).1]; grind))]
                      exact ih2 (by omega)
                    · show AW X 0 0 282 [some (.ref 44), none, some (.int (nI k2)), none, none] [.int (nI k2), .ref 86] T (a_ur (a_ur I3 85 (fun j => if j = k2 then mGuard I3 k2 else (S85 I3 k2) j)) 86 (S86 I3 n k2)) J R
                      have h11n : ¬ 7 ≤ (iN I 45 k2) := fun q9 => h11 ((nI_leI (a := 7) (b := (iN I 45 k2)) (by omega) (by omega)).mpr q9)
                      refine aw_aload_n hC dX12_lays_282 rfl ?_
                      refine aw_iload_n hC dX12_lays_283 rfl ?_
                      have hst : ∀ o, o ≠ 83 → o ≠ 84 → o ≠ 85 → o ≠ 86 → (a_ur (a_ur I3 85 (fun j => if j = k2 then mGuard I3 k2 else (S85 I3 k2) j)) 86 (S86 I3 n k2)) o = I o := fun o h1 h2 h3 h4 => by rw [a_ur_ne h4, a_ur_ne h3]; exact hfr3 o ⟨h1, h2⟩
                      refine kX12_209 hC rfl (m_X12_faults hT hR (n := n) (s := k2) (by rw [hst 44 (by decide) (by decide) (by decide) (by decide)]; exact hS.cnt) hS.n30 (by omega) (by rw [hst 46 (by decide) (by decide) (by decide) (by decide), (hS.fd k2 (by omega)).1]; exact vp_in_nI (hS.fd k2 (by omega)).2 (by decide)) (by rw [hst 49 (by decide) (by decide) (by decide) (by decide), hst 46 (by decide) (by decide) (by decide) (by decide)]; exact hS.fl6 (by omega))) dX12_lays_284 (tg_44 hT) rfl a_le a_le a_le a_le a_le rfl aPure_x (aPure_k ?_)
                      show AW X 0 0 287 [some (.ref 44), none, some (.int (nI k2)), none, none] [.int (mFault (a_ur (a_ur I3 85 (fun j => if j = k2 then mGuard I3 k2 else (S85 I3 k2) j)) 86 (S86 I3 n k2)) n k2), .int (nI k2), .ref 86] T (a_ur (a_ur I3 85 (fun j => if j = k2 then mGuard I3 k2 else (S85 I3 k2) j)) 86 (S86 I3 n k2)) J R
                      rw [mFault_cg (I := a_ur (a_ur I3 85 (fun j => if j = k2 then mGuard I3 k2 else (S85 I3 k2) j)) 86 (S86 I3 n k2)) (I2 := I3) (fun o h1 h2 => by rw [a_ur_ne h2, a_ur_ne h1])]
                      refine aw_goto (tgt := 291) hC dX12_lays_287 (by decide) ?_
                      refine aw_iastore_k (j := k2) hC dX12_lays_291 (tg_86 hT) (nI_clamp (by omega)) (vp_in_nI (by omega) (by decide)) ?_
                      rw [show a_u (a_ur (a_ur I3 85 (fun j => if j = k2 then mGuard I3 k2 else (S85 I3 k2) j)) 86 (S86 I3 n k2)) 86 k2 (mFault I3 n k2) = a_ur (a_ur I3 85 (fun j => if j = k2 then mGuard I3 k2 else (S85 I3 k2) j)) 86 (fun j => if j = k2 then mFault I3 n k2 else (S86 I3 n k2) j) from by rw [a_ur_put]]
                      refine aw_iinc (v := nI (k2 + 1)) (L2 := [some (.ref 44), none, some (.int (nI (k2 + 1))), none, none]) hC dX12_lays_292 rfl (nI_inc _) (by decide) rfl ?_
                      refine aw_goto (tgt := 223) hC dX12_lays_295 (by decide) ?_
                      rw [show a_ur (a_ur I3 85 (fun j => if j = k2 then mGuard I3 k2 else (S85 I3 k2) j)) 86 (fun j => if j = k2 then mFault I3 n k2 else (S86 I3 n k2) j) = a_ur (a_ur I3 85 (S85 I3 (k2 + 1))) 86 (S86 I3 n (k2 + 1)) from a_ur_cg (a_ur_ext (S85_put (by clear hC hq; rw [show I3 45 = I 45 from hfr3 45 (by decide), (hS.kd k2 (by omega)).1]; grind))) (S86_put (by clear hC hq; rw [show I3 45 = I 45 from hfr3 45 (by decide), (hS.kd k2 (by omega)).1]; grind))]
                      exact ih2 (by omega)
            exact loop2 0 (Nat.zero_le _)
          · show AW X 0 0 150 [some (.ref 44), none, some (.int (nI k)), none, none] [] T (a_ur I1 84 (S84 I1 k)) J R
            have h2n : ¬ n ≤ k := fun q9 => h2 ((nI_leI (a := n) (b := k) (by omega) (by omega)).mpr q9)
            refine aw_aload_n hC dX12_lays_150 rfl ?_
            refine aw_getR hC dX12_lays_151 aF_X12_135 rfl (tg_44 hT) (pr_44_49 hR) ?_
            refine aw_iload_n hC dX12_lays_154 rfl ?_
            refine aw_aload_n hC dX12_lays_155 rfl ?_
            refine aw_getR hC dX12_lays_156 aF_X12_22 rfl (tg_44 hT) (pr_44_5 hR) ?_
            refine aw_iload_n hC dX12_lays_159 rfl ?_
            refine aw_iaload_k (j := k) hC dX12_lays_160 (tg_49 hT) (nI_clamp (by omega)) (vp_in_nI (by omega) (by decide)) ?_
            rw [a_ur_ne (f := I1) (o := 84) (a := 49) (g := S84 I1 k) (by decide)]
            rw [hL1.1 49 (by decide)]
            refine aw_if_lt (tgt := 181) hC dX12_lays_161 (by decide) (fun h12 => ?_) (fun h12 => ?_)
            · show AW X 0 0 181 [some (.ref 44), none, some (.int (nI k)), none, none] [.int (nI k), .ref 84] T (a_ur I1 84 (S84 I1 k)) J R
              refine aw_aload_n hC dX12_lays_181 rfl ?_
              refine aw_getR hC dX12_lays_182 aF_X12_28 rfl (tg_44 hT) (pr_44_7 hR) ?_
              refine aw_iload_n hC dX12_lays_185 rfl ?_
              refine aw_iaload_k (j := k) hC dX12_lays_186 (tg_51 hT) (nI_clamp (by omega)) (vp_in_nI (by omega) (by decide)) ?_
              rw [a_ur_ne (f := I1) (o := 84) (a := 51) (g := S84 I1 k) (by decide)]
              rw [hL1.1 51 (by decide)]
              have hb13 := hS.vs k (by omega)
              rw [hb13.1]
              refine aw_if_le (tgt := 213) hC dX12_lays_187 (by decide) (fun h14 => ?_) (fun h14 => ?_)
              · show AW X 0 0 213 [some (.ref 44), none, some (.int (nI k)), none, none] [.int (nI k), .ref 84] T (a_ur I1 84 (S84 I1 k)) J R
                have h14n : (iN I 51 k) ≤ 0 := (nI_leI (a := (iN I 51 k)) (b := 0) (by omega) (by omega)).mp h14
                refine aw_iconst (v := 0) hC dX12_lays_213 (by decide) ?_
                refine aw_bastore_k (j := k) hC dX12_lays_214 (tg_84 hT) (nI_clamp (by omega)) (vp_in_nI (by omega) (by decide)) (Or.inl rfl) ?_
                rw [show a_u (a_ur I1 84 (S84 I1 k)) 84 k 0 = a_ur I1 84 (fun j => if j = k then 0 else (S84 I1 k) j) from by rw [a_ur_put]]
                refine aw_iinc (v := nI (k + 1)) (L2 := [some (.ref 44), none, some (.int (nI (k + 1))), none, none]) hC dX12_lays_215 rfl (nI_inc _) (by decide) rfl ?_
                refine aw_goto (tgt := 142) hC dX12_lays_218 (by decide) ?_
                rw [show a_ur I1 84 (fun j => if j = k then 0 else (S84 I1 k) j) = a_ur I1 84 (S84 I1 (k + 1)) from a_ur_ext (S84_put (by exact bI_no (fun q => by have q2 := (mThere_fr hL1.1 k).mp q; clear hC hq; grind)))]
                exact ih1 (by omega)
              · show AW X 0 0 190 [some (.ref 44), none, some (.int (nI k)), none, none] [.int (nI k), .ref 84] T (a_ur I1 84 (S84 I1 k)) J R
                have h14n : ¬ (iN I 51 k) ≤ 0 := fun q9 => h14 ((nI_leI (a := (iN I 51 k)) (b := 0) (by omega) (by omega)).mpr q9)
                refine aw_aload_n hC dX12_lays_190 rfl ?_
                refine aw_getR hC dX12_lays_191 aF_X12_28 rfl (tg_44 hT) (pr_44_7 hR) ?_
                refine aw_iload_n hC dX12_lays_194 rfl ?_
                refine aw_iaload_k (j := k) hC dX12_lays_195 (tg_51 hT) (nI_clamp (by omega)) (vp_in_nI (by omega) (by decide)) ?_
                rw [a_ur_ne (f := I1) (o := 84) (a := 51) (g := S84 I1 k) (by decide)]
                rw [hL1.1 51 (by decide)]
                have hb15 := hS.vs k (by omega)
                rw [hb15.1]
                refine aw_aload_n hC dX12_lays_196 rfl ?_
                refine aw_aload_n hC dX12_lays_197 rfl ?_
                refine aw_getR hC dX12_lays_198 aF_X12_25 rfl (tg_44 hT) (pr_44_6 hR) ?_
                refine aw_iload_n hC dX12_lays_201 rfl ?_
                refine aw_iaload_k (j := k) hC dX12_lays_202 (tg_50 hT) (nI_clamp (by omega)) (vp_in_nI (by omega) (by decide)) ?_
                rw [a_ur_ne (f := I1) (o := 84) (a := 50) (g := S84 I1 k) (by decide)]
                rw [hL1.1 50 (by decide)]
                have hp5 := hS.pk k (by omega) (by assumption)
                rw [hp5.1]
                refine kX12_202 hC rfl (m_X12_chosen hT hR (p := (iN I 50 k)) (by omega)) dX12_lays_203 (tg_44 hT) rfl a_le a_le a_le a_le a_le rfl aPure_x (aPure_k ?_)
                show AW X 0 0 206 [some (.ref 44), none, some (.int (nI k)), none, none] [.int (mCh (a_ur I1 84 (S84 I1 k)) (iN I 50 k) 3), .int (nI (iN I 51 k)), .int (nI k), .ref 84] T (a_ur I1 84 (S84 I1 k)) J R
                rw [mCh_cg (I := a_ur I1 84 (S84 I1 k)) (I2 := I1) (by rw [a_ur_ne (by decide)]) (iN I 50 k) 3]
                refine aw_icmp_ne (tgt := 213) hC dX12_lays_206 (by decide) (fun h16 => ?_) (fun h16 => ?_)
                · show AW X 0 0 213 [some (.ref 44), none, some (.int (nI k)), none, none] [.int (nI k), .ref 84] T (a_ur I1 84 (S84 I1 k)) J R
                  refine aw_iconst (v := 0) hC dX12_lays_213 (by decide) ?_
                  refine aw_bastore_k (j := k) hC dX12_lays_214 (tg_84 hT) (nI_clamp (by omega)) (vp_in_nI (by omega) (by decide)) (Or.inl rfl) ?_
                  rw [show a_u (a_ur I1 84 (S84 I1 k)) 84 k 0 = a_ur I1 84 (fun j => if j = k then 0 else (S84 I1 k) j) from by rw [a_ur_put]]
                  refine aw_iinc (v := nI (k + 1)) (L2 := [some (.ref 44), none, some (.int (nI (k + 1))), none, none]) hC dX12_lays_215 rfl (nI_inc _) (by decide) rfl ?_
                  refine aw_goto (tgt := 142) hC dX12_lays_218 (by decide) ?_
                  rw [show a_ur I1 84 (fun j => if j = k then 0 else (S84 I1 k) j) = a_ur I1 84 (S84 I1 (k + 1)) from a_ur_ext (S84_put (by exact bI_no (fun q => by have q2 := (mThere_fr hL1.1 k).mp q; clear hC hq; grind)))]
                  exact ih1 (by omega)
                · show AW X 0 0 209 [some (.ref 44), none, some (.int (nI k)), none, none] [.int (nI k), .ref 84] T (a_ur I1 84 (S84 I1 k)) J R
                  refine aw_iconst (v := 1) hC dX12_lays_209 (by decide) ?_
                  refine aw_goto (tgt := 214) hC dX12_lays_210 (by decide) ?_
                  refine aw_bastore_k (j := k) hC dX12_lays_214 (tg_84 hT) (nI_clamp (by omega)) (vp_in_nI (by omega) (by decide)) (Or.inr rfl) ?_
                  rw [show a_u (a_ur I1 84 (S84 I1 k)) 84 k 1 = a_ur I1 84 (fun j => if j = k then 1 else (S84 I1 k) j) from by rw [a_ur_put]]
                  refine aw_iinc (v := nI (k + 1)) (L2 := [some (.ref 44), none, some (.int (nI (k + 1))), none, none]) hC dX12_lays_215 rfl (nI_inc _) (by decide) rfl ?_
                  refine aw_goto (tgt := 142) hC dX12_lays_218 (by decide) ?_
                  rw [show a_ur I1 84 (fun j => if j = k then 1 else (S84 I1 k) j) = a_ur I1 84 (S84 I1 (k + 1)) from a_ur_ext (S84_put (by exact bI_yes ((mThere_fr hL1.1 k).mpr (by clear hC hq; grind))))]
                  exact ih1 (by omega)
            · show AW X 0 0 164 [some (.ref 44), none, some (.int (nI k)), none, none] [.int (nI k), .ref 84] T (a_ur I1 84 (S84 I1 k)) J R
              refine aw_aload_n hC dX12_lays_164 rfl ?_
              refine aw_getR hC dX12_lays_165 aF_X12_31 rfl (tg_44 hT) (pr_44_8 hR) ?_
              refine aw_iload_n hC dX12_lays_168 rfl ?_
              refine aw_baload_k (j := k) hC dX12_lays_169 (tg_52 hT) (nI_clamp (by omega)) (vp_in_nI (by omega) (by decide)) ?_
              rw [a_ur_ne (f := I1) (o := 84) (a := 52) (g := S84 I1 k) (by decide)]
              rw [hL1.1 52 (by decide)]
              refine aw_if_ne (tgt := 177) hC dX12_lays_170 (by decide) (fun h17 => ?_) (fun h17 => ?_)
              · show AW X 0 0 177 [some (.ref 44), none, some (.int (nI k)), none, none] [.int (nI k), .ref 84] T (a_ur I1 84 (S84 I1 k)) J R
                refine aw_iconst (v := 0) hC dX12_lays_177 (by decide) ?_
                refine aw_goto (tgt := 214) hC dX12_lays_178 (by decide) ?_
                refine aw_bastore_k (j := k) hC dX12_lays_214 (tg_84 hT) (nI_clamp (by omega)) (vp_in_nI (by omega) (by decide)) (Or.inl rfl) ?_
                rw [show a_u (a_ur I1 84 (S84 I1 k)) 84 k 0 = a_ur I1 84 (fun j => if j = k then 0 else (S84 I1 k) j) from by rw [a_ur_put]]
                refine aw_iinc (v := nI (k + 1)) (L2 := [some (.ref 44), none, some (.int (nI (k + 1))), none, none]) hC dX12_lays_215 rfl (nI_inc _) (by decide) rfl ?_
                refine aw_goto (tgt := 142) hC dX12_lays_218 (by decide) ?_
                rw [show a_ur I1 84 (fun j => if j = k then 0 else (S84 I1 k) j) = a_ur I1 84 (S84 I1 (k + 1)) from a_ur_ext (S84_put (by exact bI_no (fun q => by have q2 := (mThere_fr hL1.1 k).mp q; clear hC hq; grind)))]
                exact ih1 (by omega)
              · show AW X 0 0 173 [some (.ref 44), none, some (.int (nI k)), none, none] [.int (nI k), .ref 84] T (a_ur I1 84 (S84 I1 k)) J R
                refine aw_iconst (v := 1) hC dX12_lays_173 (by decide) ?_
                refine aw_goto (tgt := 214) hC dX12_lays_174 (by decide) ?_
                refine aw_bastore_k (j := k) hC dX12_lays_214 (tg_84 hT) (nI_clamp (by omega)) (vp_in_nI (by omega) (by decide)) (Or.inr rfl) ?_
                rw [show a_u (a_ur I1 84 (S84 I1 k)) 84 k 1 = a_ur I1 84 (fun j => if j = k then 1 else (S84 I1 k) j) from by rw [a_ur_put]]
                refine aw_iinc (v := nI (k + 1)) (L2 := [some (.ref 44), none, some (.int (nI (k + 1))), none, none]) hC dX12_lays_215 rfl (nI_inc _) (by decide) rfl ?_
                refine aw_goto (tgt := 142) hC dX12_lays_218 (by decide) ?_
                rw [show a_ur I1 84 (fun j => if j = k then 1 else (S84 I1 k) j) = a_ur I1 84 (S84 I1 (k + 1)) from a_ur_ext (S84_put (by exact bI_yes ((mThere_fr hL1.1 k).mpr (by clear hC hq; grind))))]
                exact ih1 (by omega)
        exact loop1 0 (Nat.zero_le _)
      have loopW : ∀ c (I1 : aI), cntF (I1 83) 9 ≤ c → (∀ o, o ≠ 83 → I1 o = I o) → (∀ W : Nat → Prop, ClosedW I n W → ∀ j, j < 9 → I1 83 j ≠ 0 → W j) → AW X 0 0 23 [some (.ref 44), some (.int 1), none, none, none] [] T I1 J R := by
        refine upN (fun c ihW => ?_)
        intro I1 hc hfr1 hsnd
        refine aw_iload_n hC dX12_lays_23 rfl ?_
        refine aw_if_eq (tgt := 140) hC dX12_lays_24 (by decide) (fun h18 => absurd h18 (by decide)) (fun _ => ?_)
        show AW X 0 0 27 [some (.ref 44), some (.int 1), none, none, none] [] T I1 J R
        refine aw_iconst (v := 0) hC dX12_lays_27 (by decide) ?_
        refine aw_istore_n (L2 := [some (.ref 44), some (.int 0), none, none, none]) hC dX12_lays_28 rfl (by decide) rfl ?_
        refine aw_iconst (v := 0) hC dX12_lays_29 (by decide) ?_
        refine aw_istore_n (L2 := [some (.ref 44), some (.int 0), some (.int 0), none, none]) hC dX12_lays_30 rfl (by decide) rfl ?_
        have loopI : ∀ k, k ≤ n → ∀ (gs : Int32) (I2 : aI), LW I I1 I2 n k gs → AW X 0 0 31 [some (.ref 44), some (.int gs), some (.int (nI k)), none, none] [] T I2 J R := by
          refine a_down n (fun k hkI ihI => ?_)
          intro gs I2 hLW
          have hfr := hLW.fr
          refine aw_iload_n hC dX12_lays_31 rfl ?_
          refine aw_aload_n hC dX12_lays_32 rfl ?_
          refine aw_getI hC dX12_lays_33 aF_X12_183 rfl (tg_44 hT) ?_
          rw [hfr 44 (by decide)]
          rw [hS.cnt]
          refine aw_icmp_ge (tgt := 137) hC dX12_lays_36 (by decide) (fun h19 => ?_) (fun h19 => ?_)
          · show AW X 0 0 137 [some (.ref 44), some (.int gs), some (.int (nI k)), none, none] [] T I2 J R
            have h19n : n ≤ k := (nI_leI (a := n) (b := k) (by omega) (by omega)).mp h19
            refine aw_goto (tgt := 23) hC dX12_lays_137 (by decide) ?_
            have e9 : k = n := by omega
            subst e9
            rcases hLW.c with ⟨rfl, rfl, hok⟩ | ⟨rfl, hlt⟩
            · refine aw_iload_n hC dX12_lays_23 rfl ?_
              refine aw_if_eq (tgt := 140) hC dX12_lays_24 (by decide) (fun _ => ?_) (fun h => absurd rfl h)
              refine aw_forget 1 (L2 := [some (.ref 44), none, some (.int (nI k)), none, none]) rfl ?_
              refine aw_forget 2 (L2 := [some (.ref 44), none, none, none, none]) rfl ?_
              exact hexit _ ⟨hLW.fr, hLW.snd, fun s hs => hok s hs⟩
            · refine aw_forget 2 rfl ?_
              exact ihW _ (by omega) I2 (Nat.le_refl _) hLW.fr hLW.snd
          · show AW X 0 0 39 [some (.ref 44), some (.int gs), some (.int (nI k)), none, none] [] T I2 J R
            have h19n : ¬ n ≤ k := fun q9 => h19 ((nI_leI (a := n) (b := k) (by omega) (by omega)).mpr q9)
            refine aw_aload_n hC dX12_lays_39 rfl ?_
            refine aw_iload_n hC dX12_lays_40 rfl ?_
            refine kX12_199 hC rfl (m_X12_wants hT hR (s := k) (by have := hS.n30; omega) (mWants_ix hS hfr (by omega))) dX12_lays_41 (tg_44 hT) rfl a_le a_le a_le a_le a_le rfl aPure_x (aPure_k ?_)
            show AW X 0 0 44 [some (.ref 44), some (.int gs), some (.int (nI k)), none, none] [.int (bI (decide (mWants I2 k)))] T I2 J R
            refine aw_if_eq (tgt := 61) hC dX12_lays_44 (by decide) (fun h20 => ?_) (fun h20 => ?_)
            · show AW X 0 0 61 [some (.ref 44), some (.int gs), some (.int (nI k)), none, none] [] T I2 J R
              refine aw_iconst (v := 0) hC dX12_lays_61 (by decide) ?_
              refine aw_istore_n (L2 := [some (.ref 44), some (.int gs), some (.int (nI k)), some (.int 0), none]) hC dX12_lays_62 rfl (by decide) rfl ?_
              refine aw_iload_n hC dX12_lays_63 rfl ?_
              refine aw_aload_n hC dX12_lays_64 rfl ?_
              refine aw_getR hC dX12_lays_65 aF_X12_16 rfl (tg_44 hT) (pr_44_3 hR) ?_
              refine aw_iload_n hC dX12_lays_68 rfl ?_
              refine aw_iaload_k (j := k) hC dX12_lays_69 (tg_47 hT) (nI_clamp (by omega)) (vp_in_nI (by omega) (by decide)) ?_
              rw [hfr 47 (by decide)]
              have hb21 := hS.on k (by omega)
              rw [hb21.1]
              refine aw_icmp_ge (tgt := 77) hC dX12_lays_70 (by decide) (fun h22 => ?_) (fun h22 => ?_)
              · show AW X 0 0 77 [some (.ref 44), some (.int gs), some (.int (nI k)), some (.int 0), none] [] T I2 J R
                have h22n : (iN I 47 k) ≤ 0 := (nI_leI (a := (iN I 47 k)) (b := 0) (by omega) (by omega)).mp h22
                refine aw_aload_n hC dX12_lays_77 rfl ?_
                refine aw_getR hC dX12_lays_78 aF_X12_16 rfl (tg_44 hT) (pr_44_3 hR) ?_
                refine aw_iload_n hC dX12_lays_81 rfl ?_
                refine aw_iaload_k (j := k) hC dX12_lays_82 (tg_47 hT) (nI_clamp (by omega)) (vp_in_nI (by omega) (by decide)) ?_
                rw [hfr 47 (by decide)]
                have hb23 := hS.on k (by omega)
                rw [hb23.1]
                refine aw_istore (L2 := [some (.ref 44), some (.int gs), some (.int (nI k)), some (.int 0), some (.int (nI (iN I 47 k)))]) hC dX12_lays_83 (by decide) rfl ?_
                refine aw_iload_n hC dX12_lays_85 rfl ?_
                refine aw_if_le (tgt := 131) hC dX12_lays_86 (by decide) (fun _ => ?_) (fun h24 => absurd h24 (by decide))
                show AW X 0 0 131 [some (.ref 44), some (.int gs), some (.int (nI k)), some (.int 0), some (.int (nI (iN I 47 k)))] [] T I2 J R
                refine aw_iinc (v := nI (k + 1)) (L2 := [some (.ref 44), some (.int gs), some (.int (nI (k + 1))), some (.int 0), some (.int (nI (iN I 47 k)))]) hC dX12_lays_131 rfl (nI_inc _) (by decide) rfl ?_
                refine aw_goto (tgt := 31) hC dX12_lays_134 (by decide) ?_
                refine aw_forget 3 (L2 := [some (.ref 44), some (.int gs), some (.int (nI (k + 1))), none, some (.int (nI (iN I 47 k)))]) rfl ?_
                refine aw_forget 4 (L2 := [some (.ref 44), some (.int gs), some (.int (nI (k + 1))), none, none]) rfl ?_
                exact ihI (by omega) gs I2 (hLW.skip (fun hw hv => by clear hC hq; first | exact absurd ((wantsW_fr hfr k).mpr hw) (bI_d0.mp (by assumption)) | (exfalso; omega) | (rw [show idxW I k = k from by simp only [idxW]; omega]; assumption)))
              · show AW X 0 0 73 [some (.ref 44), some (.int gs), some (.int (nI k)), some (.int 0), none] [] T I2 J R
                have h22n : ¬ (iN I 47 k) ≤ 0 := fun q9 => h22 ((nI_leI (a := (iN I 47 k)) (b := 0) (by omega) (by omega)).mpr q9)
                refine aw_iload_n hC dX12_lays_73 rfl ?_
                refine aw_goto (tgt := 83) hC dX12_lays_74 (by decide) ?_
                refine aw_istore (L2 := [some (.ref 44), some (.int gs), some (.int (nI k)), some (.int 0), some (.int 0)]) hC dX12_lays_83 (by decide) rfl ?_
                refine aw_iload_n hC dX12_lays_85 rfl ?_
                refine aw_if_le (tgt := 131) hC dX12_lays_86 (by decide) (fun _ => ?_) (fun h25 => absurd h25 (by decide))
                show AW X 0 0 131 [some (.ref 44), some (.int gs), some (.int (nI k)), some (.int 0), some (.int 0)] [] T I2 J R
                refine aw_iinc (v := nI (k + 1)) (L2 := [some (.ref 44), some (.int gs), some (.int (nI (k + 1))), some (.int 0), some (.int 0)]) hC dX12_lays_131 rfl (nI_inc _) (by decide) rfl ?_
                refine aw_goto (tgt := 31) hC dX12_lays_134 (by decide) ?_
                refine aw_forget 3 (L2 := [some (.ref 44), some (.int gs), some (.int (nI (k + 1))), none, some (.int 0)]) rfl ?_
                refine aw_forget 4 (L2 := [some (.ref 44), some (.int gs), some (.int (nI (k + 1))), none, none]) rfl ?_
                exact ihI (by omega) gs I2 (hLW.skip (fun hw hv => by clear hC hq; first | exact absurd ((wantsW_fr hfr k).mpr hw) (bI_d0.mp (by assumption)) | (exfalso; omega) | (rw [show idxW I k = k from by simp only [idxW]; omega]; assumption)))
            · show AW X 0 0 47 [some (.ref 44), some (.int gs), some (.int (nI k)), none, none] [] T I2 J R
              have hwn : mWants I2 k := bI_dn.mp (by assumption)
              have h12 := k12_of hS hfr (by omega) hwn
              refine aw_aload_n hC dX12_lays_47 rfl ?_
              refine aw_getR hC dX12_lays_48 aF_X12_35 rfl (tg_44 hT) (pr_44_9 hR) ?_
              refine aw_aload_n hC dX12_lays_51 rfl ?_
              refine aw_getR hC dX12_lays_52 aF_X12_13 rfl (tg_44 hT) (pr_44_2 hR) ?_
              refine aw_iload_n hC dX12_lays_55 rfl ?_
              refine aw_iaload_k (j := k) hC dX12_lays_56 (tg_46 hT) (nI_clamp (by omega)) (vp_in_nI (by omega) (by decide)) ?_
              rw [hfr 46 (by decide)]
              have hb26 := hS.fd k (by omega)
              rw [hb26.1]
              refine aw_iaload_k (j := (iN I 46 k)) hC dX12_lays_57 (tg_53 hT) (nI_clamp (by omega)) (vp_in_nI (by omega) (by decide)) ?_
              rw [hfr 53 (by decide)]
              have hb27 := hS.vv (iN I 46 k) (by omega)
              rw [hb27.1]
              refine aw_goto (tgt := 62) hC dX12_lays_58 (by decide) ?_
              refine aw_istore_n (L2 := [some (.ref 44), some (.int gs), some (.int (nI k)), some (.int (nI (iN I 53 (iN I 46 k)))), none]) hC dX12_lays_62 rfl (by decide) rfl ?_
              refine aw_iload_n hC dX12_lays_63 rfl ?_
              refine aw_aload_n hC dX12_lays_64 rfl ?_
              refine aw_getR hC dX12_lays_65 aF_X12_16 rfl (tg_44 hT) (pr_44_3 hR) ?_
              refine aw_iload_n hC dX12_lays_68 rfl ?_
              refine aw_iaload_k (j := k) hC dX12_lays_69 (tg_47 hT) (nI_clamp (by omega)) (vp_in_nI (by omega) (by decide)) ?_
              rw [hfr 47 (by decide)]
              have hb28 := hS.on k (by omega)
              rw [hb28.1]
              refine aw_icmp_ge (tgt := 77) hC dX12_lays_70 (by decide) (fun h29 => ?_) (fun h29 => ?_)
              · show AW X 0 0 77 [some (.ref 44), some (.int gs), some (.int (nI k)), some (.int (nI (iN I 53 (iN I 46 k)))), none] [] T I2 J R
                have h29n : (iN I 47 k) ≤ (iN I 53 (iN I 46 k)) := (nI_leI (a := (iN I 47 k)) (b := (iN I 53 (iN I 46 k))) (by omega) (by omega)).mp h29
                refine aw_aload_n hC dX12_lays_77 rfl ?_
                refine aw_getR hC dX12_lays_78 aF_X12_16 rfl (tg_44 hT) (pr_44_3 hR) ?_
                refine aw_iload_n hC dX12_lays_81 rfl ?_
                refine aw_iaload_k (j := k) hC dX12_lays_82 (tg_47 hT) (nI_clamp (by omega)) (vp_in_nI (by omega) (by decide)) ?_
                rw [hfr 47 (by decide)]
                have hb30 := hS.on k (by omega)
                rw [hb30.1]
                refine aw_istore (L2 := [some (.ref 44), some (.int gs), some (.int (nI k)), some (.int (nI (iN I 53 (iN I 46 k)))), some (.int (nI (iN I 47 k)))]) hC dX12_lays_83 (by decide) rfl ?_
                refine aw_iload_n hC dX12_lays_85 rfl ?_
                refine aw_if_le (tgt := 131) hC dX12_lays_86 (by decide) (fun h31 => ?_) (fun h31 => ?_)
                · show AW X 0 0 131 [some (.ref 44), some (.int gs), some (.int (nI k)), some (.int (nI (iN I 53 (iN I 46 k)))), some (.int (nI (iN I 47 k)))] [] T I2 J R
                  have h31n : (iN I 53 (iN I 46 k)) ≤ 0 := (nI_leI (a := (iN I 53 (iN I 46 k))) (b := 0) (by omega) (by omega)).mp h31
                  refine aw_iinc (v := nI (k + 1)) (L2 := [some (.ref 44), some (.int gs), some (.int (nI (k + 1))), some (.int (nI (iN I 53 (iN I 46 k)))), some (.int (nI (iN I 47 k)))]) hC dX12_lays_131 rfl (nI_inc _) (by decide) rfl ?_
                  refine aw_goto (tgt := 31) hC dX12_lays_134 (by decide) ?_
                  refine aw_forget 3 (L2 := [some (.ref 44), some (.int gs), some (.int (nI (k + 1))), none, some (.int (nI (iN I 47 k)))]) rfl ?_
                  refine aw_forget 4 (L2 := [some (.ref 44), some (.int gs), some (.int (nI (k + 1))), none, none]) rfl ?_
                  exact ihI (by omega) gs I2 (hLW.skip (fun hw hv => by clear hC hq; first | exact absurd ((wantsW_fr hfr k).mpr hw) (bI_d0.mp (by assumption)) | (exfalso; omega) | (rw [show idxW I k = k from by simp only [idxW]; omega]; assumption)))
                · show AW X 0 0 89 [some (.ref 44), some (.int gs), some (.int (nI k)), some (.int (nI (iN I 53 (iN I 46 k)))), some (.int (nI (iN I 47 k)))] [] T I2 J R
                  have h31n : ¬ (iN I 53 (iN I 46 k)) ≤ 0 := fun q9 => h31 ((nI_leI (a := (iN I 53 (iN I 46 k))) (b := 0) (by omega) (by omega)).mpr q9)
                  refine aw_aload_n hC dX12_lays_89 rfl ?_
                  refine aw_getR hC dX12_lays_90 aF_X12_132 rfl (tg_44 hT) (pr_44_48 hR) ?_
                  refine aw_iconst (v := 3) hC dX12_lays_93 (by decide) ?_
                  refine aw_aload_n hC dX12_lays_94 rfl ?_
                  refine aw_getR hC dX12_lays_95 aF_X12_13 rfl (tg_44 hT) (pr_44_2 hR) ?_
                  refine aw_iload_n hC dX12_lays_98 rfl ?_
                  refine aw_iaload_k (j := k) hC dX12_lays_99 (tg_46 hT) (nI_clamp (by omega)) (vp_in_nI (by omega) (by decide)) ?_
                  rw [hfr 46 (by decide)]
                  have hb32 := hS.fd k (by omega)
                  rw [hb32.1]
                  refine aw_imul hC dX12_lays_100 ?_
                  rw [show 3 * (nI (iN I 46 k)) = nI (3 * (iN I 46 k)) from pk_mul 3 (iN I 46 k)]
                  refine aw_iload hC dX12_lays_101 rfl ?_
                  refine aw_iadd hC dX12_lays_103 ?_
                  rw [show (nI (3 * (iN I 46 k))) + (nI (iN I 47 k)) = nI ((3 * (iN I 46 k)) + (iN I 47 k)) from nI_add (3 * (iN I 46 k)) (iN I 47 k)]
                  refine aw_iconst (v := 1) hC dX12_lays_104 (by decide) ?_
                  refine aw_isub hC dX12_lays_105 ?_
                  rw [show (nI ((3 * (iN I 46 k)) + (iN I 47 k))) - 1 = nI (((3 * (iN I 46 k)) + (iN I 47 k)) - 1) from pk_sub (a := ((3 * (iN I 46 k)) + (iN I 47 k))) (b := 1) (by omega)]
                  refine aw_baload_k (j := (((3 * (iN I 46 k)) + (iN I 47 k)) - 1)) hC dX12_lays_106 (tg_83 hT) (nI_clamp (by omega)) (vp_in_nI (by omega) (by decide)) ?_
                  refine aw_if_ne (tgt := 131) hC dX12_lays_107 (by decide) (fun h33 => ?_) (fun h33 => ?_)
                  · show AW X 0 0 131 [some (.ref 44), some (.int gs), some (.int (nI k)), some (.int (nI (iN I 53 (iN I 46 k)))), some (.int (nI (iN I 47 k)))] [] T I2 J R
                    refine aw_iinc (v := nI (k + 1)) (L2 := [some (.ref 44), some (.int gs), some (.int (nI (k + 1))), some (.int (nI (iN I 53 (iN I 46 k)))), some (.int (nI (iN I 47 k)))]) hC dX12_lays_131 rfl (nI_inc _) (by decide) rfl ?_
                    refine aw_goto (tgt := 31) hC dX12_lays_134 (by decide) ?_
                    refine aw_forget 3 (L2 := [some (.ref 44), some (.int gs), some (.int (nI (k + 1))), none, some (.int (nI (iN I 47 k)))]) rfl ?_
                    refine aw_forget 4 (L2 := [some (.ref 44), some (.int gs), some (.int (nI (k + 1))), none, none]) rfl ?_
                    exact ihI (by omega) gs I2 (hLW.skip (fun hw hv => by clear hC hq; first | exact absurd ((wantsW_fr hfr k).mpr hw) (bI_d0.mp (by assumption)) | (exfalso; omega) | (rw [show idxW I k = (((3 * (iN I 46 k)) + (iN I 47 k)) - 1) from by simp only [idxW]; omega]; assumption)))
                  · show AW X 0 0 110 [some (.ref 44), some (.int gs), some (.int (nI k)), some (.int (nI (iN I 53 (iN I 46 k)))), some (.int (nI (iN I 47 k)))] [] T I2 J R
                    refine aw_aload_n hC dX12_lays_110 rfl ?_
                    refine aw_getR hC dX12_lays_111 aF_X12_132 rfl (tg_44 hT) (pr_44_48 hR) ?_
                    refine aw_iconst (v := 3) hC dX12_lays_114 (by decide) ?_
                    refine aw_aload_n hC dX12_lays_115 rfl ?_
                    refine aw_getR hC dX12_lays_116 aF_X12_13 rfl (tg_44 hT) (pr_44_2 hR) ?_
                    refine aw_iload_n hC dX12_lays_119 rfl ?_
                    refine aw_iaload_k (j := k) hC dX12_lays_120 (tg_46 hT) (nI_clamp (by omega)) (vp_in_nI (by omega) (by decide)) ?_
                    rw [hfr 46 (by decide)]
                    have hb34 := hS.fd k (by omega)
                    rw [hb34.1]
                    refine aw_imul hC dX12_lays_121 ?_
                    rw [show 3 * (nI (iN I 46 k)) = nI (3 * (iN I 46 k)) from pk_mul 3 (iN I 46 k)]
                    refine aw_iload hC dX12_lays_122 rfl ?_
                    refine aw_iadd hC dX12_lays_124 ?_
                    rw [show (nI (3 * (iN I 46 k))) + (nI (iN I 47 k)) = nI ((3 * (iN I 46 k)) + (iN I 47 k)) from nI_add (3 * (iN I 46 k)) (iN I 47 k)]
                    refine aw_iconst (v := 1) hC dX12_lays_125 (by decide) ?_
                    refine aw_isub hC dX12_lays_126 ?_
                    rw [show (nI ((3 * (iN I 46 k)) + (iN I 47 k))) - 1 = nI (((3 * (iN I 46 k)) + (iN I 47 k)) - 1) from pk_sub (a := ((3 * (iN I 46 k)) + (iN I 47 k))) (b := 1) (by omega)]
                    refine aw_iconst (v := 1) hC dX12_lays_127 (by decide) ?_
                    refine aw_bastore_k (j := (((3 * (iN I 46 k)) + (iN I 47 k)) - 1)) hC dX12_lays_128 (tg_83 hT) (nI_clamp (by omega)) (vp_in_nI (by omega) (by decide)) (Or.inr rfl) ?_
                    refine aw_iconst (v := 1) hC dX12_lays_129 (by decide) ?_
                    refine aw_istore_n (L2 := [some (.ref 44), some (.int 1), some (.int (nI k)), some (.int (nI (iN I 53 (iN I 46 k)))), some (.int (nI (iN I 47 k)))]) hC dX12_lays_130 rfl (by decide) rfl ?_
                    refine aw_iinc (v := nI (k + 1)) (L2 := [some (.ref 44), some (.int 1), some (.int (nI (k + 1))), some (.int (nI (iN I 53 (iN I 46 k)))), some (.int (nI (iN I 47 k)))]) hC dX12_lays_131 rfl (nI_inc _) (by decide) rfl ?_
                    refine aw_goto (tgt := 31) hC dX12_lays_134 (by decide) ?_
                    refine aw_forget 3 (L2 := [some (.ref 44), some (.int 1), some (.int (nI (k + 1))), none, some (.int (nI (iN I 47 k)))]) rfl ?_
                    refine aw_forget 4 (L2 := [some (.ref 44), some (.int 1), some (.int (nI (k + 1))), none, none]) rfl ?_
                    exact ihI (by omega) 1 _ (hLW.put hS (by omega) hwn (by omega) (by simp only [idxW]; omega) (by omega) (by assumption))
              · show AW X 0 0 73 [some (.ref 44), some (.int gs), some (.int (nI k)), some (.int (nI (iN I 53 (iN I 46 k)))), none] [] T I2 J R
                have h29n : ¬ (iN I 47 k) ≤ (iN I 53 (iN I 46 k)) := fun q9 => h29 ((nI_leI (a := (iN I 47 k)) (b := (iN I 53 (iN I 46 k))) (by omega) (by omega)).mpr q9)
                refine aw_iload_n hC dX12_lays_73 rfl ?_
                refine aw_goto (tgt := 83) hC dX12_lays_74 (by decide) ?_
                refine aw_istore (L2 := [some (.ref 44), some (.int gs), some (.int (nI k)), some (.int (nI (iN I 53 (iN I 46 k)))), some (.int (nI (iN I 53 (iN I 46 k))))]) hC dX12_lays_83 (by decide) rfl ?_
                refine aw_iload_n hC dX12_lays_85 rfl ?_
                refine aw_if_le (tgt := 131) hC dX12_lays_86 (by decide) (fun h35 => ?_) (fun h35 => ?_)
                · show AW X 0 0 131 [some (.ref 44), some (.int gs), some (.int (nI k)), some (.int (nI (iN I 53 (iN I 46 k)))), some (.int (nI (iN I 53 (iN I 46 k))))] [] T I2 J R
                  have h35n : (iN I 53 (iN I 46 k)) ≤ 0 := (nI_leI (a := (iN I 53 (iN I 46 k))) (b := 0) (by omega) (by omega)).mp h35
                  refine aw_iinc (v := nI (k + 1)) (L2 := [some (.ref 44), some (.int gs), some (.int (nI (k + 1))), some (.int (nI (iN I 53 (iN I 46 k)))), some (.int (nI (iN I 53 (iN I 46 k))))]) hC dX12_lays_131 rfl (nI_inc _) (by decide) rfl ?_
                  refine aw_goto (tgt := 31) hC dX12_lays_134 (by decide) ?_
                  refine aw_forget 3 (L2 := [some (.ref 44), some (.int gs), some (.int (nI (k + 1))), none, some (.int (nI (iN I 53 (iN I 46 k))))]) rfl ?_
                  refine aw_forget 4 (L2 := [some (.ref 44), some (.int gs), some (.int (nI (k + 1))), none, none]) rfl ?_
                  exact ihI (by omega) gs I2 (hLW.skip (fun hw hv => by clear hC hq; first | exact absurd ((wantsW_fr hfr k).mpr hw) (bI_d0.mp (by assumption)) | (exfalso; omega) | (rw [show idxW I k = (((3 * (iN I 46 k)) + (iN I 47 k)) - 1) from by simp only [idxW]; omega]; assumption)))
                · show AW X 0 0 89 [some (.ref 44), some (.int gs), some (.int (nI k)), some (.int (nI (iN I 53 (iN I 46 k)))), some (.int (nI (iN I 53 (iN I 46 k))))] [] T I2 J R
                  have h35n : ¬ (iN I 53 (iN I 46 k)) ≤ 0 := fun q9 => h35 ((nI_leI (a := (iN I 53 (iN I 46 k))) (b := 0) (by omega) (by omega)).mpr q9)
                  refine aw_aload_n hC dX12_lays_89 rfl ?_
                  refine aw_getR hC dX12_lays_90 aF_X12_132 rfl (tg_44 hT) (pr_44_48 hR) ?_
                  refine aw_iconst (v := 3) hC dX12_lays_93 (by decide) ?_
                  refine aw_aload_n hC dX12_lays_94 rfl ?_
                  refine aw_getR hC dX12_lays_95 aF_X12_13 rfl (tg_44 hT) (pr_44_2 hR) ?_
                  refine aw_iload_n hC dX12_lays_98 rfl ?_
                  refine aw_iaload_k (j := k) hC dX12_lays_99 (tg_46 hT) (nI_clamp (by omega)) (vp_in_nI (by omega) (by decide)) ?_
                  rw [hfr 46 (by decide)]
                  have hb36 := hS.fd k (by omega)
                  rw [hb36.1]
                  refine aw_imul hC dX12_lays_100 ?_
                  rw [show 3 * (nI (iN I 46 k)) = nI (3 * (iN I 46 k)) from pk_mul 3 (iN I 46 k)]
                  refine aw_iload hC dX12_lays_101 rfl ?_
                  refine aw_iadd hC dX12_lays_103 ?_
                  rw [show (nI (3 * (iN I 46 k))) + (nI (iN I 53 (iN I 46 k))) = nI ((3 * (iN I 46 k)) + (iN I 53 (iN I 46 k))) from nI_add (3 * (iN I 46 k)) (iN I 53 (iN I 46 k))]
                  refine aw_iconst (v := 1) hC dX12_lays_104 (by decide) ?_
                  refine aw_isub hC dX12_lays_105 ?_
                  rw [show (nI ((3 * (iN I 46 k)) + (iN I 53 (iN I 46 k)))) - 1 = nI (((3 * (iN I 46 k)) + (iN I 53 (iN I 46 k))) - 1) from pk_sub (a := ((3 * (iN I 46 k)) + (iN I 53 (iN I 46 k)))) (b := 1) (by omega)]
                  refine aw_baload_k (j := (((3 * (iN I 46 k)) + (iN I 53 (iN I 46 k))) - 1)) hC dX12_lays_106 (tg_83 hT) (nI_clamp (by omega)) (vp_in_nI (by omega) (by decide)) ?_
                  refine aw_if_ne (tgt := 131) hC dX12_lays_107 (by decide) (fun h37 => ?_) (fun h37 => ?_)
                  · show AW X 0 0 131 [some (.ref 44), some (.int gs), some (.int (nI k)), some (.int (nI (iN I 53 (iN I 46 k)))), some (.int (nI (iN I 53 (iN I 46 k))))] [] T I2 J R
                    refine aw_iinc (v := nI (k + 1)) (L2 := [some (.ref 44), some (.int gs), some (.int (nI (k + 1))), some (.int (nI (iN I 53 (iN I 46 k)))), some (.int (nI (iN I 53 (iN I 46 k))))]) hC dX12_lays_131 rfl (nI_inc _) (by decide) rfl ?_
                    refine aw_goto (tgt := 31) hC dX12_lays_134 (by decide) ?_
                    refine aw_forget 3 (L2 := [some (.ref 44), some (.int gs), some (.int (nI (k + 1))), none, some (.int (nI (iN I 53 (iN I 46 k))))]) rfl ?_
                    refine aw_forget 4 (L2 := [some (.ref 44), some (.int gs), some (.int (nI (k + 1))), none, none]) rfl ?_
                    exact ihI (by omega) gs I2 (hLW.skip (fun hw hv => by clear hC hq; first | exact absurd ((wantsW_fr hfr k).mpr hw) (bI_d0.mp (by assumption)) | (exfalso; omega) | (rw [show idxW I k = (((3 * (iN I 46 k)) + (iN I 53 (iN I 46 k))) - 1) from by simp only [idxW]; omega]; assumption)))
                  · show AW X 0 0 110 [some (.ref 44), some (.int gs), some (.int (nI k)), some (.int (nI (iN I 53 (iN I 46 k)))), some (.int (nI (iN I 53 (iN I 46 k))))] [] T I2 J R
                    refine aw_aload_n hC dX12_lays_110 rfl ?_
                    refine aw_getR hC dX12_lays_111 aF_X12_132 rfl (tg_44 hT) (pr_44_48 hR) ?_
                    refine aw_iconst (v := 3) hC dX12_lays_114 (by decide) ?_
                    refine aw_aload_n hC dX12_lays_115 rfl ?_
                    refine aw_getR hC dX12_lays_116 aF_X12_13 rfl (tg_44 hT) (pr_44_2 hR) ?_
                    refine aw_iload_n hC dX12_lays_119 rfl ?_
                    refine aw_iaload_k (j := k) hC dX12_lays_120 (tg_46 hT) (nI_clamp (by omega)) (vp_in_nI (by omega) (by decide)) ?_
                    rw [hfr 46 (by decide)]
                    have hb38 := hS.fd k (by omega)
                    rw [hb38.1]
                    refine aw_imul hC dX12_lays_121 ?_
                    rw [show 3 * (nI (iN I 46 k)) = nI (3 * (iN I 46 k)) from pk_mul 3 (iN I 46 k)]
                    refine aw_iload hC dX12_lays_122 rfl ?_
                    refine aw_iadd hC dX12_lays_124 ?_
                    rw [show (nI (3 * (iN I 46 k))) + (nI (iN I 53 (iN I 46 k))) = nI ((3 * (iN I 46 k)) + (iN I 53 (iN I 46 k))) from nI_add (3 * (iN I 46 k)) (iN I 53 (iN I 46 k))]
                    refine aw_iconst (v := 1) hC dX12_lays_125 (by decide) ?_
                    refine aw_isub hC dX12_lays_126 ?_
                    rw [show (nI ((3 * (iN I 46 k)) + (iN I 53 (iN I 46 k)))) - 1 = nI (((3 * (iN I 46 k)) + (iN I 53 (iN I 46 k))) - 1) from pk_sub (a := ((3 * (iN I 46 k)) + (iN I 53 (iN I 46 k)))) (b := 1) (by omega)]
                    refine aw_iconst (v := 1) hC dX12_lays_127 (by decide) ?_
                    refine aw_bastore_k (j := (((3 * (iN I 46 k)) + (iN I 53 (iN I 46 k))) - 1)) hC dX12_lays_128 (tg_83 hT) (nI_clamp (by omega)) (vp_in_nI (by omega) (by decide)) (Or.inr rfl) ?_
                    refine aw_iconst (v := 1) hC dX12_lays_129 (by decide) ?_
                    refine aw_istore_n (L2 := [some (.ref 44), some (.int 1), some (.int (nI k)), some (.int (nI (iN I 53 (iN I 46 k)))), some (.int (nI (iN I 53 (iN I 46 k))))]) hC dX12_lays_130 rfl (by decide) rfl ?_
                    refine aw_iinc (v := nI (k + 1)) (L2 := [some (.ref 44), some (.int 1), some (.int (nI (k + 1))), some (.int (nI (iN I 53 (iN I 46 k)))), some (.int (nI (iN I 53 (iN I 46 k))))]) hC dX12_lays_131 rfl (nI_inc _) (by decide) rfl ?_
                    refine aw_goto (tgt := 31) hC dX12_lays_134 (by decide) ?_
                    refine aw_forget 3 (L2 := [some (.ref 44), some (.int 1), some (.int (nI (k + 1))), none, some (.int (nI (iN I 53 (iN I 46 k))))]) rfl ?_
                    refine aw_forget 4 (L2 := [some (.ref 44), some (.int 1), some (.int (nI (k + 1))), none, none]) rfl ?_
                    exact ihI (by omega) 1 _ (hLW.put hS (by omega) hwn (by omega) (by simp only [idxW]; omega) (by omega) (by assumption))
        exact loopI 0 (Nat.zero_le _) 0 I1 ⟨hfr1, hsnd, Or.inl ⟨rfl, rfl, fun s hs => absurd hs (by omega)⟩⟩
      refine loopW 9 (a_ur I 83 (fun j => if j < k then 0 else I 83 j)) (cntF_le _ _) (fun o ho => a_ur_ne ho) (fun W hW j hj hne => absurd (by rw [a_ur_self, if_pos (by omega)]) hne)
    · show AW X 0 0 8 [some (.ref 44), some (.int (nI k)), none, none, none] [] T (a_ur I 83 (fun j => if j < k then 0 else I 83 j)) J R
      have h1n : ¬ 9 ≤ k := fun q9 => h1 ((nI_leI (a := 9) (b := k) (by omega) (by omega)).mpr q9)
      refine aw_aload_n hC dX12_lays_8 rfl ?_
      refine aw_getR hC dX12_lays_9 aF_X12_132 rfl (tg_44 hT) (pr_44_48 hR) ?_
      refine aw_iload_n hC dX12_lays_12 rfl ?_
      refine aw_iconst (v := 0) hC dX12_lays_13 (by decide) ?_
      refine aw_bastore_k (j := k) hC dX12_lays_14 (tg_83 hT) (nI_clamp (by omega)) (vp_in_nI (by omega) (by decide)) (Or.inl rfl) ?_
      rw [show a_u (a_ur I 83 (fun j => if j < k then 0 else I 83 j)) 83 k 0 = a_ur I 83 (fun j => if j = k then 0 else (fun j => if j < k then 0 else I 83 j) j) from by rw [a_ur_put]]
      refine aw_iinc (v := nI (k + 1)) (L2 := [some (.ref 44), some (.int (nI (k + 1))), none, none, none]) hC dX12_lays_15 rfl (nI_inc _) (by decide) rfl ?_
      refine aw_goto (tgt := 2) hC dX12_lays_18 (by decide) ?_
      rw [show a_ur I 83 (fun j => if j = k then 0 else (fun j => if j < k then 0 else I 83 j) j) = a_ur I 83 (fun j => if j < (k + 1) then 0 else I 83 j) from a_ur_ext (fun j => by clear hC hq; (try dsimp only); grind)]
      exact ih0 (by omega)
  exact loop0 0 (Nat.zero_le _)
