/-- two stores tell the same of n statements -/
def DQ (M M' : aI) (n : Nat) : Prop := (∀ o, 45 ≤ o ∧ o ≤ 56 → M' o = M o) ∧ M 44 53 = 0 ∧ M' 44 53 = 0 ∧ ∀ s, s < n → M' 84 s = M 84 s ∧ M' 85 s = M 85 s ∧ M' 86 s = M 86 s
theorem DQ.sym {M M' : aI} {n : Nat} (h : DQ M M' n) : DQ M' M n := ⟨fun o ho => (h.1 o ho).symm, h.2.2.1, h.2.1, fun s hs => ⟨(h.2.2.2 s hs).1.symm, (h.2.2.2 s hs).2.1.symm, (h.2.2.2 s hs).2.2.symm⟩⟩
theorem ClosedW_eq {I I' : aI} {n : Nat} {W : Nat → Prop} (h : ∀ o, 45 ≤ o ∧ o ≤ 56 → I' o = I o) (g : ClosedW I n W) : ClosedW I' n W := fun s hs hw hv => by
  have e45 := h 45 (by decide)
  have e46 := h 46 (by decide)
  have e47 := h 47 (by decide)
  have e49 := h 49 (by decide)
  have e50 := h 50 (by decide)
  have e51 := h 51 (by decide)
  have e52 := h 52 (by decide)
  have e53 := h 53 (by decide)
  unfold idxW iN at *
  rw [e53, e46, e47]
  rw [e53, e46] at hv
  exact g s hs (by unfold wantsW at *; rw [e45, e49, e50, e51, e52] at hw; exact hw) hv
theorem Least_83 {I I' I1 I1' : aI} {n : Nat} (h : ∀ o, 45 ≤ o ∧ o ≤ 56 → I' o = I o) (a : Least I I1 n) (b : Least I' I1' n) : ∀ j, j < 9 → I1 83 j ≠ 0 → I1' 83 j ≠ 0 := fun j hj hne => a.2.1 _ (ClosedW_eq (fun o ho => (h o ho).symm) b.2.2) j hj hne
theorem mCh_eq {I I' : aI} {p : Nat} (h : ∀ k, k < 3 → (I 83 (3 * p + k) = 0 ↔ I' 83 (3 * p + k) = 0)) : mCh I p 3 = mCh I' p 3 := by
  simp only [mCh]
  have a := h 0 (by decide)
  have b := h 1 (by decide)
  have c := h 2 (by decide)
  split <;> split <;> (try split) <;> (try split) <;> (try split) <;> (try split) <;> simp_all
theorem mThere_eq {I I' I1 I1' : aI} {n s : Nat} (hS : SW I n) (h : ∀ o, 45 ≤ o ∧ o ≤ 56 → I' o = I o) (a : Least I I1 n) (b : Least I' I1' n) (hs : s < n) : mThere I1 s ↔ mThere I1' s := by
  rw [mThere_fr a.1, mThere_fr b.1, h 49 (by decide), h 52 (by decide), h 51 (by decide)]
  unfold iN
  rw [h 50 (by decide)]
  have e : I 49 s < 0 → mCh I1 (I 50 s).toNatClampNeg 3 = mCh I1' (I 50 s).toNatClampNeg 3 := fun h0 => by
    have hp := (hS.pk s hs h0).2
    refine mCh_eq (fun k hk => ?_)
    have u := Least_83 h a b (3 * (I 50 s).toNatClampNeg + k) (by unfold iN at hp; omega)
    have v := Least_83 (fun o ho => (h o ho).symm) b a (3 * (I 50 s).toNatClampNeg + k) (by unfold iN at hp; omega)
    exact ⟨fun q => Classical.byContradiction (fun z => v z q), fun q => Classical.byContradiction (fun z => u z q)⟩
  constructor
  · rintro (q | ⟨q1, q2, q3⟩)
    · exact Or.inl q
    · exact Or.inr ⟨q1, q2, by rw [← e q1]; exact q3⟩
  · rintro (q | ⟨q1, q2, q3⟩)
    · exact Or.inl q
    · exact Or.inr ⟨q1, q2, by rw [e q1]; exact q3⟩
theorem mLast_eq {p q : Nat → Bool} : ∀ {n : Nat}, (∀ j, j < n → p j = q j) → mLast p n = mLast q n
  | 0, _ => rfl
  | n + 1, h => by simp only [mLast]; rw [h n (by omega), mLast_eq (fun j hj => h j (by omega))]
theorem mGuard_eq {I I' : aI} {n s : Nat} (h : ∀ o, 45 ≤ o ∧ o ≤ 56 → I' o = I o) (h84 : ∀ j, j < n → I' 84 j = I 84 j) (hs : s < n) : mGuard I' s = mGuard I s := by
  have e45 := h 45 (by decide)
  have e49 := h 49 (by decide)
  have e50 := h 50 (by decide)
  have e51 := h 51 (by decide)
  unfold mGuard
  rw [mLast_eq (q := fun j => decide (I 84 j ≠ 0) && decide (mTog I s j)) (fun j hj => by unfold mTog; simp only [h84 j (by omega), e49, e50, e51]), e45]
theorem mTold_eq {I I' : aI} {n : Nat} {k f : Int32} (h45 : I' 45 = I 45) (h46 : I' 46 = I 46) (h84 : ∀ j, j < n → I' 84 j = I 84 j) : mTold I' n k f = mTold I n k f := anyB_cg (fun j hj => by rw [h84 j hj, h45, h46])
theorem mHid_eq {I I' : aI} {n s : Nat} {f : Int32} (h45 : I' 45 = I 45) (h46 : I' 46 = I 46) (h49 : I' 49 = I 49) (h50 : I' 50 = I 50) (h84 : ∀ j, j < n → I' 84 j = I 84 j) : mHid I' n f s = mHid I n f s := anyB_cg (fun j hj => by rw [h84 j hj, h45, h46, h49, h50])
theorem mFault_eq {I I' : aI} {n s : Nat} (h : ∀ o, 45 ≤ o ∧ o ≤ 56 → I' o = I o) (hd : I' 44 13 = I 44 13) (h84 : ∀ j, j < n → I' 84 j = I 84 j) : mFault I' n s = mFault I n s := by
  have e45 := h 45 (by decide)
  have e46 := h 46 (by decide)
  have e47 := h 47 (by decide)
  have e49 := h 49 (by decide)
  have e50 := h 50 (by decide)
  have e54 := h 54 (by decide)
  have e55 := h 55 (by decide)
  have e56 := h 56 (by decide)
  unfold mFault mNotListed mHidden mMay mPair
  simp only [mTold_eq e45 e46 h84, mHid_eq e45 e46 e49 e50 h84]
  simp only [e45, e46, e47, e49, e54, e55, e56, hd]
theorem lays_o {I1 : aI} {A B C : Nat → Int32} {o : Nat} (h : o ≠ 85) (h2 : o ≠ 86) : a_ur (a_ur (a_ur I1 84 A) 85 B) 86 C o = a_ur I1 84 A o := by rw [a_ur_ne h2, a_ur_ne h]
theorem lays_85 {I1 : aI} {A B C : Nat → Int32} : a_ur (a_ur (a_ur I1 84 A) 85 B) 86 C 85 = B := by rw [a_ur_ne (by decide), a_ur_self]
theorem lays_86 {I1 : aI} {A B C : Nat → Int32} : a_ur (a_ur (a_ur I1 84 A) 85 B) 86 C 86 = C := a_ur_self
theorem LaysR_DQ {I I' I3 I3' : aI} {n : Nat} (hS : SW I n) (h : StEq I I') (a : LaysR I I3 n) (b : LaysR I' I3' n) : (∀ o, 45 ≤ o ∧ o ≤ 56 → I3' o = I3 o) ∧ ∀ s, s < n → I3' 84 s = I3 84 s ∧ I3' 85 s = I3 85 s ∧ I3' 86 s = I3 86 s := by
  obtain ⟨I1, a1, a2⟩ := a
  obtain ⟨I1', b1, b2⟩ := b
  have hr1 : ∀ o, 45 ≤ o ∧ o ≤ 56 → I1' o = I1 o := fun o ho => by rw [a1.1 o (by omega), b1.1 o (by omega)]; exact h.1 o ho
  have hd1 : I1' 44 13 = I1 44 13 := by rw [a1.1 44 (by decide), b1.1 44 (by decide)]; exact h.2.2
  have h84 : ∀ j, j < n → S84 I1' n j = S84 I1 n j := fun j hj => by
    simp only [S84]; rw [if_pos hj, if_pos hj]
    exact bI_cg (mThere_eq hS h.1 a1 b1 hj).symm
  have hA : ∀ o, 45 ≤ o ∧ o ≤ 56 → a_ur I1' 84 (S84 I1' n) o = a_ur I1 84 (S84 I1 n) o := fun o ho => by rw [a_ur_ne (by omega), a_ur_ne (by omega)]; exact hr1 o ho
  have hB : ∀ j, j < n → a_ur I1' 84 (S84 I1' n) 84 j = a_ur I1 84 (S84 I1 n) 84 j := fun j hj => by rw [a_ur_self, a_ur_self]; exact h84 j hj
  have hD : a_ur I1' 84 (S84 I1' n) 44 13 = a_ur I1 84 (S84 I1 n) 44 13 := by rw [a_ur_ne (by decide), a_ur_ne (by decide)]; exact hd1
  refine ⟨fun o ho => ?_, fun s hs => ⟨?_, ?_, ?_⟩⟩
  · rw [a2, b2, lays_o (by omega) (by omega), lays_o (by omega) (by omega)]; exact hA o ho
  · rw [a2, b2, lays_o (by decide) (by decide), lays_o (by decide) (by decide)]; exact hB s hs
  · rw [a2, b2, lays_85, lays_85]
    simp only [S85]; rw [if_pos hs, if_pos hs, mGuard_eq hA hB hs, hA 45 (by decide)]
  · rw [a2, b2, lays_86, lays_86]
    simp only [S86]; rw [if_pos hs, if_pos hs, mFault_eq hA hD hB, hA 45 (by decide), hB s hs]
theorem nBy_eq {I I' : aI} {s : Nat} {S : Nat → Int64} (h : ∀ o, 45 ≤ o ∧ o ≤ 56 → I' o = I o) : nBy I' s S = nBy I s S := by
  have e45 := h 45 (by decide)
  have e46 := h 46 (by decide)
  have e47 := h 47 (by decide)
  have e48 := h 48 (by decide)
  unfold nBy iN; rw [e45, e46, e47, e48]
theorem DQ.qcOn {M M' : aI} {n s : Nat} {S : Nat → Int64} (h : DQ M M' n) (hs : s < n) : cOn M' S s ↔ cOn M S s := by
  obtain ⟨h84, h85, h86⟩ := h.2.2.2 s hs
  unfold cOn hOn
  rw [h84, h85, h86, h.1 45 (by decide), h.1 46 (by decide), h.1 47 (by decide), h.2.1, h.2.2.1]
  exact ⟨fun q => q.imp id (fun z => absurd rfl z.1), fun q => q.imp id (fun z => absurd rfl z.1)⟩
theorem DQ.stb {M M' : aI} {n : Nat} {S : Nat → Int64} (h : DQ M M' n) (g : Stb M n S) : Stb M' n S := fun s hs c => by rw [nBy_eq h.1]; exact g s hs ((h.qcOn hs).mp c)
theorem DQ.fix {M M' : aI} {n : Nat} {S0 S : Nat → Int64} (h : DQ M M' n) (g : Fix M n S0 S) : Fix M' n S0 S := ⟨g.1, h.stb g.2.1, fun T hT hs => g.2.2 T hT (h.sym.stb hs)⟩
theorem DQ.qdOn {M M' : aI} {n s f : Nat} {S : Nat → Int64} (h : DQ M M' n) (hs : s < n) : dOn M' S f s ↔ dOn M S f s := by
  unfold dOn; rw [h.1 45 (by decide), h.1 46 (by decide)]
  exact ⟨fun q => ⟨q.1, q.2.1, (h.qcOn hs).mp q.2.2⟩, fun q => ⟨q.1, q.2.1, (h.qcOn hs).mpr q.2.2⟩⟩
theorem DQ.qlay {M M' : aI} {n : Nat} (h : DQ M M' n) (s : Nat) : lay M' s = lay M s := by unfold lay; rw [h.1 49 (by decide), h.1 54 (by decide)]
theorem DQ.qtop {M M' : aI} {n : Nat} {S : Nat → Int64} {f : Nat} (h : DQ M M' n) : ∀ k, k ≤ n → mTop M' S f k = mTop M S f k
  | 0, _ => rfl
  | k + 1, hk => by
    simp only [mTop]; rw [h.qtop k (by omega), h.qlay]
    by_cases c : dOn M S f k
    · rw [if_pos c, if_pos ((h.qdOn (by omega)).mpr c)]
    · rw [if_neg c, if_neg (fun q => c ((h.qdOn (by omega)).mp q))]
theorem DQ.qdef {M M' : aI} {n : Nat} {S : Nat → Int64} {f : Nat} {t : Int32} (h : DQ M M' n) : ∀ k, k ≤ n → mDef M' S f t k = mDef M S f t k
  | 0, _ => rfl
  | k + 1, hk => by
    simp only [mDef]; rw [h.qdef k (by omega), h.qlay]
    have e : iN M' 47 k = iN M 47 k := by unfold iN; rw [h.1 47 (by decide)]
    rw [e]
    by_cases c : dOn M S f k ∧ lay M k = t
    · rw [if_pos c, if_pos ⟨(h.qdOn (by omega)).mpr c.1, c.2⟩]
    · rw [if_neg c, if_neg (fun q => c ⟨(h.qdOn (by omega)).mp q.1, q.2⟩)]
theorem DQ.dset {M M' : aI} {n : Nat} {S : Nat → Int64} {f : Nat} (h : DQ M M' n) : dSet M' n S f = dSet M n S f := by unfold dSet; rw [h.qtop n (Nat.le_refl _), h.qdef n (Nat.le_refl _)]
theorem DQ.defR {M M' : aI} {n f : Nat} {S S1 S2 : Nat → Int64} (h : DQ M M' n) (a : DefR M n f S S1) (b : DefR M' n f S S2) : S1 = S2 := by
  unfold DefR at a b
  rw [h.dset] at b
  by_cases c : sCount (dSet M n S f) = 1
  · rw [if_pos c] at a b
    obtain ⟨A, a1, a2⟩ := a
    obtain ⟨B, b1, b2⟩ := b
    rw [a2, b2, Fix_uniq (h.fix a1) b1]
  · rw [if_neg c] at a b; rw [a, b]
theorem DQ.ch {M M' : aI} {n : Nat} {P : Nat → Int64} (h : DQ M M' n) : ∀ (f : Nat) (S S' : Nat → Int64), Ch M n P f S → Ch M' n P f S' → S = S'
  | 0, S, S', a, b => by rw [show S = P from a, show S' = P from b]
  | f + 1, S, S', a, b => by
    obtain ⟨A, a1, a2⟩ := a
    obtain ⟨B, b1, b2⟩ := b
    have e := h.ch f A B a1 b1
    rw [← e] at b2
    by_cases c : 1 < sCount (A f)
    · rw [if_pos c] at a2 b2; exact h.defR a2 b2
    · rw [if_neg c] at a2 b2; rw [a2, b2]
/-- a solution is one -/
theorem SolR_uniq {I I' M M' : aI} {n : Nat} {P S P' S' : Nat → Int64} (hS : SW I n) (h : StEq I I') (a : SolR I M n P S) (b : SolR I' M' n P' S') : DQ M M' n ∧ P' = P ∧ S' = S ∧ M' 44 57 = M 44 57 := by
  obtain ⟨A, a1, a2, a3, a4⟩ := a
  obtain ⟨B, b1, b2, b3, b4⟩ := b
  have q := LaysR_DQ hS h a1 b1
  have hd : DQ M M' n := ⟨fun o ho => by rw [a2, b2, a_u_row (by omega), a_u_row (by omega), a_u_row (by omega), a_u_row (by omega)]; exact q.1 o ho, by rw [a2, a_u_ne (by decide), a_u_self], by rw [b2, a_u_ne (by decide), a_u_self], fun s hs => by
    rw [a2, b2, a_u_row (show 84 ≠ 44 by decide), a_u_row (show 84 ≠ 44 by decide), a_u_row (show 84 ≠ 44 by decide), a_u_row (show 84 ≠ 44 by decide), a_u_row (show 85 ≠ 44 by decide), a_u_row (show 85 ≠ 44 by decide), a_u_row (show 85 ≠ 44 by decide), a_u_row (show 85 ≠ 44 by decide), a_u_row (show 86 ≠ 44 by decide), a_u_row (show 86 ≠ 44 by decide), a_u_row (show 86 ≠ 44 by decide), a_u_row (show 86 ≠ 44 by decide)]; exact q.2 s hs⟩
  have eP : P' = P := Fix_uniq b3 (hd.fix a3)
  rw [eP] at b4
  refine ⟨hd, eP, ?_, by rw [a2, b2, a_u_self, a_u_self, eP]⟩
  by_cases c : anyB (fun j => decide (P j = 0)) 10 = true
  · rw [if_pos c] at a4 b4; rw [a4, b4]
  · rw [if_neg c] at a4 b4; exact (hd.ch 10 S S' a4 b4).symm
theorem DQ.qtnS {M M' : aI} {n s : Nat} {mj : aJ} {W : Nat → Prop} (h : DQ M M' n) (hs : s < n) (g : tnS M mj s W) : tnS M' mj s W := by
  obtain ⟨h84, h85, h86⟩ := h.2.2.2 s hs
  unfold tnS tnW gfld isPr mOpen iN at *
  rw [h84, h85, h86, h.1 45 (by decide), h.1 46 (by decide), h.1 47 (by decide)]
  exact g
theorem DQ.tnL {M M' : aI} {n : Nat} {mj : aJ} {v v' : Int32} (h : DQ M M' n) (a : TnL M mj n v) (b : TnL M' mj n v') : v' = v := b_ext fun i hi => by
  have u := a.2.2 _ (fun s hs => h.sym.qtnS hs (b.2.1 s hs)) i
  have w := b.2.2 _ (fun s hs => h.qtnS hs (a.2.1 s hs)) i
  cases e : bt v i <;> cases e2 : bt v' i <;> simp_all
theorem fs_eq {f g : Nat → Int32} : ∀ {n : Nat}, (∀ c, c < n → f c = g c) → fs f n = fs g n
  | 0, _ => rfl
  | n + 1, h => by simp only [fs]; rw [fs_eq (fun c hc => h c (by omega)), h n (by omega)]
theorem cfl_cq {I I' : aI} {n : Nat} {q : Nat → Bool} (h : ∀ o, 45 ≤ o ∧ o ≤ 56 → I' o = I o) : cfl I' n q = cfl I n q := cfl_cg (h 45 (by decide)) (h 46 (by decide)) (h 47 (by decide)) (h 48 (by decide))
theorem cfV_eq {I I' : aI} {n : Nat} (h : ∀ o, 45 ≤ o ∧ o ≤ 56 → I' o = I o) (h93 : ∀ j, j < n → I' 93 j = I 93 j) : cfV I' n = cfV I n := by
  have e1 : lc1 I' n = lc1 I n := fs_eq (fun c hc => by unfold lf1; rw [cfl_cq h, h93 c hc])
  have e2 : lc2 I' n = lc2 I n := fs_eq (fun c hc => fs_eq (fun b hb => by unfold lf2; rw [cfl_cq h, h93 c hc, h93 b (by omega)]))
  have e3 : lc3 I' n = lc3 I n := fs_eq (fun c hc => fs_eq (fun b hb => fs_eq (fun a ha => by unfold lf3; rw [cfl_cq h, h93 c hc, h93 b (by omega), h93 a (by omega)])))
  unfold cfV; rw [e1, e2, e3]
theorem DQ.qcfA {M M' : aI} {n : Nat} {P : Nat → Int64} (h : DQ M M' n) (h57 : M' 44 57 = M 44 57) : cfA M' P n = cfA M P n := by
  unfold cfA
  rw [h57, cfV_eq (I := a_ur M 93 (mayR M P n)) (I' := a_ur M' 93 (mayR M' P n)) (fun o ho => by rw [a_ur_ne (by omega), a_ur_ne (by omega)]; exact h.1 o ho) (fun j hj => by
    rw [a_ur_self, a_ur_self]; simp only [mayR]; rw [if_pos hj, if_pos hj, show decide (cOn M' P j) = decide (cOn M P j) from decide_eq_decide.mpr (h.qcOn hj), h.1 45 (by decide)])]
