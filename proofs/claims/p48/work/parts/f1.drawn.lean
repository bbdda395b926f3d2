/-! THE DRAWN TURNS: what holds of their statements -/
def DS (m : aI) (n : Nat) : Prop := (∀ s, s < n → iN m 45 s ≤ 7 ∧ iN m 46 s ≤ 3 ∧ (m 45 s = 5 ∨ m 45 s = 6 → iN m 47 s ≤ 3) ∧ 0 ≤ m 49 s) ∧ ∀ f, f < 10 → m 55 f = 0
def DSol (m : aI) (n : Nat) (P S : Nat → Int64) (M : aI) : Prop :=
  (∀ o, 45 ≤ o → o ≤ 56 → M o = m o) ∧ M 44 53 = 0 ∧ M 44 57 = bI (anyB (fun j => decide (P j = 0)) 10) ∧ (∀ s, s < n → M 84 s = bI (decide (m 52 s = 0))) ∧ (∀ s, s < n → M 86 s = 0) ∧ (∀ s, s < n → M 85 s = if m 45 s < 7 then mGuard M s else -1) ∧ Fix M n full P ∧ (if anyB (fun j => decide (P j = 0)) 10 = true then S = P else Ch M n P 10 S)
theorem anyB_no {p : Nat → Bool} {n : Nat} (h : ∀ j, j < n → p j = false) : anyB p n = false := Bool.eq_false_iff.mpr (fun q => by
  obtain ⟨k, h1, h2⟩ := anyB_iff.mp q
  rw [h k h1] at h2; cases h2)
theorem iN_ne {m : aI} {o s k : Nat} {v : Int32} (h : iN m o s ≤ k) (hv : k < v.toNatClampNeg) : m o s ≠ v := fun z => by
  unfold iN at h; rw [z] at h; omega
theorem DSol.of {m M : aI} {n : Nat} {P S : Nat → Int64} (hD : DS m n) (hn : iN m 44 0 = n) (h : SvM m P S M) : DSol m n P S M := by
  obtain ⟨m0, e0, I3, ⟨I1, hL, e3⟩, eM, hF, hC⟩ := h
  rw [hn] at hL e3 hF hC
  have rA : ∀ o, 45 ≤ o → o ≤ 56 → a_ur I1 84 (S84 I1 n) o = m o := fun o u v => by rw [a_ur_ne (by omega), hL.1 o (by omega)]; exact (e0.1 o ⟨u, v⟩).symm
  have r1 : ∀ o, 45 ≤ o → o ≤ 56 → I1 o = m o := fun o u v => by rw [hL.1 o (by omega)]; exact (e0.1 o ⟨u, v⟩).symm
  have rM : ∀ o, 45 ≤ o → o ≤ 56 → M o = m o := fun o u v => by rw [eM, a_u_row (by omega), a_u_row (by omega), e3, a_ur_ne (by omega), a_ur_ne (by omega)]; exact rA o u v
  have m84 : ∀ s, s < n → M 84 s = a_ur I1 84 (S84 I1 n) 84 s := fun s _ => by rw [eM, a_u_row (by decide), a_u_row (by decide), e3, a_ur_ne (by decide), a_ur_ne (by decide)]
  have a84 : ∀ s, s < n → a_ur I1 84 (S84 I1 n) 84 s = bI (decide (m 52 s = 0)) := fun s hs => by
    rw [a_ur_self]
    show (if s < n then _ else _) = _
    rw [if_pos hs]
    refine bI_cg ?_
    have h49 := (hD.1 s hs).2.2.2
    show (0 ≤ I1 49 s ∧ I1 52 s = 0) ∨ (I1 49 s < 0 ∧ 0 < I1 51 s ∧ I1 51 s = mCh I1 (iN I1 50 s) 3) ↔ _
    rw [r1 49 (by decide) (by decide), r1 52 (by decide) (by decide)]
    exact ⟨fun z => z.elim (fun z => z.2) (fun z => absurd z.1 (Int32.not_lt.mpr h49)), fun z => Or.inl ⟨h49, z⟩⟩
  refine ⟨rM, ?_, ?_, fun s hs => (m84 s hs).trans (a84 s hs), fun s hs => ?_, fun s hs => ?_, hF, hC⟩
  · rw [eM, a_u_ne (by decide), a_u_self]
  · rw [eM, a_u_self]
  · rw [eM, a_u_row (by decide), a_u_row (by decide), e3, a_ur_self]
    show (if s < n then _ else _) = (0 : Int32)
    rw [if_pos hs]
    have h45 : ∀ (v : Int32), 7 < v.toNatClampNeg → ∀ j, j < n → a_ur I1 84 (S84 I1 n) 45 j ≠ v := fun v hv j hj => by
      rw [rA 45 (by decide) (by decide)]; exact iN_ne (hD.1 j hj).1 hv
    have n1 : ¬ mNotListed (a_ur I1 84 (S84 I1 n)) n s := fun z => by
      have q := z.1
      rw [show mTold (a_ur I1 84 (S84 I1 n)) n 9 (-1) = false from anyB_no (fun j hj => by rw [decide_eq_false (h45 9 (by decide) j hj), Bool.and_false, Bool.false_and])] at q
      cases q
    have nh : ∀ f, mHid (a_ur I1 84 (S84 I1 n)) n f s = false := fun f => anyB_no (fun j hj => by rw [decide_eq_false (h45 10 (by decide) j hj), Bool.and_false, Bool.false_and, Bool.false_and])
    have n2 : ¬ mHidden (a_ur I1 84 (S84 I1 n)) n s := fun z => by
      rcases z with z | z
      · rw [nh] at z; cases z
      · rw [nh] at z; cases z.2
    have n3 : mMay (a_ur I1 84 (S84 I1 n)) s := Or.inl (by
      rw [rA 55 (by decide) (by decide), rA 46 (by decide) (by decide)]
      have q := (hD.1 s hs).2.1
      exact hD.2 _ (by unfold iN at q; omega))
    split
    · unfold mFault
      rw [if_neg n1, if_neg n2, if_pos n3]
    · rfl
  · rw [eM, a_u_row (by decide), a_u_row (by decide), e3, a_ur_ne (by decide), a_ur_self]
    show (if s < n then _ else _) = _
    rw [if_pos hs, rA 45 (by decide) (by decide)]
    have g : mGuard (a_u (a_u (a_ur (a_ur (a_ur I1 84 (S84 I1 n)) 85 (S85 (a_ur I1 84 (S84 I1 n)) n)) 86 (S86 (a_ur I1 84 (S84 I1 n)) n n)) 44 53 0) 44 57 (bI (anyB (fun j => decide (P j = 0)) 10))) s = mGuard (a_ur I1 84 (S84 I1 n)) s := mGuard_eq (n := n) (fun o ho => by rw [a_u_row (by omega), a_u_row (by omega), a_ur_ne (by omega), a_ur_ne (by omega)]) (fun j _ => by rw [a_u_row (by decide), a_u_row (by decide), a_ur_ne (by decide), a_ur_ne (by decide)]) hs
    rw [g]
theorem nBy_ag {I : aI} {s j : Nat} {T S : Nat → Int64} (hf : T (iN I 46 s) = S (iN I 46 s)) (ha : I 45 s = 5 ∨ I 45 s = 6 → T (iN I 47 s) = S (iN I 47 s)) (hj : T j = S j) : nBy I s T j = nBy I s S j := by
  unfold nBy
  by_cases k0 : I 45 s = 0
  · simp only [if_pos k0, sUpd, hf, hj]
  by_cases k1 : I 45 s = 1
  · simp only [if_neg k0, if_pos k1, sUpd, hf, hj]
  by_cases k2 : I 45 s = 2
  · simp only [if_neg k0, if_neg k1, if_pos k2, sUpd, hf, hj]
  by_cases k3 : I 45 s = 3
  · simp only [if_neg k0, if_neg k1, if_neg k2, if_pos k3, sUpd, hf, hj]
  by_cases k5 : I 45 s = 5
  · have ha9 := ha (Or.inl k5)
    simp only [if_neg k0, if_neg k1, if_neg k2, if_neg k3, if_pos k5, sUpd, hf, hj, ha9]
  by_cases k6 : I 45 s = 6
  · have ha9 := ha (Or.inr k6)
    simp only [if_neg k0, if_neg k1, if_neg k2, if_neg k3, if_neg k5, if_pos k6, sUpd, hf, hj, ha9]
  simp only [if_neg k0, if_neg k1, if_neg k2, if_neg k3, if_neg k5, if_neg k6, hj]
theorem DSol.gd {m M : aI} {n s : Nat} {P S : Nat → Int64} (h : DSol m n P S M) (hn : n ≤ 30) (hs : s < n) : M 85 s = -1 ∨ ∃ g, g < n ∧ M 85 s = nI g := by
  rw [h.2.2.2.2.2.1 s hs]
  split
  · exact gv_g hs hn
  · exact Or.inl rfl
/-- fields beyond 3 are never narrowed -/
theorem DSol.hi {m M : aI} {n : Nat} {P S S0 S1 : Nat → Int64} (hD : DS m n) (hn : n ≤ 30) (h : DSol m n P S M) (hF : Fix M n S0 S1) : ∀ j, 3 < j → S1 j = S0 j := by
  have e46 : ∀ s, s < n → iN M 46 s ≤ 3 := fun s hs => by unfold iN; rw [h.1 46 (by decide) (by decide)]; exact (hD.1 s hs).2.1
  have hag : ∀ j, j ≤ 3 → (fun j => if 3 < j then S0 j else S1 j) j = S1 j := fun j hj => by show (if 3 < j then S0 j else S1 j) = S1 j; rw [if_neg (by omega)]
  have hst : Stb M n (fun j => if 3 < j then S0 j else S1 j) := by
    intro s hs hc
    have hc' : cOn M S1 s := by
      rcases hc with c | c
      · refine Or.inl ⟨c.1, c.2.1, c.2.2.1, c.2.2.2.1, ?_⟩
        rcases h.gd hn hs with g | ⟨g, hg, e⟩
        · exact Or.inl (by rw [g]; decide)
        · have q := c.2.2.2.2
          rcases q with q | q
          · exact Or.inl q
          · refine Or.inr ?_
            rw [e, nI_clamp (by omega)] at q ⊢
            have q2 : (fun j => if 3 < j then S0 j else S1 j) (M 46 g).toNatClampNeg = S1 (M 46 g).toNatClampNeg := hag _ (e46 g hg)
            rw [q2] at q
            exact q
      · exact absurd h.2.1 c.1
    have e := hF.2.1 s hs hc'
    funext j
    by_cases hj : 3 < j
    · by_cases p : M 45 s = 5 ∨ M 45 s = 6
      · have p' : m 45 s = 5 ∨ m 45 s = 6 := by rw [← h.1 45 (by decide) (by decide)]; exact p
        have ha : iN M 47 s ≤ 3 := by unfold iN; rw [h.1 47 (by decide) (by decide)]; exact (hD.1 s hs).2.2.1 p'
        exact nBy_o0 (by have := e46 s hs; omega) (by omega)
      · exact nBy_o1 (fun z => p (Or.inl z)) (fun z => p (Or.inr z)) (by have := e46 s hs; omega)
    · rw [nBy_ag (S := S1) (hag _ (e46 s hs)) (fun p => hag _ (by
        have p' : m 45 s = 5 ∨ m 45 s = 6 := by rw [← h.1 45 (by decide) (by decide)]; exact p
        unfold iN; rw [h.1 47 (by decide) (by decide)]; exact (hD.1 s hs).2.2.1 p')) (hag j (by omega)), e]
      exact (hag j (by omega)).symm
  have hle : SLe (fun j => if 3 < j then S0 j else S1 j) S0 := fun j => by
    show sLe (if 3 < j then S0 j else S1 j) (S0 j)
    by_cases hj : 3 < j
    · rw [if_pos hj]; exact sLe_r _
    · rw [if_neg hj]; exact hF.1 j
  intro j hj
  have q := hF.2.2 _ hle hst j
  rw [if_pos hj] at q
  exact sLe_as (hF.1 j) q
theorem DSol.chi {m M : aI} {n : Nat} {P S Q : Nat → Int64} (hD : DS m n) (hn : n ≤ 30) (h : DSol m n P S M) : ∀ (f : Nat) (S1 : Nat → Int64), f ≤ 10 → Ch M n Q f S1 → ∀ j, 3 < j → S1 j = Q j
  | 0, S1, _, hc, j, _ => by rw [show S1 = Q from hc]
  | f + 1, S1, hf, hc, j, hj => by
    obtain ⟨X, h1, h2⟩ := hc
    have ih := DSol.chi hD hn h f X (by omega) h1 j hj
    split at h2
    · unfold DefR at h2
      split at h2
      · next c =>
        obtain ⟨S3, h3, h4⟩ := h2
        by_cases f3 : 3 < f
        · exfalso
          have z : ∀ k, k ≤ n → mDef M X f (mTop M X f n) k = 0 := by
            intro k
            induction k with
            | zero => intro _; rfl
            | succ k ihk =>
              intro hk
              unfold mDef
              rw [if_neg (fun q => ?_)]
              · exact ihk (by omega)
              · have q2 := q.1.2.1
                have q3 := (hD.1 k (by omega)).2.1
                rw [h.1 46 (by decide) (by decide)] at q2
                unfold iN at q3
                rw [q2] at q3
                rw [nI_clamp (by omega)] at q3; omega
          have z0 := z n (Nat.le_refl _)
          have c1 : sCount (mDef M X f (mTop M X f n) n &&& X f) = 1 := c
          rw [z0, Int64.zero_and] at c1
          exact absurd c1 (by decide +kernel)
        · have q := DSol.hi hD hn h h3 j hj
          rw [if_neg (by omega)] at q
          rw [h4]
          split
          · exact ih
          · rw [q]; exact ih
      · rw [h2]; exact ih
    · rw [h2]; exact ih
/-- what is removed doesn't count -/
theorem mGuard_ag {I I' : aI} {n s : Nat} (hn : n ≤ 30) (hs : s < n) (h : ∀ o, o = 45 ∨ o = 49 ∨ o = 50 ∨ o = 51 ∨ o = 84 → ∀ j, j < n → I' o j = I o j) : mGuard I' s = mGuard I s := by
  have e : mLast (fun j => decide (I' 84 j ≠ 0) && decide (mTog I' s j)) s = mLast (fun j => decide (I 84 j ≠ 0) && decide (mTog I s j)) s := mLast_eq (fun j hj => by
    show (decide (I' 84 j ≠ 0) && decide (I' 49 s = I' 49 j ∧ I' 50 s = I' 50 j ∧ I' 51 s = I' 51 j)) = (decide (I 84 j ≠ 0) && decide (I 49 s = I 49 j ∧ I 50 s = I 50 j ∧ I 51 s = I 51 j))
    rw [h 84 (by decide) j (by omega), h 49 (by decide) j (by omega), h 50 (by decide) j (by omega), h 51 (by decide) j (by omega), h 49 (by decide) s hs, h 50 (by decide) s hs, h 51 (by decide) s hs])
  unfold mGuard
  simp only [e]
  rcases mLast_lt (p := fun j => decide (I 84 j ≠ 0) && decide (mTog I s j)) (N := 30) (by decide) (n := s) (by omega) with q | ⟨k, hk, q, _⟩
  · rw [q]
    rw [if_neg (fun z => absurd z.1 (by decide)), if_neg (fun z => absurd z.1 (by decide))]
  · rw [q, nI_clamp (by omega), h 45 (by decide) k (by omega)]
theorem nBy_cgs {I I' : aI} {s : Nat} {S : Nat → Int64} (h : ∀ o, 45 ≤ o → o ≤ 48 → I' o s = I o s) : nBy I' s S = nBy I s S := by
  unfold nBy iN
  rw [h 45 (by decide) (by decide), h 46 (by decide) (by decide), h 47 (by decide) (by decide), h 48 (by decide) (by decide)]
theorem DSol.less {m1 m2 M1 M2 : aI} {n : Nat} {P1 S1 P2 S2 : Nat → Int64} (hn : n ≤ 29) (h1 : DSol m1 n P1 S1 M1) (h2 : DSol m2 (n + 1) P2 S2 M2) (hag : ∀ o, 45 ≤ o → o ≤ 52 → ∀ s, s < n → m2 o s = m1 o s) (hr : m2 52 n ≠ 0) : P1 = P2 := by
  have eM : ∀ o, 45 ≤ o → o ≤ 52 → ∀ s, s < n → M2 o s = M1 o s := fun o u v s hs => by rw [h1.1 o u (by omega), h2.1 o u (by omega)]; exact hag o u v s hs
  have e84 : ∀ s, s < n → M2 84 s = M1 84 s := fun s hs => by rw [h1.2.2.2.1 s hs, h2.2.2.2.1 s (by omega), hag 52 (by decide) (by decide) s hs]
  have e86 : ∀ s, s < n → M2 86 s = M1 86 s := fun s hs => by rw [h1.2.2.2.2.1 s hs, h2.2.2.2.2.1 s (by omega)]
  have e85 : ∀ s, s < n → M2 85 s = M1 85 s := fun s hs => by
    rw [h1.2.2.2.2.2.1 s hs, h2.2.2.2.2.2.1 s (by omega), hag 45 (by decide) (by decide) s hs, mGuard_ag (n := n) (by omega) hs (I := M1) (I' := M2) (fun o ho j hj => by
      rcases ho with rfl | rfl | rfl | rfl | rfl
      · exact eM 45 (by decide) (by decide) j hj
      · exact eM 49 (by decide) (by decide) j hj
      · exact eM 50 (by decide) (by decide) j hj
      · exact eM 51 (by decide) (by decide) j hj
      · exact e84 j hj)]
  have on : ∀ (S : Nat → Int64) (s : Nat), s < n → (cOn M2 S s ↔ cOn M1 S s) := fun S s hs => by
    have hO : hOn M2 S s ↔ hOn M1 S s := by
      show (M2 85 s < 0 ∨ _) ↔ (M1 85 s < 0 ∨ _)
      rw [e85 s hs]
      rcases h1.gd (by omega) hs with g | ⟨g, hg, e⟩
      · exact ⟨fun _ => Or.inl (by rw [g]; decide), fun _ => Or.inl (by rw [g]; decide)⟩
      · rw [e, nI_clamp (by omega), eM 46 (by decide) (by decide) g hg, eM 47 (by decide) (by decide) g hg]
    show ((M2 44 53 = 0 ∧ M2 84 s ≠ 0 ∧ M2 45 s < 7 ∧ M2 86 s = 0 ∧ hOn M2 S s) ∨ (M2 44 53 ≠ 0 ∧ M2 87 s ≠ 0)) ↔ ((M1 44 53 = 0 ∧ M1 84 s ≠ 0 ∧ M1 45 s < 7 ∧ M1 86 s = 0 ∧ hOn M1 S s) ∨ (M1 44 53 ≠ 0 ∧ M1 87 s ≠ 0))
    rw [h1.2.1, h2.2.1, e84 s hs, e86 s hs, eM 45 (by decide) (by decide) s hs, hO]
    exact ⟨fun z => z.elim Or.inl (fun z => absurd rfl z.1), fun z => z.elim Or.inl (fun z => absurd rfl z.1)⟩
  have nn : ∀ S : Nat → Int64, ¬ cOn M2 S n := fun S c => by
    rcases c with c | c
    · have q := c.2.1
      rw [h2.2.2.2.1 n (by omega), decide_eq_false hr] at q
      exact q rfl
    · exact c.1 h2.2.1
  have stb : ∀ S : Nat → Int64, Stb M2 (n + 1) S ↔ Stb M1 n S := fun S => ⟨fun g s hs c => by
      rw [← nBy_cgs (I := M1) (I' := M2) (fun o u v => eM o u (by omega) s hs)]; exact g s (by omega) ((on S s hs).mpr c), fun g s hs c => by
      by_cases e : s = n
      · rw [e] at c; exact (nn S c).elim
      · have hs' : s < n := by omega
        rw [nBy_cgs (I := M1) (I' := M2) (fun o u v => eM o u (by omega) s hs')]; exact g s hs' ((on S s hs').mp c)⟩
  have F1 := h1.2.2.2.2.2.2.1
  have F2 := h2.2.2.2.2.2.2.1
  exact Fix_uniq F1 ⟨F2.1, (stb P2).mp F2.2.1, fun T hT g => F2.2.2 T hT ((stb T).mpr g)⟩
def NoC (m : aI) : Prop := ∃ P S M, SvM m P S M ∧ M 44 57 = 0
theorem NoC.rem {m1 m2 M2 : aI} {n : Nat} {P2 S2 : Nat → Int64} (hn : n ≤ 29) (hD1 : DS m1 n) (hD2 : DS m2 (n + 1)) (e1 : iN m1 44 0 = n) (e2 : iN m2 44 0 = n + 1) (hN : NoC m1) (hag : ∀ o, 45 ≤ o → o ≤ 52 → ∀ s, s < n → m2 o s = m1 o s) (hr : m2 52 n ≠ 0) (h : SvM m2 P2 S2 M2) : M2 44 57 = 0 := by
  obtain ⟨P1, S1, M1, h1, c1⟩ := hN
  have d1 := DSol.of hD1 e1 h1
  have d2 := DSol.of hD2 e2 h
  have e := d1.less hn d2 hag hr
  rw [d2.2.2.1, ← e, ← d1.2.2.1]; exact c1
/-! the answers -/
theorem cfV_n0 (I : aI) (n : Nat) : cfV I n ≠ 0 := by
  unfold cfV
  split
  · assumption
  · split
    · assumption
    · split
      · assumption
      · decide
theorem cfA_iff {M : aI} {P : Nat → Int64} {n : Nat} : cfA M P n = 0 ↔ M 44 57 = 0 := by
  unfold cfA
  by_cases c : M 44 57 = 0
  · rw [if_pos c]; exact ⟨fun _ => c, fun _ => rfl⟩
  · rw [if_neg c]; exact ⟨fun z => absurd z (cfV_n0 _ _), fun z => absurd z c⟩
theorem sVl_iff {c : Int32} {S : Nat → Int64} {f : Nat} : sVl c S f = -2 ↔ c ≠ 0 := by
  unfold sVl
  by_cases h : c = 0
  · rw [if_pos h]
    refine ⟨fun z => ?_, fun z => absurd h z⟩
    exfalso
    split at z
    · next q =>
      by_cases h0 : S f = 0
      · rw [h0] at q; exact absurd q (by decide +kernel)
      · have l := sLeast_le (S f) h0
        have z2 := congrArg Int32.toInt z
        rw [nI, Int32.toInt_ofNat_of_lt (by omega), show ((-2 : Int32).toInt) = -2 from rfl] at z2
        omega
    · exact absurd z (by decide)
  · rw [if_neg h]; exact ⟨fun _ => h, fun _ => rfl⟩
theorem sCount_pos {x : Int64} (h : x ≠ 0) : 1 ≤ sCount x := by
  have q := sCount_lt (sLe_0 x) (fun z => h z.symm)
  omega
theorem sSum_n0 {x : Int64} (h : x ≠ 0) : sSum x ≠ 0 := by
  unfold sSum
  rw [if_neg h]
  have c1 := sCount_pos h
  have c2 := sCount_le x
  have l := sLeast_le x h
  have g := sGr_le x 64
  intro z
  have z2 := congrArg Int32.toInt z
  have e1 : (10000 * nI (sCount x) + 100 * nI (sLeast x) : Int32) = nI (10000 * sCount x + 100 * sLeast x) := by
    rw [← nI_add, ← pk_mul, ← pk_mul]; rfl
  have hA : 10000 ≤ 10000 * sCount x + 100 * sLeast x := by omega
  have hB : 10000 * sCount x + 100 * sLeast x ≤ 650000 := by omega
  rw [e1] at z2
  generalize 10000 * sCount x + 100 * sLeast x = A at *
  have hG : sGreat x ≤ 64 := g
  generalize sGreat x = G at *
  have e2 : nI A + (nI G + (-1)) = nI (A + G - 1) := by
    by_cases h0 : G = 0
    · rw [h0, show (nI 0 + (-1) : Int32) = Int32.ofInt (-1) from by decide, nI_decs (by omega), Nat.add_zero]
    · rw [show (nI G + (-1) : Int32) = nI G + Int32.ofInt (-1) from rfl, nI_decs (by omega), nI_add, show A + (G - 1) = A + G - 1 by omega]
  rw [e2, nI, Int32.toInt_ofNat_of_lt (by omega), show ((0 : Int32).toInt) = 0 from rfl] at z2
  omega
theorem DSol.val {m M : aI} {n f : Nat} {P S : Nat → Int64} (hD : DS m n) (hn : n ≤ 30) (h : DSol m n P S M) (hc : M 44 57 = 0) (hf : 3 < f) (hf2 : f < 10) : sVl (M 44 57) S f = -1 := by
  have a : anyB (fun j => decide (P j = 0)) 10 = false := by
    have q := h.2.2.1
    rw [hc] at q
    exact bI_e0.mp q.symm
  have e := h.2.2.2.2.2.2.2
  rw [if_neg (by rw [a]; decide)] at e
  have s1 := DSol.chi hD hn h 10 S (by omega) e f hf
  have s2 := DSol.hi hD hn h h.2.2.2.2.2.2.1 f hf
  unfold sVl
  rw [if_pos hc, s1, s2, if_neg]
  show ¬ sCount (if f < 10 then -1 else 0) = 1
  rw [if_pos hf2]; decide +kernel
theorem DSol.ne {m M : aI} {n f : Nat} {P S : Nat → Int64} (h : DSol m n P S M) (hc : M 44 57 = 0) (hf : f < 10) : P f ≠ 0 := fun z => by
  have q := h.2.2.1
  rw [hc] at q
  have a := bI_e0.mp q.symm
  have t : anyB (fun j => decide (P j = 0)) 10 = true := anyB_iff.mpr ⟨f, hf, decide_eq_true z⟩
  rw [a] at t; cases t
theorem DSol.std {m M : aI} {n s : Nat} {P S : Nat → Int64} (h : DSol m n P S M) (hs : s < n) (h0 : m 52 s = 0) : stV M P s = 10 ∨ stV M P s = 0 := by
  unfold stV
  rw [if_neg (by rw [h.2.2.2.1 s hs, decide_eq_true h0]; decide), if_pos (h.2.2.2.2.1 s hs)]
  split
  · exact Or.inl rfl
  · exact Or.inr rfl
