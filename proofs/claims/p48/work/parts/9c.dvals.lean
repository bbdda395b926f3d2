theorem LEq.st {m I : aI} (h : LEq m I) : StEq m (a_u I 44 61 0) := ⟨fun o u => by rw [a_u_row (by omega)]; exact h.r (by omega), by rw [a_u_ne (fun z => absurd z.2 (by decide))]; exact h.f (by decide), by rw [a_u_ne (fun z => absurd z.2 (by decide))]; exact h.f (by decide)⟩
abbrev JF (J J2 : aJ) : Prop := ∀ q, q < 44 ∨ 94 ≤ q → J2 q = J q
def ZF (J J2 : aJ) : Prop := Zr J2 ∧ JF J J2
theorem SolP.jf {I I2 : aI} {J J2 : aJ} {n : Nat} (h : SolP I I2 J J2 n) : JF J J2 := by
  obtain ⟨K, P, S, e, _⟩ := h
  intro q hq
  rw [e, a_ur_ne (by omega), a_ur_ne (by omega), a_ur_ne (by omega)]
theorem CmR.jf {I I2 : aI} {J J2 : aJ} {n g : Nat} (h : CmR I I2 J J2 n g) : JF J J2 := by obtain ⟨I1, h1, -⟩ := h; exact h1.jf
theorem PlR.jf {I I2 : aI} {J J2 : aJ} {n g : Nat} (h : PlR I I2 J J2 n g) : JF J J2 := by obtain ⟨I1, Ic, h1, -⟩ := h; exact h1.jf
theorem LEq.bf {m I I3 : aI} (h : LEq m I) (hB : BaseF (a_u I 44 61 0) I3) : LEq m I3 := by
  refine ⟨fun o u v => ?_, fun k z1 z2 z3 z4 => ?_⟩
  · by_cases zc : o = 44
    · omega
    · rw [hB.1 o (by omega), a_u_row zc]; exact h.1 o u v
  · rw [hB.2 k ⟨z1, z2, z3⟩, a_u_ne (fun z => z4 z.2)]; exact h.2 k z1 z2 z3 z4
theorem BaseF.f0 {I I3 : aI} (hB : BaseF (a_u I 44 61 0) I3) : ∀ q, q < 44 ∨ 94 ≤ q → I3 q = I q := fun q hq => by rw [hB.1 q (by omega), a_u_row (by omega)]
theorem DP.q {v b : Int32} {m : aI} {T : List aT} {I I3 : aI} {J J3 : aJ} {R : aR} (hb : b = v) (hL : LEq m I) (hB : BaseF (a_u I 44 61 0) I3) (hJ : JF J J3) (hZ : Zr J3) : DP 0 v m T I J R (.inl (some (.int b))) T I3 J3 R := ⟨rfl, rfl, ⟨b, rfl, fun _ => hb⟩, by rw [hB.2 61 (by decide), a_u_self]; rfl, hL.bf hB, hB.f0, hJ, hZ⟩
theorem sol_eq {m m0 I I2 M : aI} {n : Nat} {P S : Nat → Int64} {J J2 : aJ} (hB : MBk m n) (hL : LEq m I) (h0 : StEq m m0) (hs : SolR m0 M n P S) (hp : SolP (a_u I 44 61 0) I2 J J2 n) : DQ M I2 n ∧ J2 89 = P ∧ J2 88 = S ∧ I2 44 57 = M 44 57 := by
  obtain ⟨K, P2, S2, e, h2⟩ := hp
  have q := SolR_uniq (h0.sw hB.1) (StEq.trans (StEq.sym h0) hL.st) hs h2
  exact ⟨q.1, by rw [e, a_ur_ne (by decide), a_ur_self]; exact q.2.1, by rw [e, a_ur_self]; exact q.2.2.1, q.2.2.2⟩
theorem TnL.tr {M M' : aI} {n : Nat} {mj mj' : aJ} {v : Int32} (h : DQ M M' n) (hj : mj' 89 = mj 89) (a : TnL M mj n v) : TnL M' mj' n v := by
  have e : ∀ (X : aI) (s : Nat) (W : Nat → Prop), tnS X mj' s W = tnS X mj s W := fun X s W => by
    unfold tnS tnW mOpen; rw [hj]
  refine ⟨a.1, fun s hs => ?_, fun W hW => a.2.2 W (fun s hs => ?_)⟩
  · rw [e]; exact h.qtnS hs (a.2.1 s hs)
  · have w := hW s hs
    rw [e] at w
    exact h.sym.qtnS hs w
theorem vp_lt10 {x : Int32} (h : vp_in x 10) : x.toNatClampNeg < 10 := by
  exact Nat.lt_of_not_le (fun z => h (Or.inr z))
theorem prV_cg {m I : aI} {P P2 : Nat → Int64} {p : Nat} (h : LEq m I) (hP : P2 = P) : sProof I (P2 (iN I 57 (3 * p))) p = prV m P p := by
  unfold prV sProof
  rw [h.iNq (q := 57) (by decide), hP]
theorem S86_3 {I : aI} {n j : Nat} : mFault I n j = 0 ∨ mFault I n j = 1 ∨ mFault I n j = 2 ∨ mFault I n j = 3 := by
  unfold mFault
  split
  · exact Or.inr (Or.inl rfl)
  · split
    · exact Or.inr (Or.inr (Or.inl rfl))
    · split
      · exact Or.inl rfl
      · exact Or.inr (Or.inr (Or.inr rfl))
theorem LaysR.f3 {I I2 : aI} {n s : Nat} (h : LaysR I I2 n) (hs : s < n) : 0 < I2 86 s ↔ I2 86 s ≠ 0 := by
  obtain ⟨I1, _, e⟩ := h
  have e9 : I2 86 s = (S86 (a_ur I1 84 (S84 I1 n)) n n) s := by rw [e, a_ur_self]
  have e8 : (S86 (a_ur I1 84 (S84 I1 n)) n n) s = 0 ∨ (S86 (a_ur I1 84 (S84 I1 n)) n n) s = 1 ∨ (S86 (a_ur I1 84 (S84 I1 n)) n n) s = 2 ∨ (S86 (a_ur I1 84 (S84 I1 n)) n n) s = 3 := by
    show (if s < n then (if _ then mFault _ n s else 0) else _) = 0 ∨ (if s < n then (if _ then mFault _ n s else 0) else _) = 1 ∨ (if s < n then (if _ then mFault _ n s else 0) else _) = 2 ∨ (if s < n then (if _ then mFault _ n s else 0) else _) = 3
    rw [if_pos hs]
    split
    · exact S86_3
    · exact Or.inl rfl
  rw [← e9] at e8
  rcases e8 with w | w | w | w <;> rw [w] <;> decide
theorem SolR.f3 {I I2 : aI} {n s : Nat} {P S : Nat → Int64} (h : SolR I I2 n P S) (hs : s < n) : 0 < I2 86 s ↔ I2 86 s ≠ 0 := by
  obtain ⟨I3, h1, e, _⟩ := h
  rw [e, a_u_row (by decide), a_u_row (by decide)]; exact h1.f3 hs
theorem stV_cg {M I2 : aI} {P : Nat → Int64} {J2 : aJ} {n s : Nat} (h : DQ M I2 n) (hs : s < n) (hw : SW I2 n) (hg : GOK I2 n) (h3 : 0 < I2 86 s ↔ I2 86 s ≠ 0) (hJ : ∀ f, f < 10 → J2 88 f = P f) : sStand I2 J2 s = stV M P s := by
  obtain ⟨h84, h85, h86⟩ := h.2.2.2 s hs
  unfold stV sStand
  have c7 : I2 45 s < 7 ↔ M 45 s ≤ 6 := by
    rw [h.1 45 (by decide)]
    have e7 : (7 : Int32).toInt = 7 := by decide
    have e6 : (6 : Int32).toInt = 6 := by decide
    simp only [i_lt, i_le, e7, e6]; omega
  have c8 : M 45 s < 7 ↔ M 45 s ≤ 6 := by
    have e7 : (7 : Int32).toInt = 7 := by decide
    have e6 : (6 : Int32).toInt = 6 := by decide
    simp only [i_lt, i_le, e7, e6]; omega
  by_cases z84 : M 84 s = 0
  · rw [if_pos (h84.trans z84), if_pos z84]
  · rw [if_neg (fun z => z84 (h84.symm.trans z)), if_neg z84]
    by_cases z86 : M 86 s = 0
    · rw [if_neg (fun z => absurd (h86.trans z86) (h3.mp z)), if_pos z86]
      by_cases z7 : M 45 s ≤ 6
      · have eh : mHolds I2 J2 s ↔ cOn M P s := by
          have e1 : mHolds I2 J2 s ↔ hOn M P s := by
            unfold mHolds hOn
            rw [h85]
            by_cases z9 : M 85 s < 0
            · exact ⟨fun _ => Or.inl z9, fun _ => Or.inl z9⟩
            · have q := hg s hs (by rw [h85]; exact Int32.not_lt.mp z9)
              rw [h85] at q
              rw [h.1 46 (by decide), h.1 47 (by decide)] at *
              rw [hJ _ (by have := q.2; exact vp_lt10 this)]
          rw [e1]
          exact ⟨fun w => Or.inl ⟨h.2.1, z84, c8.mpr z7, z86, w⟩, fun w => by
            rcases w with w | w
            · exact w.2.2.2.2
            · exact absurd h.2.1 w.1⟩
        by_cases zc : cOn M P s
        · rw [if_neg (fun z => z.2 (eh.mpr zc)), if_neg (fun z => z.2 zc)]
        · rw [if_pos ⟨c7.mpr z7, fun z => zc (eh.mp z)⟩, if_pos ⟨z7, zc⟩]
      · rw [if_neg (fun z => z7 (c7.mp z.1)), if_neg (fun z => z7 z.1)]
    · rw [if_pos (h3.mpr (fun z => z86 (h86.symm.trans z))), if_neg z86]; exact h86
theorem cntT_cgx {p q : Nat → Bool} : ∀ {n : Nat}, (∀ s, s < n → p s = q s) → cntT p n = cntT q n
  | 0, _ => rfl
  | n + 1, h => by rw [cntT, cntT, h n (by omega), cntT_cgx (fun s hs => h s (by omega))]
