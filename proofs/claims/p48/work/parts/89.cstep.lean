abbrev SDo (o : Nat) : Prop := o = 19 ∨ o = 22 ∨ o = 23 ∨ o = 24 ∨ o = 26 ∨ o = 34 ∨ o = 36 ∨ o = 38 ∨ o = 39 ∨ o = 40
theorem InvR.m91 {m : aI} {g : Nat} {N : Nat → Int32} (h : InvR m g) : InvR (a_ur m 91 N) g := ⟨h.1.m91, h.2.1.cgm (a_ur_ne (by decide)) (a_ur_ne (by decide)) (a_ur_ne (by decide)) (a_ur_ne (by decide)) (a_ur_ne (by decide)) (a_ur_ne (by decide)) (a_ur_ne (by decide)), h.2.2.1.m91, h.2.2.2.cgm (a_ur_ne (by decide)) (a_ur_ne (by decide)) (a_ur_ne (by decide))⟩
theorem InvS.m91 {m : aI} {g : Nat} {N : Nat → Int32} (h : InvS m g) : InvS (a_ur m 91 N) g := by
  unfold InvS iN at *; rw [a_ur_ne (by decide), a_ur_ne (by decide), a_ur_ne (by decide), a_ur_ne (by decide), a_ur_ne (by decide)]; exact h
theorem stF_81v {m : aI} {mj : aJ} {x wh hw r a : Nat} (y : Nat) : stF m mj x wh hw r a 81 y = if y = x then bI (decide (m 81 x ≠ 0) || !(doS m mj x wh hw r).1) else m 81 y := by
  show a_u (a_u _ 81 x _) 44 44 _ 81 y = _
  rw [a_u_row (by decide)]
  by_cases c : y = x
  · rw [c, a_u_self, if_pos rfl]
  · rw [a_u_ne (fun z => c z.2), if_neg c, doS_fr (by decide)]
theorem doS_71 {m : aI} {mj : aJ} {x wh hw r : Nat} (h : B01 m 71) : B01 (doS m mj x wh hw r).2 71 := fun y => by
  unfold doS
  have mk : ∀ v, a_u (mkS m mj x r (!decide (hw = 2)) (decide (hw = 1))) 44 35 v 71 y = 0 ∨ a_u (mkS m mj x r (!decide (hw = 2)) (decide (hw = 1))) 44 35 v 71 y = 1 := fun v => by
    rw [a_u_row (by decide)]
    unfold mkS
    split
    · by_cases c : y = x
      · rw [c, a_u_self]; exact bI_01 _
      · rw [a_u_ne (fun z => c z.2)]
        show a_ur (a_u (a_u (a_u (a_u (mkB m mj x r) 82 x (m 69 x)) 69 x _) 71 x 0) 72 x 0) 70 _ 71 y = 0 ∨ a_ur (a_u (a_u (a_u (a_u (mkB m mj x r) 82 x (m 69 x)) 69 x _) 71 x 0) 72 x 0) 70 _ 71 y = 1
        rw [a_ur_ne (by decide), a_u_row (by decide), a_u_ne (fun z => c z.2), a_u_row (by decide), a_u_row (by decide), mkB_o (by decide) (by decide) (by decide) (by decide) (by decide)]; exact h y
    · rw [mkB_o (by decide) (by decide) (by decide) (by decide) (by decide)]; exact h y
  split
  · split
    · exact h y
    · exact mk (m 44 35 + (if hw = 2 then 0 else 1))
  · split
    · exact h y
    · dsimp only
      rw [a_u_row (by decide)]
      split
      · rw [chS_o (by decide) (by decide) (by decide)]; exact h y
      · split
        · rw [a_u_row (by decide), a_u_row (by decide)]; exact h y
        · split
          · rw [a_u_row (by decide)]; exact h y
          · exact h y
theorem AcP.srl {T : List aT} {I : aI} {R : aR} {m2 : aI} {g r2 : Nat} {gq : Nat → Nat} {T2 : List aT} {I2 : aI} {R2 : aR} {v : Int32} (h : AcP T I R m2 g gq r2 T2 I2 R2) (hT : aPT T) (hp : T <+: T2) : AcP T I R (a_u m2 44 35 v) g gq r2 T2 (a_u I2 19 8 v) R2 := by
  obtain ⟨⟨eq2, h1⟩, h2, h3, h4, h5⟩ := h
  exact ⟨⟨eq2, h1.srl (hT.next hp)⟩, fun o a b c => by rw [a_u_row (fun z => c (by omega))]; exact h2 o a b c, h3, h4, fun y hy => by rw [a_u_row (by decide), a_u_row (by decide)]; exact h5 y hy⟩
theorem AcP.same {T : List aT} {I : aI} {R : aR} {m2 m3 : aI} {g r2 : Nat} {gq : Nat → Nat} {T2 : List aT} {I2 : aI} {R2 : aR} (h : AcP T I R m2 g gq r2 T2 I2 R2) (e : m3 = m2) : AcP T I R m3 g gq r2 T2 I2 R2 := by rw [e]; exact h
/-- what holds behind a step -/
def DnP (T : List aT) (I : aI) (R : aR) (m : aI) (mj : aJ) (g : Nat) (gq : Nat → Nat) (pq : Nat → Nat) (x wh hw r p a : Nat) (T2 : List aT) (I2 : aI) (R2 : aR) : Prop := ∃ N, (∀ y, y < 16 * g → N y = sCmp (a_ur m 91 N) mj y) ∧ (∃ eq2 r2, CEst T2 I2 R2 (stS (a_ur m 91 N) mj x wh hw r p a) g gq eq2 r2) ∧ CAp I2 R2 (stS (a_ur m 91 N) mj x wh hw r p a) pq ∧ FrI T SDo I I2 ∧ FrR T (fun o => o = 25 ∨ o = 38) R R2 ∧ aPR R2
theorem dn_ce {T : List aT} {I3 I5 : aI} {R3 R5 : aR} {d2 st : aI} {g r2 : Nat} {gq eq2 : Nat → Nat} (h : CEst T I3 R3 d2 g gq eq2 r2) (hT : aPT T) (ho : ∀ o, o ≠ 38 → o ≠ 39 → I5 o = I3 o) (hR : ∀ o, o ≠ 38 → R5 o = R3 o) (hs : ∀ o, o ≠ 44 → o ≠ 81 → st o = d2 o) (h4 : st 44 25 = d2 44 25 ∧ st 44 35 = d2 44 35) : CEst T I5 R5 st g gq eq2 r2 :=
  (h.fr hT (List.prefix_refl _) (fun o a b => ho o (by omega) (by omega)) (fun o a b => by
    have h95 : 44 ≤ o := by
      rcases b with b | b | b
      · exact Nat.le_of_not_lt (fun z => enO_lo hT z b)
      · exact a_ge hT b a_tags_5
      · obtain ⟨q, u1, u2, u3⟩ := b
        have := a_ge hT u3 a_tags_5; omega
    exact ⟨ho o (by omega) (by omega), hR o (by omega)⟩) (by rw [hR 21 (by decide)]) (by rw [hR 25 (by decide)])).cgm (fun o a b => hs o (by omega) (by omega)) h4.1 h4.2
/-- behind an action, the process dies -/
theorem dn_f1 {T T3 : List aT} {I I1 I3 I4 : aI} {R R3 : aR} {m1 : aI} {mj : aJ} {g r3 x wh hw r p a : Nat} {gq pq : Nat → Nat} (hT : aPT T) (hp : T <+: T3) (hA : AcP T I1 R (doS m1 mj x wh hw r).2 g gq r3 T3 I3 R3) (h4 : ∀ o, o ≠ 39 → I4 o = I3 o) (hI1 : ∀ o, o ≠ 34 → o ≠ 36 → I1 o = I o) (hw2 : hw = 2) (hAp : CAp I R m1 pq) (hR : aPR (a_u R3 38 3 none)) :
    (∃ eq2 r2, CEst T3 I4 (a_u R3 38 3 none) (stS m1 mj x wh hw r p a) g gq eq2 r2) ∧ CAp I4 (a_u R3 38 3 none) (stS m1 mj x wh hw r p a) pq ∧ FrI T SDo I I4 ∧ FrR T (fun o => o = 25 ∨ o = 38) R (a_u R3 38 3 none) ∧ aPR (a_u R3 38 3 none) := by
  obtain ⟨⟨eq2, c1⟩, c2, c3, c4, c5⟩ := hA
  have h95 := hT.len
  have lo : ∀ o, o < 44 → ¬ SDo o → I4 o = I o := fun o a b => by
    rw [h4 o (fun z => b (by omega)), c2 o (by omega) (enO_lo hT a) (fun z => b (by rcases z with z | z | z | z | z | z <;> omega)), hI1 o (fun z => b (by omega)) (fun z => b (by omega))]
  have e38 : I4 38 = I 38 := by rw [h4 38 (by decide), c2 38 (by omega) (enO_lo hT (by decide)) (by decide), hI1 38 (by decide) (by decide)]
  have s45 : stS m1 mj x wh hw r p a 44 45 = m1 44 45 := by
    unfold stS; rw [if_pos hw2, a_u_ne (by decide), stF_4 (by decide), doS_44 (by decide) (by decide)]
  have s43 : stS m1 mj x wh hw r p a 44 43 = -1 := by unfold stS; rw [if_pos hw2, a_u_self]
  refine ⟨⟨eq2, r3, dn_ce c1 (hT.next hp) (fun o _ b => h4 o b) (fun o a => a_u_row a) (fun o a b => stS_o a b) ⟨stS_4 (by decide) (by decide) (by decide), stS_4 (by decide) (by decide) (by decide)⟩⟩, ⟨fun _ => a_u_self, fun p' hp' z => ?_, by rw [e38, s45]; exact hAp.2.2.1, fun z => by rw [s45] at z ⊢; rw [e38]; exact hAp.2.2.2 z⟩, fun o a b c => ?_, fun o a b c => ?_, hR⟩
  · rw [s43] at z; exact absurd z.symm (nI_ne1b (by omega))
  · rw [h4 o (fun z => c (by omega)), c2 o a b (fun z => c (by rcases z with z | z | z | z | z | z <;> omega)), hI1 o (fun z => c (by omega)) (fun z => c (by omega))]
  · rw [a_u_row (fun z => c (Or.inr z))]; exact c3 o a b (fun z => c (Or.inl z))
/-- behind an action, it goes on -/
theorem dn_f2 {T T3 : List aT} {I I1 I3 I4 I5 : aI} {R R3 R5 : aR} {m1 : aI} {mj : aJ} {g r3 x wh hw r p a M : Nat} {gq pq : Nat → Nat} {G : Nat → Int32} (hT : aPT T) (hp : T <+: T3) (hA : AcP T I1 R (doS m1 mj x wh hw r).2 g gq r3 T3 I3 R3) (h4 : ∀ o, o ≠ 39 → I4 o = I3 o) (hI1 : ∀ o, o ≠ 34 → o ≠ 36 → I1 o = I o) (hw2 : hw ≠ 2) (hAp : CAp I R m1 pq) (hp9 : p < 40) (h43 : m1 44 43 = nI p) (hM : M = iN (stF m1 mj x wh hw r a) 79 p) (hR5 : aPR R5)
    (hG : ∀ y, y < 64 → G y = (psF (stF m1 mj x wh hw r a) p (M - (a + 1)) (a + 1) (stF m1 mj x wh hw r a 81)).2 y)
    (hQ : if (psF (stF m1 mj x wh hw r a) p (M - (a + 1)) (a + 1) (stF m1 mj x wh hw r a 81)).1 = M then I5 = a_u (a_ur (a_u I4 38 4 (nI (psF (stF m1 mj x wh hw r a) p (M - (a + 1)) (a + 1) (stF m1 mj x wh hw r a 81)).1)) 39 G) 38 0 0 ∧ R5 = a_u R3 38 3 none else I5 = a_ur (a_u I4 38 4 (nI (psF (stF m1 mj x wh hw r a) p (M - (a + 1)) (a + 1) (stF m1 mj x wh hw r a 81)).1)) 39 G ∧ R5 = R3) :
    (∃ eq2 r2, CEst T3 I5 R5 (stS m1 mj x wh hw r p a) g gq eq2 r2) ∧ CAp I5 R5 (stS m1 mj x wh hw r p a) pq ∧ FrI T SDo I I5 ∧ FrR T (fun o => o = 25 ∨ o = 38) R R5 ∧ aPR R5 := by
  obtain ⟨⟨eq2, c1⟩, c2, c3, c4, c5⟩ := hA
  have h95 := hT.len
  obtain ⟨Q, hQe⟩ : ∃ Q, Q = psF (stF m1 mj x wh hw r a) p (M - (a + 1)) (a + 1) (stF m1 mj x wh hw r a 81) := ⟨_, rfl⟩
  rw [← hQe] at hG hQ
  have ho : ∀ o, o ≠ 38 → o ≠ 39 → I5 o = I4 o := fun o u v => by
    split at hQ
    · rw [hQ.1, a_u_row u, a_ur_ne v, a_u_row u]
    · rw [hQ.1, a_ur_ne v, a_u_row u]
  have hR : ∀ o, o ≠ 38 → R5 o = R3 o := fun o u => by
    split at hQ
    · rw [hQ.2, a_u_row u]
    · rw [hQ.2]
  have e38 : I4 38 = I 38 := by rw [h4 38 (by decide), c2 38 (by omega) (enO_lo hT (by decide)) (by decide), hI1 38 (by decide) (by decide)]
  have r38 : R3 38 = R 38 := c3 38 (by omega) (enO_lo hT (by decide)) (by decide)
  have e40 : ∀ y, y < 64 → I5 40 y = (doS m1 mj x wh hw r).2 82 y - 1 := fun y hy => by rw [ho 40 (by decide) (by decide), h4 40 (by decide)]; exact c5 y hy
  have sS : stS m1 mj x wh hw r p a = psS (stF m1 mj x wh hw r a) p (a + 1) := by unfold stS; rw [if_neg hw2]
  have sP : psS (stF m1 mj x wh hw r a) p (a + 1) = if Q.1 = M then a_u (a_u (psT (stF m1 mj x wh hw r a) Q.1 Q.2) 44 43 (-1)) 44 45 (-1) else psT (stF m1 mj x wh hw r a) Q.1 Q.2 := by unfold psS; rw [← hM, ← hQe]
  have f45 : stF m1 mj x wh hw r a 44 45 = m1 44 45 := by rw [stF_4 (by decide), doS_44 (by decide) (by decide)]
  have f43 : stF m1 mj x wh hw r a 44 43 = m1 44 43 := by rw [stF_4 (by decide), doS_44 (by decide) (by decide)]
  refine ⟨⟨eq2, r3, dn_ce c1 (hT.next hp) (fun o u v => by rw [ho o u v, h4 o v]) hR (fun o u v => stS_o u v) ⟨stS_4 (by decide) (by decide) (by decide), stS_4 (by decide) (by decide) (by decide)⟩⟩, ?_, fun o u v c => ?_, fun o u v c => ?_, hR5⟩
  · rw [sS, sP]
    by_cases c : Q.1 = M
    · rw [if_pos c] at hQ ⊢
      refine ⟨fun _ => by rw [hQ.2, a_u_self], fun p' hp' z => ?_, ?_, fun z => ?_⟩
      · rw [a_u_ne (by decide), a_u_self] at z; exact absurd z.symm (nI_ne1b (by omega))
      · rw [hQ.1, a_u_self, a_u_self]; rfl
      · rw [a_u_self] at z; exact absurd z (by decide)
    · rw [if_neg c] at hQ ⊢
      have t44 : ∀ k, k ≠ 44 → psT (stF m1 mj x wh hw r a) Q.1 Q.2 44 k = stF m1 mj x wh hw r a 44 k := fun k hk => by
        show a_ur (a_u _ 44 44 _) 81 _ 44 k = _
        rw [a_ur_ne (by decide), a_u_ne (fun z => hk z.2)]
      have i38 : ∀ k, k ≠ 4 → I5 38 k = I 38 k := fun k hk => by rw [hQ.1, a_ur_ne (by decide), a_u_ne (fun z => hk z.2), e38]
      refine ⟨fun z => ?_, fun p' hp' z => ?_, ?_, fun z => ?_⟩
      · rw [t44 43 (by decide), f43, h43] at z
        exact absurd z (Int32.not_lt.mpr (nI_pos' (by omega)))
      · rw [t44 43 (by decide), f43, h43] at z
        have ep : p = p' := (nI_eq (a := p) (b := p') (by omega) (by omega)).mp z
        rw [← ep]
        refine ⟨by rw [hQ.2, r38]; exact (hAp.2.1 p hp9 h43).1, ?_, fun y hy => ?_, fun y hy => ?_⟩
        · rw [hQ.1, a_ur_ne (by decide), a_u_self]
          show _ = a_ur (a_u _ 44 44 _) 81 _ 44 44
          rw [a_ur_ne (by decide), a_u_self]
        · rw [hQ.1, a_ur_self, hG y hy]
          show _ = a_ur (a_u _ 44 44 _) 81 _ 81 y
          rw [a_ur_self]
        · rw [e40 y hy]
          show _ = a_ur (a_u (stF m1 mj x wh hw r a) 44 44 _) 81 _ 82 y - 1
          rw [a_ur_ne (by decide), a_u_row (by decide), stF_o (by decide) (by decide)]
      · rw [t44 45 (by decide), f45, i38 0 (by decide)]; exact hAp.2.2.1
      · rw [t44 45 (by decide), f45] at z ⊢
        rw [i38 5 (by decide)]; exact hAp.2.2.2 z
  · rw [ho o (fun z => c (by omega)) (fun z => c (by omega)), h4 o (fun z => c (by omega)), c2 o u v (fun z => c (by rcases z with z | z | z | z | z | z <;> omega)), hI1 o (fun z => c (by omega)) (fun z => c (by omega))]
  · rw [hR o (fun z => c (Or.inr z))]; exact c3 o u v (fun z => c (Or.inl z))
