/-- the store of the ghost behind an action that is done -/
noncomputable def acS (m : aI) (mj : aJ) (x wh hw r : Nat) : aI := if wh = 1 then mkS m mj x r (!decide (hw = 2)) (decide (hw = 1)) else if wh = 2 then chS m mj x (iN m 69 x - 1) (!decide (hw = 2)) 3 else if wh = 3 then a_u (a_u m 68 (iN m 69 x - 1) 1) 69 x (if hw = 2 then m 69 x else 0) else if 0 < iN m 82 x then a_u m 68 (iN m 82 x - 1) 1 else m
abbrev SAc (o : Nat) : Prop := o = 19 ∨ o = 22 ∨ o = 23 ∨ o = 24 ∨ o = 26 ∨ o = 40
/-- what holds behind an action -/
def AcP (T : List aT) (I : aI) (R : aR) (m2 : aI) (g : Nat) (gq : Nat → Nat) (r2 : Nat) (T2 : List aT) (I2 : aI) (R2 : aR) : Prop := (∃ eq2, CEst T2 I2 R2 m2 g gq eq2 r2) ∧ FrI T SAc I I2 ∧ FrR T (fun o => o = 25) R R2 ∧ aPR R2 ∧ ∀ y, y < 64 → I2 40 y = m2 82 y - 1
theorem mkB_82 {m : aI} {mj : aJ} {x r : Nat} : mkB m mj x r 82 = m 82 := by
  show a_u (a_ur (a_u (a_u (a_u m 66 r _) 68 r 0) 44 25 _) 67 _) 74 x _ 82 = _
  rw [a_u_row (by decide), a_ur_ne (by decide), a_u_row (by decide), a_u_row (by decide), a_u_row (by decide)]
theorem mkB_o {m : aI} {mj : aJ} {x r o : Nat} (a : o ≠ 66) (b : o ≠ 67) (c : o ≠ 68) (d : o ≠ 74) (f : o ≠ 44) : mkB m mj x r o = m o := by
  show a_u (a_ur (a_u (a_u (a_u m 66 r _) 68 r 0) 44 25 _) 67 _) 74 x _ o = m o
  rw [a_u_row d, a_ur_ne b, a_u_row f, a_u_row c, a_u_row a]
theorem mkB_67 {m : aI} {mj : aJ} {x r : Nat} : mkB m mj x r 67 = mkR m mj x r 3 := by
  show a_u (a_ur (a_u (a_u (a_u m 66 r _) 68 r 0) 44 25 _) 67 _) 74 x _ 67 = _
  rw [a_u_row (by decide), a_ur_self]
theorem CEst.mk {T T2 : List aT} {I I2 : aI} {R R2 : aR} {m : aI} {mj : aJ} {g r x hw q0 : Nat} {gq eq : Nat → Nat} (h : CEst T I R m g gq eq r) (hT : aPT T) (hx : x < 64) (hr : r < 60) (hmd : m 74 x = nI (iN m 74 x)) (hq0 : T.length = q0) (hz : ∀ o, q0 ≤ o → I o = (fun _ => 0)) (hT2 : T2 = T ++ [.inr 3, .inl (.int, 3), .inl (.int, 3)])
    {md : Nat} (hmd2 : iN m 74 x = md) (hI : I2 = if hw = 2 then (a_ur (a_ur (a_u (a_u (a_u (a_u (a_u I 22 r (nI (iN m 62 (x / 16)))) 19 6 (nI (r + 1))) 26 x (nI (md + 1))) q0 0 (nI r)) q0 2 (bI (decide (hw = 1)))) (q0 + 1) (mkE m mj x 3)) 23 (mkC I m mj x r 3)) else a_u (a_ur (a_ur (a_u (a_u (a_u (a_u (a_u I 22 r (nI (iN m 62 (x / 16)))) 19 6 (nI (r + 1))) 26 x (nI (md + 1))) q0 0 (nI r)) q0 2 (bI (decide (hw = 1)))) (q0 + 1) (mkE m mj x 3)) 23 (mkC I m mj x r 3)) 40 x (m 69 x - 1)) (hR2 : R2 = if hw = 2 then (a_u (a_u R q0 1 (some (q0 + 1))) q0 4 (some (q0 + 2))) else a_u (a_u (a_u R q0 1 (some (q0 + 1))) q0 4 (some (q0 + 2))) 25 x (some q0)) (hR9 : aPR R2) (h40 : ∀ y, y < 64 → I 40 y = m 82 y - 1) : AcP T I R (mkS m mj x r (!decide (hw = 2)) (decide (hw = 1))) g gq (r + 1) T2 I2 R2 := by
  have h95 := hT.len
  have hp : T <+: T2 := by rw [hT2]; exact List.prefix_append _ _
  have tq0 : T2[q0]? = some (.inr 3) := by rw [hT2, ← hq0]; simp
  have tq1 : T2[q0 + 1]? = some (.inl (.int, 3)) := by rw [hT2, ← hq0]; simp
  have tq2 : T2[q0 + 2]? = some (.inl (.int, 3)) := by rw [hT2, ← hq0]; simp
  obtain ⟨B, hB⟩ : ∃ B, B = (a_ur (a_ur (a_u (a_u (a_u (a_u (a_u I 22 r (nI (iN m 62 (x / 16)))) 19 6 (nI (r + 1))) 26 x (nI (md + 1))) q0 0 (nI r)) q0 2 (bI (decide (hw = 1)))) (q0 + 1) (mkE m mj x 3)) 23 (mkC I m mj x r 3)) := ⟨_, rfl⟩
  obtain ⟨R1, hR1⟩ : ∃ R1, R1 = (a_u (a_u R q0 1 (some (q0 + 1))) q0 4 (some (q0 + 2))) := ⟨_, rfl⟩
  obtain ⟨I1, hI1⟩ : ∃ I1, I1 = (a_ur (a_u (a_u I q0 0 (nI r)) q0 2 (bI (decide (hw = 1)))) (q0 + 1) (mkE m mj x 3)) := ⟨_, rfl⟩
  rw [← hB] at hI
  rw [← hR1] at hR2
  have r1 : ∀ o, o ≠ q0 → R1 o = R o := fun o ho => by rw [hR1, a_u_row ho, a_u_row ho]
  have i1 : ∀ o, o ≠ q0 → o ≠ q0 + 1 → I1 o = I o := fun o ho h1 => by rw [hI1, a_ur_ne h1, a_u_row ho, a_u_row ho]
  have c1 : CEst T2 I1 R1 m g gq eq r := h.fr hT hp (fun o a b => i1 o (by omega) (by omega)) (fun o a _ => ⟨i1 o (by omega) (by omega), r1 o (by omega)⟩) (r1 21 (by omega)) (r1 25 (by omega))
  have bo : ∀ o, o ≠ 19 → o ≠ 22 → o ≠ 23 → o ≠ 26 → B o = I1 o := fun o a b c d => by
    rw [hB, hI1, a_ur_ne c]
    by_cases e : o = q0 + 1
    · rw [e, a_ur_self, a_ur_self]
    · rw [a_ur_ne e, a_ur_ne e]
      funext k
      simp only [a_u, a, b, d, false_and, if_false]
  have b2 : ∀ o, o < 44 → B o = (a_ur (a_u (a_u (a_u I 22 r (nI (iN m 62 (x / 16)))) 19 6 (nI (r + 1))) 26 x (nI (md + 1))) 23 (mkC I m mj x r 3)) o := fun o ho => by
    rw [hB]
    by_cases e : o = 23
    · rw [e, a_ur_self, a_ur_self]
    · rw [a_ur_ne e, a_ur_ne e, a_ur_ne (by omega), a_u_row (by omega), a_u_row (by omega)]
  have c2 : CEst T2 B R1 (mkB m mj x r) g gq eq (r + 1) := by
    refine c1.res (mj := mj) (hT.next hp) hx hr hmd bo (fun k hk => ?_) ?_ (fun j => ?_) (fun j => ?_) (fun j => ?_)
    · rw [b2 19 (by decide), a_ur_ne (by decide), a_u_row (by decide), a_u_ne (fun z => hk z.2), a_u_row (by decide), i1 19 (by omega) (by omega)]
    · rw [b2 19 (by decide), a_ur_ne (by decide), a_u_row (by decide), a_u_self]
    · rw [b2 22 (by decide), a_ur_ne (by decide), a_u_row (by decide), a_u_row (by decide), i1 22 (by omega) (by omega)]
      by_cases c : j = r
      · rw [c, a_u_self, if_pos rfl]
      · rw [a_u_ne (fun z => c z.2), if_neg c]
    · rw [b2 23 (by decide), a_ur_self]
      simp only [mkC]; rw [i1 23 (by omega) (by omega)]
    · rw [b2 26 (by decide), a_ur_ne (by decide), i1 26 (by omega) (by omega)]
      by_cases c : j = x
      · rw [c, a_u_self, if_pos rfl, hmd2]
      · rw [a_u_ne (fun z => c z.2), if_neg c, a_u_row (by decide), a_u_row (by decide)]
  have f1 : ∀ o, o < T.length → ¬ SAc o → B o = I o := fun o a b => by
    rw [bo o (fun z => b (by omega)) (fun z => b (by omega)) (fun z => b (by omega)) (fun z => b (by omega)), i1 o (by omega) (by omega)]
  have b40 : B 40 = I 40 := by rw [bo 40 (by decide) (by decide) (by decide) (by decide), i1 40 (by omega) (by omega)]
  by_cases c : hw = 2
  · rw [if_pos c] at hI hR2
    rw [decide_eq_true c, hI, hR2]
    refine ⟨⟨eq, c2⟩, fun o a _ b => f1 o a b, fun o a _ b => r1 o (by omega), by rw [← hR2]; exact hR9, fun y hy => ?_⟩
    show B 40 y = mkB m mj x r 82 y - 1
    rw [b40, mkB_82]; exact h40 y hy
  · rw [if_neg c] at hI hR2
    rw [decide_eq_false c]
    have c3 : CEst T2 I2 R1 (mkB m mj x r) g gq eq (r + 1) := c2.fr (hT.next hp) (List.prefix_refl _) (fun o a b => by rw [hI, a_u_row (by omega)]) (fun o a b => ⟨by
      rw [hI, a_u_row]
      intro z
      rw [z] at b
      rcases b with b | b | b
      · exact enO_lo (hT.next hp) (by decide) b
      · exact absurd (a_ge (hT.next hp) b a_tags_5) (by decide)
      · obtain ⟨q, u1, u2, u3⟩ := b
        have := a_ge (hT.next hp) u3 a_tags_5; omega, rfl⟩) rfl rfl
    have io : ∀ k, I2 q0 k = (if k = 2 then bI (decide (hw = 1)) else if k = 0 then nI r else 0) := fun k => by
      rw [hI, a_u_row (by omega), bo q0 (by omega) (by omega) (by omega) (by omega), hI1, a_ur_ne (by omega)]
      by_cases k2 : k = 2
      · rw [k2, a_u_self, if_pos rfl]
      · rw [a_u_ne (fun z => k2 z.2), if_neg k2]
        by_cases k0 : k = 0
        · rw [k0, a_u_self, if_pos rfl]
        · rw [a_u_ne (fun z => k0 z.2), if_neg k0, hz q0 (Nat.le_refl _)]
    have io1 : ∀ a, a < 3 → I2 (q0 + 1) a = mkV m mj x a := fun a ha => by
      rw [hI, a_u_row (by omega), bo (q0 + 1) (by omega) (by omega) (by omega) (by omega), hI1, a_ur_self]
      exact if_pos ha
    have M2 : mkS m mj x r true (decide (hw = 1)) = a_u (wrT (a_u (mkB m mj x r) 82 x (m 69 x)) x r) 71 x (bI (decide (hw = 1))) := if_pos rfl
    rw [show (!false) = true from rfl, M2]
    have g67 : (a_u (mkB m mj x r) 82 x (m 69 x)) 67 = mkR m mj x r 3 := by rw [a_u_row (by decide), mkB_67]
    have c4 := c3.ent (m2 := a_u (wrT (a_u (mkB m mj x r) 82 x (m 69 x)) x r) 71 x (bI (decide (hw = 1)))) (q := q0) (r := r) (x := x) (hT.next hp) hx
      ⟨tq0, by rw [hR1, a_u_ne (by omega), a_u_self], tq1, by rw [hR1, a_u_self], tq2⟩
      (fun y hy h0 z => by
        rw [mkB_o (by decide) (by decide) (by decide) (by decide) (by decide)] at h0
        have := a_rel_lt (h.en.tg hy h0); omega)
      hr (by rw [io]; rfl) (by rw [io, a_u_self]; rfl) (by rw [io]; rfl)
      (fun a ha => by
        rw [io1 a ha, a_u_row (by decide)]
        show mkV m mj x a = a_ur (a_u (a_u (a_u _ 69 x _) 71 x 0) 72 x 0) 70 (wrS (a_u (mkB m mj x r) 82 x (m 69 x)) x r 3) 70 (3 * x + a)
        rw [a_ur_self]
        simp only [wrS]
        rw [if_pos (by omega), g67]
        simp only [mkR]
        rw [if_pos (by omega), show 3 * r + (3 * x + a - 3 * x) - 3 * r = a by omega])
      (fun o a b c d f k => by
        show a_u (a_ur (a_u (a_u (a_u (a_u (mkB m mj x r) 82 x (m 69 x)) 69 x _) 71 x 0) 72 x 0) 70 _) 71 x _ o = _
        rw [a_u_row f, a_ur_ne d, a_u_row k, a_u_row f, a_u_row c, a_u_row (by omega)])
      (by
        show a_u (a_ur (a_u (a_u (a_u (a_u (mkB m mj x r) 82 x (m 69 x)) 69 x _) 71 x 0) 72 x 0) 70 _) 71 x _ 44 25 = _ ∧ a_u (a_ur (a_u (a_u (a_u (a_u (mkB m mj x r) 82 x (m 69 x)) 69 x _) 71 x 0) 72 x 0) 70 _) 71 x _ 44 35 = _
        rw [a_u_row (show 44 ≠ 71 by decide), a_ur_ne (show 44 ≠ 70 by decide), a_u_row (show 44 ≠ 72 by decide), a_u_row (show 44 ≠ 71 by decide), a_u_row (show 44 ≠ 69 by decide), a_u_row (show 44 ≠ 82 by decide)]
        exact ⟨rfl, rfl⟩)
      (fun y => by
        show a_u (a_ur (a_u (a_u (a_u (a_u (mkB m mj x r) 82 x (m 69 x)) 69 x _) 71 x 0) 72 x 0) 70 _) 71 x _ 69 y = _
        rw [a_u_row (by decide), a_ur_ne (by decide), a_u_row (by decide), a_u_row (by decide)]
        by_cases c : y = x
        · rw [c, a_u_self, if_pos rfl]
        · rw [a_u_ne (fun z => c z.2), if_neg c, a_u_row (by decide)])
      (by
        show a_u (a_ur (a_u (a_u (a_u (a_u (mkB m mj x r) 82 x (m 69 x)) 69 x _) 71 x 0) 72 x 0) 70 _) 71 x _ 72 x = _
        rw [a_u_row (by decide), a_ur_ne (by decide), a_u_self])
      (fun y hy => by
        show a_u (a_ur (a_u (a_u (a_u (a_u (mkB m mj x r) 82 x (m 69 x)) 69 x _) 71 x 0) 72 x 0) 70 _) 71 x _ 71 y = _ ∧ a_u (a_ur (a_u (a_u (a_u (a_u (mkB m mj x r) 82 x (m 69 x)) 69 x _) 71 x 0) 72 x 0) 70 _) 71 x _ 72 y = _ ∧ ∀ a, a < 3 → a_u (a_ur (a_u (a_u (a_u (a_u (mkB m mj x r) 82 x (m 69 x)) 69 x _) 71 x 0) 72 x 0) 70 (wrS (a_u (mkB m mj x r) 82 x (m 69 x)) x r 3)) 71 x _ 70 (3 * y + a) = _
        refine ⟨?_, ?_, fun a ha => ?_⟩
        · rw [a_u_ne (fun z => hy z.2), a_ur_ne (by decide), a_u_row (by decide), a_u_ne (fun z => hy z.2), a_u_row (by decide), a_u_row (by decide)]
        · rw [a_u_row (by decide), a_ur_ne (by decide), a_u_ne (fun z => hy z.2), a_u_row (by decide), a_u_row (by decide), a_u_row (by decide)]
        · rw [a_u_row (by decide), a_ur_self]
          simp only [wrS]
          rw [if_neg (by omega), a_u_row (by decide)])
    rw [← hR2] at c4
    refine ⟨⟨_, c4⟩, fun o a _ b => ?_, fun o a _ b => ?_, hR9, fun y hy => ?_⟩
    · rw [hI, a_u_row (fun z => b (by omega))]; exact f1 o a b
    · rw [hR2, a_u_row b]; exact r1 o (by omega)
    · show I2 40 y = a_u (a_ur (a_u (a_u (a_u (a_u (mkB m mj x r) 82 x (m 69 x)) 69 x _) 71 x 0) 72 x 0) 70 _) 71 x _ 82 y - 1
      rw [a_u_row (by decide), a_ur_ne (by decide), a_u_row (by decide), a_u_row (by decide), a_u_row (by decide), hI]
      by_cases c : y = x
      · rw [c, a_u_self, a_u_self]
      · rw [a_u_ne (fun z => c z.2), a_u_ne (fun z => c z.2), b40, mkB_82]; exact h40 y hy
