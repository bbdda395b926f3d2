/-- the name x has the entry q -/
abbrev eqW (eq : Nat → Nat) (x q : Nat) : Nat → Nat := fun y => if y = x then q else eq y
theorem CEst.ent {T : List aT} {I : aI} {R : aR} {m m2 : aI} {g r0 r x q : Nat} {gq eq : Nat → Nat} (h : CEst T I R m g gq eq r0) (hT : aPT T) (hx : x < 64) (hq : EnT T R q) (hne : ∀ y, y < 64 → m 69 y ≠ 0 → eq y ≠ q)
    (hr : r < 60) (h0 : I q 0 = nI r) (h2 : I q 2 = m2 71 x) (h3 : I q 3 = 0) (h4 : ∀ a, a < 3 → I (q + 1) a = m2 70 (3 * x + a))
    (ho : ∀ o, 58 ≤ o → o ≤ 74 → o ≠ 69 → o ≠ 70 → o ≠ 71 → o ≠ 72 → m2 o = m o) (h44 : m2 44 25 = m 44 25 ∧ m2 44 35 = m 44 35) (h69 : ∀ y, m2 69 y = if y = x then nI (r + 1) else m 69 y) (h72 : m2 72 x = 0) (hy : ∀ y, y ≠ x → m2 71 y = m 71 y ∧ m2 72 y = m 72 y ∧ ∀ a, a < 3 → m2 70 (3 * y + a) = m 70 (3 * y + a)) : CEst T I (a_u R 25 x (some q)) m2 g gq (eqW eq x q) r0 := by
  have hq95 := a_ge hT hq.1 a_tags_3
  have nx : nI (r + 1) ≠ 0 := fun z => absurd ((nI_eq (a := r + 1) (b := 0) (by omega) (by omega)).mp z) (by omega)
  have e : ∀ o, 58 ≤ o → o ≤ 74 → o ≠ 69 → o ≠ 70 → o ≠ 71 → o ≠ 72 → m2 o = m o := ho
  refine ⟨(h.gn.fe hT rfl (fun _ _ _ => rfl) (a_u_row (by decide)) (fun o ho => a_u_row (by omega))).cgm (e 62 (by decide) (by decide) (by decide) (by decide) (by decide) (by decide)) (e 63 (by decide) (by decide) (by decide) (by decide) (by decide) (by decide)) (e 64 (by decide) (by decide) (by decide) (by decide) (by decide) (by decide)) (e 65 (by decide) (by decide) (by decide) (by decide) (by decide) (by decide)), h.ty.cgm (e 58 (by decide) (by decide) (by decide) (by decide) (by decide) (by decide)) (e 59 (by decide) (by decide) (by decide) (by decide) (by decide) (by decide)) (e 60 (by decide) (by decide) (by decide) (by decide) (by decide) (by decide)) (e 61 (by decide) (by decide) (by decide) (by decide) (by decide) (by decide)), ?_, ⟨fun y hy64 => ⟨fun z => ?_, fun z => ?_⟩, fun y z hy64 hz64 a b c => ?_⟩, by rw [h44.2]; exact h.sr, fun y hy64 => by rw [e 74 (by decide) (by decide) (by decide) (by decide) (by decide) (by decide)]; exact h.md hy64⟩
  · have q9 := h.rs
    unfold CRs at *
    rw [h44.1, e 66 (by decide) (by decide) (by decide) (by decide) (by decide) (by decide), e 67 (by decide) (by decide) (by decide) (by decide) (by decide) (by decide), e 68 (by decide) (by decide) (by decide) (by decide) (by decide) (by decide)]
    exact q9
  · rw [h69] at z
    by_cases c : y = x
    · rw [if_pos c] at z; exact absurd z nx
    · rw [if_neg c] at z; rw [a_u_ne (fun w => c w.2)]; exact h.en.no hy64 z
  · by_cases c : y = x
    · rw [c, a_u_self]
      refine ⟨by simp only [eqW, if_true], ?_⟩
      show EnAt T I (a_u R 25 x (some q)) m2 (if x = x then q else eq x) x
      rw [if_pos rfl]
      unfold EnAt
      rw [a_u_row (show q ≠ 25 by omega), h69, if_pos rfl, h72]
      exact ⟨hq.1, hq.2.1, hq.2.2.1, hq.2.2.2.1, hq.2.2.2.2, by rw [h0]; exact (nI_p1 r).symm, h2, h3, h4, fun a ha hb => by rw [b_0] at hb; cases hb⟩
    · rw [h69, if_neg c] at z
      have h95 := h.en.ge hT hy64 z
      have q9 := h.en.at hy64 z
      rw [a_u_ne (fun w => c w.2)]
      refine ⟨by rw [h.en.rf hy64 z]; simp only [eqW, if_neg c], ?_⟩
      show EnAt T I (a_u R 25 x (some q)) m2 (if y = x then q else eq y) y
      rw [if_neg c]
      have hy9 := hy y c
      unfold EnAt at *
      rw [a_u_row (show eq y ≠ 25 by omega), h69, if_neg c, hy9.1, hy9.2.1, e 73 (by decide) (by decide) (by decide) (by decide) (by decide) (by decide)]
      exact ⟨q9.1, q9.2.1, q9.2.2.1, q9.2.2.2.1, q9.2.2.2.2.1, q9.2.2.2.2.2.1, q9.2.2.2.2.2.2.1, q9.2.2.2.2.2.2.2.1, fun a ha => (q9.2.2.2.2.2.2.2.2.1 a ha).trans (hy9.2.2 a ha).symm, q9.2.2.2.2.2.2.2.2.2⟩
  · simp only [eqW] at c
    rw [h69] at a b
    by_cases cy : y = x
    · by_cases cz : z = x
      · omega
      · rw [if_pos cy, if_neg cz] at c; rw [if_neg cz] at b; exact absurd c.symm (hne z hz64 b)
    · by_cases cz : z = x
      · rw [if_neg cy, if_pos cz] at c; rw [if_neg cy] at a; exact absurd c (hne y hy64 a)
      · rw [if_neg cy, if_neg cz] at c; rw [if_neg cy] at a; rw [if_neg cz] at b; exact h.en.2 y z hy64 hz64 a b c
/-- a resource more -/
theorem CEst.res {T : List aT} {I I2 : aI} {R : aR} {m : aI} {mj : aJ} {g r x : Nat} {gq eq : Nat → Nat} (h : CEst T I R m g gq eq r) (hT : aPT T) (hx : x < 64) (hr : r < 60) (hmd : m 74 x = nI (iN m 74 x))
    (hf : ∀ o, o ≠ 19 → o ≠ 22 → o ≠ 23 → o ≠ 26 → I2 o = I o) (h19 : ∀ k, k ≠ 6 → I2 19 k = I 19 k) (h196 : I2 19 6 = nI (r + 1)) (h22 : ∀ j, I2 22 j = if j = r then nI (iN m 62 (x / 16)) else I 22 j) (h23 : ∀ j, I2 23 j = mkC I m mj x r 3 j) (h26 : ∀ j, I2 26 j = if j = x then nI (iN m 74 x + 1) else I 26 j) : CEst T I2 R (mkB m mj x r) g gq eq (r + 1) := by
  have e : ∀ o, o ≠ 66 → o ≠ 67 → o ≠ 68 → o ≠ 74 → o ≠ 44 → mkB m mj x r o = m o := fun o a b c d f => by
    show a_u (a_ur (a_u (a_u (a_u m 66 r _) 68 r 0) 44 25 _) 67 _) 74 x _ o = m o
    rw [a_u_row d, a_ur_ne b, a_u_row f, a_u_row c, a_u_row a]
  have e74 : ∀ y, mkB m mj x r 74 y = if y = x then nI (iN m 74 x + 1) else m 74 y := fun y => by
    show a_u (a_ur (a_u (a_u (a_u m 66 r _) 68 r 0) 44 25 _) 67 _) 74 x _ 74 y = _
    by_cases c : y = x
    · rw [c, a_u_self, if_pos rfl]
    · rw [a_u_ne (fun z => c z.2), if_neg c, a_ur_ne (by decide), a_u_row (by decide), a_u_row (by decide), a_u_row (by decide)]
  have e67 : ∀ j, mkB m mj x r 67 j = mkR m mj x r 3 j := fun j => by
    show a_u (a_ur (a_u (a_u (a_u m 66 r _) 68 r 0) 44 25 _) 67 _) 74 x _ 67 j = _
    rw [a_u_row (by decide), a_ur_self]
  have e66 : ∀ j, mkB m mj x r 66 j = if j = r then nI (iN m 62 (x / 16)) else m 66 j := fun j => by
    show a_u (a_ur (a_u (a_u (a_u m 66 r _) 68 r 0) 44 25 _) 67 _) 74 x _ 66 j = _
    rw [a_u_row (by decide), a_ur_ne (by decide), a_u_row (by decide), a_u_row (by decide)]
    by_cases c : j = r
    · rw [c, a_u_self, if_pos rfl]
    · rw [a_u_ne (fun z => c z.2), if_neg c]
  have e68 : ∀ j, mkB m mj x r 68 j = if j = r then 0 else m 68 j := fun j => by
    show a_u (a_ur (a_u (a_u (a_u m 66 r _) 68 r 0) 44 25 _) 67 _) 74 x _ 68 j = _
    rw [a_u_row (by decide), a_ur_ne (by decide), a_u_row (by decide)]
    by_cases c : j = r
    · rw [c, a_u_self, if_pos rfl]
    · rw [a_u_ne (fun z => c z.2), if_neg c, a_u_row (by decide)]
  have e44 : ∀ k, mkB m mj x r 44 k = if k = 25 then nI (r + 1) else m 44 k := fun k => by
    show a_u (a_ur (a_u (a_u (a_u m 66 r _) 68 r 0) 44 25 _) 67 _) 74 x _ 44 k = _
    rw [a_u_row (by decide), a_ur_ne (by decide)]
    by_cases c : k = 25
    · rw [c, a_u_self, if_pos rfl]
    · rw [a_u_ne (fun z => c z.2), if_neg c, a_u_row (by decide), a_u_row (by decide)]
  obtain ⟨q1, q2, q3, q4, q5⟩ := h.rs
  refine ⟨(h.gn.fr hT (fun o ho => hf o (by omega) (by omega) (by omega) (by omega)) (h19 2 (by decide))).cgm (e 62 (by decide) (by decide) (by decide) (by decide) (by decide)) (e 63 (by decide) (by decide) (by decide) (by decide) (by decide)) (e 64 (by decide) (by decide) (by decide) (by decide) (by decide)) (e 65 (by decide) (by decide) (by decide) (by decide) (by decide)), (h.ty.fr (fun o _ _ => hf o (by omega) (by omega) (by omega) (by omega))).cgm (e 58 (by decide) (by decide) (by decide) (by decide) (by decide)) (e 59 (by decide) (by decide) (by decide) (by decide) (by decide)) (e 60 (by decide) (by decide) (by decide) (by decide) (by decide)) (e 61 (by decide) (by decide) (by decide) (by decide) (by decide)), ⟨h196, by rw [e44, if_pos rfl], by omega, fun j hj => ⟨?_, ?_, fun hg a ha => ?_⟩, fun j hj hj2 => ?_⟩, (h.en.fr hT (fun o ho => hf o (by omega) (by omega) (by omega) (by omega))).cgm (e 69 (by decide) (by decide) (by decide) (by decide) (by decide)) (e 70 (by decide) (by decide) (by decide) (by decide) (by decide)) (e 71 (by decide) (by decide) (by decide) (by decide) (by decide)) (e 72 (by decide) (by decide) (by decide) (by decide) (by decide)) (e 73 (by decide) (by decide) (by decide) (by decide) (by decide)), by rw [h19 8 (by decide), e44, if_neg (by decide)]; exact h.sr, fun y hy => ?_⟩
  · rw [h22, e66, (q4 j hj).1]
  · rw [hf 24 (by decide) (by decide) (by decide) (by decide), e68]
    by_cases c : j = r
    · rw [if_pos c, (q4 j hj).2.1, c]; exact q5 r (Nat.le_refl _) hr
    · rw [if_neg c]; exact (q4 j hj).2.1
  · rw [h23, e67]
    simp only [mkC, mkR]
    by_cases c : 3 * r ≤ 3 * j + a ∧ 3 * j + a < 3 * r + 3
    · rw [if_pos c, if_pos c]
    · rw [if_neg c, if_neg c]
      rw [e68, if_neg (by omega)] at hg
      exact (q4 j hj).2.2 hg a ha
  · rw [e68, if_neg (by omega)]; exact q5 j (by omega) hj2
  · rw [h26, e74]
    by_cases c : y = x
    · rw [if_pos c, if_pos c]
    · rw [if_neg c, if_neg c]; exact h.md hy
