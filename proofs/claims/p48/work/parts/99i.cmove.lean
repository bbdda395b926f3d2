def mvB (m : aI) (x y : Nat) : aI := a_u (a_u (a_ur (a_ur (a_u (a_u (a_u m 69 y (m 69 x)) 71 y (m 71 x)) 72 y (m 72 x)) 70 (mvR m 70 x y 3)) 73 (mvR m 73 x y 3)) 69 x 0) 44 35 (m 44 35 + 1)
theorem mvB_o {m : aI} {x y q : Nat} (h : q ≠ 69) (h1 : q ≠ 70) (h2 : q ≠ 71) (h3 : q ≠ 72) (h4 : q ≠ 73) (h5 : q ≠ 44) : mvB m x y q = m q := by unfold mvB; rw [a_u_row h5, a_u_row h, a_ur_ne h4, a_ur_ne h1, a_u_row h3, a_u_row h2, a_u_row h]
theorem mvB_4 {m : aI} {x y k : Nat} (h : k ≠ 35) : mvB m x y 44 k = m 44 k := by unfold mvB; rw [a_u_ne (fun z => h z.2), a_u_row (by decide), a_ur_ne (by decide), a_ur_ne (by decide), a_u_row (by decide), a_u_row (by decide), a_u_row (by decide)]
theorem mvB_35 {m : aI} {x y : Nat} : mvB m x y 44 35 = m 44 35 + 1 := by unfold mvB; exact a_u_self
theorem mvB_69 {m : aI} {x y j : Nat} : mvB m x y 69 j = if j = x then 0 else if j = y then m 69 x else m 69 j := by
  unfold mvB; rw [a_u_row (by decide)]
  by_cases zc : j = x
  · rw [if_pos zc, zc, a_u_self]
  · rw [if_neg zc, a_u_ne (fun z => zc z.2), a_ur_ne (by decide), a_ur_ne (by decide), a_u_row (by decide), a_u_row (by decide)]
    by_cases zd : j = y
    · rw [if_pos zd, zd, a_u_self]
    · rw [if_neg zd, a_u_ne (fun z => zd z.2)]
theorem mvB_71 {m : aI} {x y j : Nat} : mvB m x y 71 j = if j = y then m 71 x else m 71 j := by
  unfold mvB; rw [a_u_row (by decide), a_u_row (by decide), a_ur_ne (by decide), a_ur_ne (by decide), a_u_row (by decide)]
  by_cases zd : j = y
  · rw [if_pos zd, zd, a_u_self]
  · rw [if_neg zd, a_u_ne (fun z => zd z.2), a_u_row (by decide)]
theorem mvB_72 {m : aI} {x y j : Nat} : mvB m x y 72 j = if j = y then m 72 x else m 72 j := by
  unfold mvB; rw [a_u_row (by decide), a_u_row (by decide), a_ur_ne (by decide), a_ur_ne (by decide)]
  by_cases zd : j = y
  · rw [if_pos zd, zd, a_u_self]
  · rw [if_neg zd, a_u_ne (fun z => zd z.2), a_u_row (by decide), a_u_row (by decide)]
theorem mvB_70 {m : aI} {x y : Nat} : mvB m x y 70 = mvR m 70 x y 3 := by unfold mvB; rw [a_u_row (by decide), a_u_row (by decide), a_ur_ne (by decide), a_ur_self]
theorem mvB_73 {m : aI} {x y : Nat} : mvB m x y 73 = mvR m 73 x y 3 := by unfold mvB; rw [a_u_row (by decide), a_u_row (by decide), a_ur_self]
theorem CEst.mov {T : List aT} {I : aI} {R : aR} {m : aI} {g r x y : Nat} {gq eq : Nat → Nat} (h : CEst T I R m g gq eq r) (hT : aPT T) (hx : x < 64) (hy : y < 64) (hxy : x ≠ y) (h0 : m 69 x ≠ 0) (hy0 : m 69 y = 0) : CEst T (a_u I 19 8 (m 44 35 + 1)) (a_u (a_u R 25 y (some (eq x))) 25 x none) (mvB m x y) g gq (eqW eq y (eq x)) r := by
  have em : ∀ q, q ≠ 69 → q ≠ 70 → q ≠ 71 → q ≠ 72 → q ≠ 73 → q ≠ 44 → mvB m x y q = m q := fun q a b zc d e f => mvB_o a b zc d e f
  have lo : ∀ o, o ≠ 19 → a_u I 19 8 (m 44 35 + 1) o = I o := fun o a => a_u_row a
  have l19 : ∀ k, k ≠ 8 → a_u I 19 8 (m 44 35 + 1) 19 k = I 19 k := fun k a => a_u_ne (fun z => a z.2)
  have rr : ∀ o, o ≠ 25 → a_u (a_u R 25 y (some (eq x))) 25 x none o = R o := fun o a => by rw [a_u_row a, a_u_row a]
  have rx : a_u (a_u R 25 y (some (eq x))) 25 x none 25 x = none := a_u_self
  have ry : a_u (a_u R 25 y (some (eq x))) 25 x none 25 y = some (eq x) := by rw [a_u_ne (fun z => hxy z.2.symm), a_u_self]
  have rz : ∀ z, z ≠ x → z ≠ y → a_u (a_u R 25 y (some (eq x))) 25 x none 25 z = R 25 z := fun z a b => by rw [a_u_ne (fun w => a w.2), a_u_ne (fun w => b w.2)]
  have g69 : ∀ z, mvB m x y 69 z ≠ 0 → z ≠ x ∧ (z ≠ y → m 69 z ≠ 0 ∧ mvB m x y 69 z = m 69 z) := fun z hz => by
    rw [mvB_69] at hz
    by_cases zc : z = x
    · rw [if_pos zc] at hz; exact absurd rfl hz
    · rw [if_neg zc] at hz
      exact ⟨zc, fun zd => by rw [if_neg zd] at hz; exact ⟨hz, by rw [mvB_69, if_neg zc, if_neg zd]⟩⟩
  refine ⟨⟨by rw [l19 2 (by decide)]; exact h.gn.1, fun i hi => ⟨by rw [rr 21 (by decide)]; exact h.gn.rf hi, ?_⟩, h.gn.2.2⟩, (h.ty.fr (fun o _ _ => lo o (by omega))).cgm (em 58 (by decide) (by decide) (by decide) (by decide) (by decide) (by decide)) (em 59 (by decide) (by decide) (by decide) (by decide) (by decide) (by decide)) (em 60 (by decide) (by decide) (by decide) (by decide) (by decide) (by decide)) (em 61 (by decide) (by decide) (by decide) (by decide) (by decide) (by decide)), ?_, ⟨fun z hz => ⟨fun z0 => ?_, fun z0 => ?_⟩, fun z1 z2 hz1 hz2 n1 n2 he => ?_⟩, by rw [mvB_35]; exact a_u_self, fun z hz => by rw [lo 26 (by decide), em 74 (by decide) (by decide) (by decide) (by decide) (by decide) (by decide)]; exact h.md hz⟩
  · have q := h.gn.at hi
    have h95 := h.gn.ge hT hi
    unfold GnAt at *
    rw [lo _ (by omega), lo _ (by omega), lo _ (by omega), rr _ (by omega), em 62 (by decide) (by decide) (by decide) (by decide) (by decide) (by decide), em 63 (by decide) (by decide) (by decide) (by decide) (by decide) (by decide), em 64 (by decide) (by decide) (by decide) (by decide) (by decide) (by decide), em 65 (by decide) (by decide) (by decide) (by decide) (by decide) (by decide)]; exact q
  · have q := h.rs
    unfold CRs at *
    rw [l19 6 (by decide), lo 22 (by decide), lo 23 (by decide), lo 24 (by decide), mvB_4 (by decide), em 66 (by decide) (by decide) (by decide) (by decide) (by decide) (by decide), em 67 (by decide) (by decide) (by decide) (by decide) (by decide) (by decide), em 68 (by decide) (by decide) (by decide) (by decide) (by decide) (by decide)]
    exact q
  · rw [mvB_69] at z0
    by_cases zc : z = x
    · rw [zc]; exact rx
    · rw [if_neg zc] at z0
      by_cases zd : z = y
      · rw [if_pos zd] at z0; exact absurd z0 h0
      · rw [if_neg zd] at z0
        rw [rz z zc zd]; exact h.en.no hz z0
  · have g9 := g69 z z0
    by_cases zd : z = y
    · subst zd
      have q := h.en.at hx h0
      have h95 := h.en.ge hT hx h0
      have ew : eqW eq z (eq x) z = eq x := if_pos rfl
      rw [ew]
      refine ⟨ry, ?_⟩
      unfold EnAt at *
      rw [lo _ (by omega), lo _ (by omega), lo _ (by omega), rr _ (by omega), mvB_69, if_neg g9.1, if_pos rfl, mvB_71, if_pos rfl, mvB_72, if_pos rfl, mvB_70, mvB_73]
      refine ⟨q.1, q.2.1, q.2.2.1, q.2.2.2.1, q.2.2.2.2.1, q.2.2.2.2.2.1, q.2.2.2.2.2.2.1, q.2.2.2.2.2.2.2.1, fun a ha => ?_, fun a ha hb => ?_⟩
      · rw [h.en.vl hx h0 ha]
        show _ = (if 3 * z ≤ 3 * z + a ∧ 3 * z + a < 3 * z + 3 then m 70 (3 * x + (3 * z + a - 3 * z)) else m 70 (3 * z + a))
        rw [if_pos (by omega), show 3 * z + a - 3 * z = a by omega]
      · rw [h.en.bs hx h0 ha hb]
        show _ = (if 3 * z ≤ 3 * z + a ∧ 3 * z + a < 3 * z + 3 then m 73 (3 * x + (3 * z + a - 3 * z)) else m 73 (3 * z + a))
        rw [if_pos (by omega), show 3 * z + a - 3 * z = a by omega]
    · have g8 := g9.2 zd
      have q := h.en.at hz g8.1
      have h95 := h.en.ge hT hz g8.1
      have ew : eqW eq y (eq x) z = eq z := if_neg zd
      rw [ew]
      refine ⟨by rw [rz z g9.1 zd]; exact h.en.rf hz g8.1, ?_⟩
      unfold EnAt at *
      rw [lo _ (by omega), lo _ (by omega), lo _ (by omega), rr _ (by omega), g8.2, mvB_71, if_neg zd, mvB_72, if_neg zd, mvB_70, mvB_73]
      refine ⟨q.1, q.2.1, q.2.2.1, q.2.2.2.1, q.2.2.2.2.1, q.2.2.2.2.2.1, q.2.2.2.2.2.2.1, q.2.2.2.2.2.2.2.1, fun a ha => ?_, fun a ha hb => ?_⟩
      · rw [h.en.vl hz g8.1 ha]
        show _ = (if 3 * y ≤ 3 * z + a ∧ 3 * z + a < 3 * y + 3 then m 70 (3 * x + (3 * z + a - 3 * y)) else m 70 (3 * z + a))
        rw [if_neg (by omega)]
      · rw [h.en.bs hz g8.1 ha hb]
        show _ = (if 3 * y ≤ 3 * z + a ∧ 3 * z + a < 3 * y + 3 then m 73 (3 * x + (3 * z + a - 3 * y)) else m 73 (3 * z + a))
        rw [if_neg (by omega)]
  · have a1 := g69 z1 n1
    have a2 := g69 z2 n2
    have he2 : (if z1 = y then eq x else eq z1) = (if z2 = y then eq x else eq z2) := he
    by_cases zc : z1 = y
    · by_cases zd : z2 = y
      · omega
      · rw [if_pos zc, if_neg zd] at he2
        exact absurd (h.en.2 x z2 hx hz2 h0 (a2.2 zd).1 he2).symm a2.1
    · by_cases zd : z2 = y
      · rw [if_neg zc, if_pos zd] at he2
        exact absurd (h.en.2 z1 x hz1 hx (a1.2 zc).1 h0 he2) a1.1
      · rw [if_neg zc, if_neg zd] at he2
        exact h.en.2 z1 z2 hz1 hz2 (a1.2 zc).1 (a2.2 zd).1 he2
theorem mvR_y {m : aI} {q x y a : Nat} (ha : a < 3) : mvR m q x y 3 (3 * y + a) = m q (3 * x + a) := by
  show (if 3 * y ≤ 3 * y + a ∧ 3 * y + a < 3 * y + 3 then m q (3 * x + (3 * y + a - 3 * y)) else m q (3 * y + a)) = _
  rw [if_pos (by omega), show 3 * y + a - 3 * y = a by omega]
theorem mvR_z {m : aI} {q x y z a : Nat} (ha : a < 3) (hz : z ≠ y) : mvR m q x y 3 (3 * z + a) = m q (3 * z + a) := by
  show (if 3 * y ≤ 3 * z + a ∧ 3 * z + a < 3 * y + 3 then m q (3 * x + (3 * z + a - 3 * y)) else m q (3 * z + a)) = _
  rw [if_neg (by omega)]
theorem MEs.mov {m : aI} {g r x y : Nat} (h : MEs m g r) (hx : x < 16 * g) (hy : y < 16 * g) (h0 : m 69 x ≠ 0) (ht : m 62 (x / 16) = m 62 (y / 16)) : MEs (mvB m x y) g r := by
  have em : ∀ q, q ≠ 69 → q ≠ 70 → q ≠ 71 → q ≠ 72 → q ≠ 73 → q ≠ 44 → mvB m x y q = m q := fun q a b zc d e f => mvB_o a b zc d e f
  have n : ∀ q, q ≠ 69 → q ≠ 70 → q ≠ 71 → q ≠ 72 → q ≠ 73 → q ≠ 44 → iN (mvB m x y) q = iN m q := fun q a b zc d e f => by unfold iN; rw [em q a b zc d e f]
  obtain ⟨⟨i1, i2, i3, i4⟩, s1, s2, s3, s4⟩ := h
  have hg4 := i1.1
  have hx6 : x < 64 := by omega
  have g69 : ∀ z, mvB m x y 69 z ≠ 0 → z ≠ x ∧ (z = y → mvB m x y 69 z = m 69 x) ∧ (z ≠ y → m 69 z ≠ 0 ∧ mvB m x y 69 z = m 69 z) := fun z hz => by
    rw [mvB_69] at hz
    by_cases zc : z = x
    · rw [if_pos zc] at hz; exact absurd rfl hz
    · rw [if_neg zc] at hz
      exact ⟨zc, fun zd => by rw [mvB_69, if_neg zc, if_pos zd], fun zd => by rw [if_neg zd] at hz; exact ⟨hz, by rw [mvB_69, if_neg zc, if_neg zd]⟩⟩
  have tI : iN m 62 (x / 16) = iN m 62 (y / 16) := by unfold iN; rw [ht]
  have eu : ∀ z, uxn (mvB m x y) z = uxn m z := fun z => by show iN (mvB m x y) 61 (iN (mvB m x y) 62 (z / 16)) = _; rw [n 61 (by decide) (by decide) (by decide) (by decide) (by decide) (by decide), n 62 (by decide) (by decide) (by decide) (by decide) (by decide) (by decide)]
  have eux : uxn m x = uxn m y := by show iN m 61 (iN m 62 (x / 16)) = iN m 61 (iN m 62 (y / 16)); rw [tI]
  refine ⟨⟨⟨i1.1, by rw [mvB_4 (by decide)]; exact i1.2.1, (by have q := i1.2.2.1; unfold SO3 iN at *; rw [em 65 (by decide) (by decide) (by decide) (by decide) (by decide) (by decide)]; exact q), NR_cg (em 62 (by decide) (by decide) (by decide) (by decide) (by decide) (by decide)) i1.2.2.2.1, NR_cg (em 61 (by decide) (by decide) (by decide) (by decide) (by decide) (by decide)) i1.2.2.2.2.1, NR_cg (em 63 (by decide) (by decide) (by decide) (by decide) (by decide) (by decide)) i1.2.2.2.2.2.1, fun j => ?_⟩, ⟨fun i a hi ha hcc => ?_, fun z hz hn => ?_, fun z a hz ha hb => ?_⟩, ⟨fun z a hz ha hn => ?_, fun j a hj ha hgn => ?_, fun z hz hn => ?_, NR_cg (em 66 (by decide) (by decide) (by decide) (by decide) (by decide) (by decide)) i3.2.2.2⟩, fun z hz => ⟨fun w => ?_, fun w v => ?_⟩⟩, ⟨fun i a s hi ha hs h1 h2 => ?_, fun z a hz ha hn => ?_⟩, m74_cg s2 (em 74 (by decide) (by decide) (by decide) (by decide) (by decide) (by decide)) (Nat.le_refl _), fun z hz hn => ?_, s4.cgm (em 63 (by decide) (by decide) (by decide) (by decide) (by decide) (by decide)) (em 64 (by decide) (by decide) (by decide) (by decide) (by decide) (by decide)) (em 65 (by decide) (by decide) (by decide) (by decide) (by decide) (by decide)) (em 67 (by decide) (by decide) (by decide) (by decide) (by decide) (by decide))⟩
  · rw [mvB_71]
    by_cases zd : j = y
    · rw [if_pos zd]; exact i1.2.2.2.2.2.2 x
    · rw [if_neg zd]; exact i1.2.2.2.2.2.2 j
  · rw [n 62 (by decide) (by decide) (by decide) (by decide) (by decide) (by decide), em 58 (by decide) (by decide) (by decide) (by decide) (by decide) (by decide)] at hcc
    rw [em 65 (by decide) (by decide) (by decide) (by decide) (by decide) (by decide)]; exact i2.1 i a hi ha hcc
  · have q := g69 z hn
    by_cases zd : z = y
    · rw [q.2.1 zd]; exact i2.2.1 x hx6 h0
    · rw [(q.2.2 zd).2]; exact i2.2.1 z hz (q.2.2 zd).1
  · rw [mvB_72] at hb
    rw [mvB_73]
    by_cases zd : z = y
    · rw [if_pos zd] at hb
      have eb : bsM (mvB m x y) y = bsM m x := by have z := eu y; unfold uxn at z eux; unfold bsM; rw [z, ← eux]
      rw [zd, mvR_y ha, eb]; exact i2.2.2 x a hx6 ha hb
    · rw [if_neg zd] at hb
      have eb : bsM (mvB m x y) z = bsM m z := by have z9 := eu z; unfold uxn at z9; unfold bsM; rw [z9]
      rw [mvR_z ha zd, eb]; exact i2.2.2 z a hz ha hb
  · have q := g69 z hn
    rw [eu]
    unfold iN
    rw [mvB_70]
    by_cases zd : z = y
    · have w := i3.1 x a hx6 ha h0
      unfold iN at w
      rw [zd, mvR_y ha, ← eux]; exact w
    · have w := i3.1 z a hz ha (q.2.2 zd).1
      unfold iN at w
      rw [mvR_z ha zd]; exact w
  · rw [em 68 (by decide) (by decide) (by decide) (by decide) (by decide) (by decide)] at hgn
    rw [n 67 (by decide) (by decide) (by decide) (by decide) (by decide) (by decide), n 61 (by decide) (by decide) (by decide) (by decide) (by decide) (by decide), n 66 (by decide) (by decide) (by decide) (by decide) (by decide) (by decide), em 67 (by decide) (by decide) (by decide) (by decide) (by decide) (by decide)]; exact i3.2.1 j a hj ha hgn
  · have q := g69 z hn
    rw [em 66 (by decide) (by decide) (by decide) (by decide) (by decide) (by decide), em 62 (by decide) (by decide) (by decide) (by decide) (by decide) (by decide)]
    by_cases zd : z = y
    · obtain ⟨w1, r1, w2, w3, w4⟩ := i3.2.2.1 x hx6 h0
      rw [q.2.1 zd, zd, ← ht]; exact ⟨hy, r1, w2, w3, w4⟩
    · rw [(q.2.2 zd).2]; exact i3.2.2.1 z hz (q.2.2 zd).1
  · rw [mvB_72, if_neg (by omega)]; exact (i4 z hz).1 w
  · rw [n 62 (by decide) (by decide) (by decide) (by decide) (by decide) (by decide), em 60 (by decide) (by decide) (by decide) (by decide) (by decide) (by decide)] at v
    rw [mvB_72]
    by_cases zd : z = y
    · rw [if_pos zd]; exact (i4 x hx6).2 hx (by rw [tI, ← zd]; exact v)
    · rw [if_neg zd]; exact (i4 z hz).2 w v
  · rw [em 65 (by decide) (by decide) (by decide) (by decide) (by decide) (by decide)] at hs
    rw [n 62 (by decide) (by decide) (by decide) (by decide) (by decide) (by decide), em 58 (by decide) (by decide) (by decide) (by decide) (by decide) (by decide)]; exact s1.1 i a s hi ha hs h1 h2
  · have q := g69 z hn
    rw [mvB_70]
    by_cases zd : z = y
    · rw [zd, mvR_y ha]; exact s1.2 x a hx6 ha h0
    · rw [mvR_z ha zd]; exact s1.2 z a hz ha (q.2.2 zd).1
  · have q := g69 z hn
    unfold iN
    by_cases zd : z = y
    · have w := s3 x hx6 h0
      unfold iN at w
      rw [q.2.1 zd]; exact w
    · have w := s3 z hz (q.2.2 zd).1
      unfold iN at w
      rw [(q.2.2 zd).2]; exact w
theorem nolk43 {T : List aT} {I : aI} {J : aJ} {R : aR} {m : aI} {c n : Nat} {sq : Nat → Nat} {g : Nat} {gq eq : Nat → Nat} {r p : Nat} {pq : Nat → Nat} {k : Nat} (h9 : G9 T I J R m c n sq g gq eq r p pq k) (h : m 44 45 < 0) : ¬ 0 ≤ m 44 43 := fun q => by
  rcases h9.pl.2.2.2.2.2.2.2 with w | ⟨i, a, _, _, _, _, w, _⟩
  · rw [w] at q; exact absurd q (by decide)
  · exact absurd h (Int32.not_lt.mpr w)
theorem ty_eq {m : aI} {g x y : Nat} (hg : GW m g) (hx : x < 16 * g) (hy : y < 16 * g) : iN m 62 (x / 16) = iN m 62 (y / 16) ↔ m 62 (x / 16) = m 62 (y / 16) := by
  have hg4 := hg.1
  have a1 := (hg.2.2.2.1 (x / 16) (by omega)).1
  have a2 := (hg.2.2.2.1 (y / 16) (by omega)).1
  exact ⟨fun q => by rw [a1, a2, q], fun q => by unfold iN; rw [q]⟩
set_option maxRecDepth 100000 in
theorem m_X11_move {T : List aT} {I : aI} {J : aJ} {R : aR} {m : aI} {c n : Nat} {sq : Nat → Nat} {g : Nat} {gq eq : Nat → Nat} {r p : Nat} {pq : Nat → Nat} {k : Nat} (h9 : G9 T I J R m c n sq g gq eq r p pq k) (x y : Int32) : MX11_move 3 200 [.ref 0, .int x, .int y] T I J R (CP [exI, exS] I J m c (fun k v m2 => ((((0 ≤ x ∧ x < nI (16 * g)) ∧ (0 ≤ y ∧ y < nI (16 * g))) ∧ canMv m x.toNatClampNeg y.toNatClampNeg) ∧ k = 0 ∧ v = m 44 35 + 1 ∧ m2 = mvB m x.toNatClampNeg y.toNatClampNeg) ∨ ((((0 ≤ x ∧ x < nI (16 * g)) ∧ (0 ≤ y ∧ y < nI (16 * g))) ∧ ¬ canMv m x.toNatClampNeg y.toNatClampNeg) ∧ k = 2 ∧ m2 = m) ∨ (¬ ((0 ≤ x ∧ x < nI (16 * g)) ∧ (0 ≤ y ∧ y < nI (16 * g))) ∧ k = 1 ∧ m2 = m))) := by
  refine a_met (by decide +kernel) a_le (fun X hC hq => ?_)
  show AW X 0 0 0 [some (.ref 0), some (.int x), some (.int y)] [] T I J R
  have hT := h9.hT
  have hR := h9.hR
  have hG := h9.ces.gn
  have hg := h9.es.1.1
  have hg4 := hg.g4
  have hgn := hG.1
  have hE := h9.ces.en
  have hRs := h9.ces.rs
  have hr60 := hRs.r60
  have hY := h9.ces.ty
  refine aw_aload_n hC dX11_move_0 rfl ?_
  refine aw_getR hC dX11_move_1 aF_X11_28 rfl (tg_0 hT) (pr_0_2 hR) ?_
  refine aw_iload_n hC dX11_move_4 rfl ?_
  refine kX11_260 hC rfl (m_X4_isName (I := I) hT hR hgn x) dX11_move_5 (tg_19 hT) rfl a_le a_le a_le a_le a_le rfl aPure_x (aPure_k ?_)
  show AW X 0 0 8 [some (.ref 0), some (.int x), some (.int y)] [.int (bI (decide (0 ≤ x ∧ x < nI (16 * g))))] T I J R
  refine aw_if_eq (tgt := 26) hC dX11_move_8 (by decide) (fun h1 => ?_) (fun h1 => ?_)
  · show AW X 0 0 26 [some (.ref 0), some (.int x), some (.int y)] [] T I J R
    refine aw_iconst (v := 0) hC dX11_move_26 (by decide) ?_
    exact kX11_68 hC rfl (m_X11_needIndexF (T := T) (I := I) (J := J) (R := R)) dX11_move_27 rfl a_le a_le a_le a_le a_le rfl (aTh_x (ae_out hC hq a_le a_le (CP.th (j := 0) rfl (Or.inr (Or.inr ⟨fun q => by first | exact absurd q.1 (of_decide_eq_false (bI_e0.mp (by assumption))) | exact absurd q.2 (of_decide_eq_false (bI_e0.mp (by assumption))), rfl, rfl⟩)) h9.gi))) aTh_k
  · show AW X 0 0 11 [some (.ref 0), some (.int x), some (.int y)] [] T I J R
    refine aw_aload_n hC dX11_move_11 rfl ?_
    refine aw_getR hC dX11_move_12 aF_X11_28 rfl (tg_0 hT) (pr_0_2 hR) ?_
    refine aw_iload_n hC dX11_move_15 rfl ?_
    refine kX11_260 hC rfl (m_X4_isName (I := I) hT hR hgn y) dX11_move_16 (tg_19 hT) rfl a_le a_le a_le a_le a_le rfl aPure_x (aPure_k ?_)
    show AW X 0 0 19 [some (.ref 0), some (.int x), some (.int y)] [.int (bI (decide (0 ≤ y ∧ y < nI (16 * g))))] T I J R
    refine aw_if_eq (tgt := 26) hC dX11_move_19 (by decide) (fun h2 => ?_) (fun h2 => ?_)
    · show AW X 0 0 26 [some (.ref 0), some (.int x), some (.int y)] [] T I J R
      refine aw_iconst (v := 0) hC dX11_move_26 (by decide) ?_
      exact kX11_68 hC rfl (m_X11_needIndexF (T := T) (I := I) (J := J) (R := R)) dX11_move_27 rfl a_le a_le a_le a_le a_le rfl (aTh_x (ae_out hC hq a_le a_le (CP.th (j := 0) rfl (Or.inr (Or.inr ⟨fun q => by first | exact absurd q.1 (of_decide_eq_false (bI_e0.mp (by assumption))) | exact absurd q.2 (of_decide_eq_false (bI_e0.mp (by assumption))), rfl, rfl⟩)) h9.gi))) aTh_k
    · show AW X 0 0 22 [some (.ref 0), some (.int x), some (.int y)] [] T I J R
      refine aw_iconst (v := 1) hC dX11_move_22 (by decide) ?_
      refine aw_goto (tgt := 27) hC dX11_move_23 (by decide) ?_
      refine kX11_68 hC rfl (m_X11_needIndexT (T := T) (I := I) (J := J) (R := R) (x := 1) (by decide)) dX11_move_27 rfl a_le a_le a_le a_le a_le rfl aPure_x (aPure_k ?_)
      show AW X 0 0 30 [some (.ref 0), some (.int x), some (.int y)] [] T I J R
      have hfcx : 0 ≤ x ∧ x < nI (16 * g) := of_decide_eq_true (bI_n0.mp (by assumption))
      obtain ⟨x1, hx1, ex1⟩ := i_nat (x := x) (b := 16 * g) hfcx.1 hfcx.2 rfl (by first | decide | omega)
      subst ex1
      have hfcy : 0 ≤ y ∧ y < nI (16 * g) := of_decide_eq_true (bI_n0.mp (by assumption))
      obtain ⟨y1, hy1, ey1⟩ := i_nat (x := y) (b := 16 * g) hfcy.1 hfcy.2 rfl (by first | decide | omega)
      subst ey1
      have hty1 := (hg.ty (x1 / 16) (by omega)).2
      have hty2 := (hg.ty (y1 / 16) (by omega)).2
      show AW X 0 0 30 [some (.ref 0), some (.int (nI x1)), some (.int (nI y1))] [] T I J R
      refine aw_aload_n hC dX11_move_30 rfl ?_
      refine aw_getR hC dX11_move_31 aF_X11_46 rfl (tg_0 hT) (pr_0_4 hR) ?_
      refine aw_getI hC dX11_move_34 aF_X11_254 rfl (tg_38 hT) ?_
      rw [h9.cap.2.2.1]
      refine aw_if_ne (tgt := 68) hC dX11_move_37 (by decide) (fun h3 => ?_) (fun h3 => ?_)
      · show AW X 0 0 68 [some (.ref 0), some (.int (nI x1)), some (.int (nI y1))] [] T I J R
        refine aw_iconst (v := 0) hC dX11_move_68 (by decide) ?_
        exact kX11_88 hC rfl (m_X11_needStateF (T := T) (I := I) (J := J) (R := R)) dX11_move_69 rfl a_le a_le a_le a_le a_le rfl (aTh_x (ae_out hC hq a_le a_le (CP.th (j := 1) rfl (Or.inr (Or.inl ⟨⟨⟨hfcx, hfcy⟩, by rw [nI_clamp (show x1 < 2 ^ 31 by omega)]; rw [nI_clamp (show y1 < 2 ^ 31 by omega)]; exact fun q => by first | exact absurd q.1 (Int32.not_lt.mpr (bI_dn.mp (by assumption : ¬ bI (decide (0 ≤ m 44 45)) = 0))) | exact absurd hx69 q.2.1 | exact q.2.2.1 (h9.es.1.2.1.2.1 _ (by omega) hy69) | exact absurd ((ty_eq hg hx1 hy1).mpr q.2.2.2) (by assumption)⟩, rfl, rfl⟩)) h9.gi))) aTh_k
      · show AW X 0 0 40 [some (.ref 0), some (.int (nI x1)), some (.int (nI y1))] [] T I J R
        refine aw_aload_n hC dX11_move_40 rfl ?_
        refine aw_getR hC dX11_move_41 aF_X11_28 rfl (tg_0 hT) (pr_0_2 hR) ?_
        refine aw_getR hC dX11_move_44 aF_X11_318 rfl (tg_19 hT) (pr_19_7 hR) ?_
        refine aw_iload_n hC dX11_move_47 rfl ?_
        by_cases hx69 : m 69 x1 = 0
        · show AW X 0 0 48 [some (.ref 0), some (.int (nI x1)), some (.int (nI y1))] [.int (nI x1), .ref 25] T I J R
          refine aw_aaloadN_k (j := x1) hC dX11_move_48 (tg_25 hT) (nI_clamp (by omega)) (vp_in_nI (by omega) (by decide)) (hE.no (by omega) hx69) ?_
          refine aw_ifnullN (tgt := 68) hC dX11_move_49 (by decide) ?_
          refine aw_iconst (v := 0) hC dX11_move_68 (by decide) ?_
          exact kX11_88 hC rfl (m_X11_needStateF (T := T) (I := I) (J := J) (R := R)) dX11_move_69 rfl a_le a_le a_le a_le a_le rfl (aTh_x (ae_out hC hq a_le a_le (CP.th (j := 1) rfl (Or.inr (Or.inl ⟨⟨⟨hfcx, hfcy⟩, by rw [nI_clamp (show x1 < 2 ^ 31 by omega)]; rw [nI_clamp (show y1 < 2 ^ 31 by omega)]; exact fun q => by first | exact absurd q.1 (Int32.not_lt.mpr (bI_dn.mp (by assumption : ¬ bI (decide (0 ≤ m 44 45)) = 0))) | exact absurd hx69 q.2.1 | exact q.2.2.1 (h9.es.1.2.1.2.1 _ (by omega) hy69) | exact absurd ((ty_eq hg hx1 hy1).mpr q.2.2.2) (by assumption)⟩, rfl, rfl⟩)) h9.gi))) aTh_k
        · show AW X 0 0 48 [some (.ref 0), some (.int (nI x1)), some (.int (nI y1))] [.int (nI x1), .ref 25] T I J R
          refine aw_aaloadR_k (j := x1) hC dX11_move_48 (tg_25 hT) (nI_clamp (by omega)) (vp_in_nI (by omega) (by decide)) (hE.rf (by omega) hx69) ?_
          refine aw_ifnull hC dX11_move_49 ?_
          refine aw_aload_n hC dX11_move_52 rfl ?_
          refine aw_getR hC dX11_move_53 aF_X11_28 rfl (tg_0 hT) (pr_0_2 hR) ?_
          refine aw_getR hC dX11_move_56 aF_X11_318 rfl (tg_19 hT) (pr_19_7 hR) ?_
          refine aw_iload_n hC dX11_move_59 rfl ?_
          by_cases hy69 : m 69 y1 = 0
          · show AW X 0 0 60 [some (.ref 0), some (.int (nI x1)), some (.int (nI y1))] [.int (nI y1), .ref 25] T I J R
            refine aw_aaloadN_k (j := y1) hC dX11_move_60 (tg_25 hT) (nI_clamp (by omega)) (vp_in_nI (by omega) (by decide)) (hE.no (by omega) hy69) ?_
            refine aw_ifnonnullN hC dX11_move_61 ?_
            refine aw_iconst (v := 1) hC dX11_move_64 (by decide) ?_
            refine aw_goto (tgt := 69) hC dX11_move_65 (by decide) ?_
            refine kX11_88 hC rfl (m_X11_needStateT (T := T) (I := I) (J := J) (R := R) (x := 1) (by decide)) dX11_move_69 rfl a_le a_le a_le a_le a_le rfl aPure_x (aPure_k ?_)
            show AW X 0 0 72 [some (.ref 0), some (.int (nI x1)), some (.int (nI y1))] [] T I J R
            refine aw_aload_n hC dX11_move_72 rfl ?_
            refine aw_getR hC dX11_move_73 aF_X11_28 rfl (tg_0 hT) (pr_0_2 hR) ?_
            refine aw_iload_n hC dX11_move_76 rfl ?_
            refine kX11_351 hC rfl (m_X4_typeNumberOf (I := I) hT hR hG hg (x := x1) (by omega)) dX11_move_77 (tg_19 hT) rfl a_le a_le a_le a_le a_le rfl aPure_x (aPure_k ?_)
            show AW X 0 0 80 [some (.ref 0), some (.int (nI x1)), some (.int (nI y1))] [.int (nI (iN m 62 (x1 / 16)))] T I J R
            refine aw_aload_n hC dX11_move_80 rfl ?_
            refine aw_getR hC dX11_move_81 aF_X11_28 rfl (tg_0 hT) (pr_0_2 hR) ?_
            refine aw_iload_n hC dX11_move_84 rfl ?_
            refine kX11_351 hC rfl (m_X4_typeNumberOf (I := I) hT hR hG hg (x := y1) (by omega)) dX11_move_85 (tg_19 hT) rfl a_le a_le a_le a_le a_le rfl aPure_x (aPure_k ?_)
            show AW X 0 0 88 [some (.ref 0), some (.int (nI x1)), some (.int (nI y1))] [.int (nI (iN m 62 (y1 / 16))), .int (nI (iN m 62 (x1 / 16)))] T I J R
            refine aw_icmp_ne (tgt := 95) hC dX11_move_88 (by decide) (fun h4 => ?_) (fun h4 => ?_)
            · show AW X 0 0 95 [some (.ref 0), some (.int (nI x1)), some (.int (nI y1))] [] T I J R
              have h4n : ¬ (iN m 62 (x1 / 16)) = (iN m 62 (y1 / 16)) := fun q9 => h4 ((nI_eq (a := (iN m 62 (x1 / 16))) (b := (iN m 62 (y1 / 16))) (by omega) (by omega)).mpr q9)
              refine aw_iconst (v := 0) hC dX11_move_95 (by decide) ?_
              exact kX11_88 hC rfl (m_X11_needStateF (T := T) (I := I) (J := J) (R := R)) dX11_move_96 rfl a_le a_le a_le a_le a_le rfl (aTh_x (ae_out hC hq a_le a_le (CP.th (j := 1) rfl (Or.inr (Or.inl ⟨⟨⟨hfcx, hfcy⟩, by rw [nI_clamp (show x1 < 2 ^ 31 by omega)]; rw [nI_clamp (show y1 < 2 ^ 31 by omega)]; exact fun q => by first | exact absurd q.1 (Int32.not_lt.mpr (bI_dn.mp (by assumption : ¬ bI (decide (0 ≤ m 44 45)) = 0))) | exact absurd hx69 q.2.1 | exact q.2.2.1 (h9.es.1.2.1.2.1 _ (by omega) hy69) | exact absurd ((ty_eq hg hx1 hy1).mpr q.2.2.2) (by assumption)⟩, rfl, rfl⟩)) h9.gi))) aTh_k
            · show AW X 0 0 91 [some (.ref 0), some (.int (nI x1)), some (.int (nI y1))] [] T I J R
              have h4n : (iN m 62 (x1 / 16)) = (iN m 62 (y1 / 16)) := (nI_eq (a := (iN m 62 (x1 / 16))) (b := (iN m 62 (y1 / 16))) (by omega) (by omega)).mp h4
              refine aw_iconst (v := 1) hC dX11_move_91 (by decide) ?_
              refine aw_goto (tgt := 96) hC dX11_move_92 (by decide) ?_
              refine kX11_88 hC rfl (m_X11_needStateT (T := T) (I := I) (J := J) (R := R) (x := 1) (by decide)) dX11_move_96 rfl a_le a_le a_le a_le a_le rfl aPure_x (aPure_k ?_)
              show AW X 0 0 99 [some (.ref 0), some (.int (nI x1)), some (.int (nI y1))] [] T I J R
              refine aw_aload_n hC dX11_move_99 rfl ?_
              refine aw_getR hC dX11_move_100 aF_X11_28 rfl (tg_0 hT) (pr_0_2 hR) ?_
              refine aw_getR hC dX11_move_103 aF_X11_318 rfl (tg_19 hT) (pr_19_7 hR) ?_
              refine aw_iload_n hC dX11_move_106 rfl ?_
              refine aw_aload_n hC dX11_move_107 rfl ?_
              refine aw_getR hC dX11_move_108 aF_X11_28 rfl (tg_0 hT) (pr_0_2 hR) ?_
              refine aw_getR hC dX11_move_111 aF_X11_318 rfl (tg_19 hT) (pr_19_7 hR) ?_
              refine aw_iload_n hC dX11_move_114 rfl ?_
              refine aw_aaloadR_k (j := x1) hC dX11_move_115 (tg_25 hT) (nI_clamp (by omega)) (vp_in_nI (by omega) (by decide)) (hE.rf (by omega) hx69) ?_
              refine aw_aastoreR_k (j := y1) hC dX11_move_116 (tg_25 hT) (nI_clamp (by omega)) (vp_in_nI (by omega) (by decide)) (hE.tg (by omega) hx69) rfl ?_
              have hR5 : aPR (a_u R 25 y1 (some (eq x1))) := hR.put (fun q9 h9 e9 => by have := a_refs_no25 q9 h9; omega)
              refine aw_aload_n hC dX11_move_117 rfl ?_
              refine aw_getR hC dX11_move_118 aF_X11_28 rfl (tg_0 hT) (pr_0_2 hR5) ?_
              refine aw_getR hC dX11_move_121 aF_X11_318 rfl (tg_19 hT) (pr_19_7 hR5) ?_
              refine aw_iload_n hC dX11_move_124 rfl ?_
              refine aw_null hC dX11_move_125 ?_
              refine aw_aastoreN_k (j := x1) hC dX11_move_126 (tg_25 hT) (nI_clamp (by omega)) (vp_in_nI (by omega) (by decide)) ?_
              have hR6 : aPR (a_u (a_u R 25 y1 (some (eq x1))) 25 x1 none) := hR5.put (fun q9 h9 e9 => by have := a_refs_no25 q9 h9; omega)
              refine aw_aload_n hC dX11_move_127 rfl ?_
              refine aw_getR hC dX11_move_128 aF_X11_28 rfl (tg_0 hT) (pr_0_2 hR6) ?_
              refine aw_dup hC dX11_move_131 rfl ?_
              refine aw_getI hC dX11_move_132 aF_X11_278 rfl (tg_19 hT) ?_
              rw [h9.ces.sr]
              refine aw_iconst (v := 1) hC dX11_move_135 (by decide) ?_
              refine aw_iadd hC dX11_move_136 ?_
              refine aw_putI hC dX11_move_137 aF_X11_278 rfl rfl (tg_19 hT) ?_
              refine aw_aload_n hC dX11_move_140 rfl ?_
              refine aw_getR hC dX11_move_141 aF_X11_28 rfl (tg_0 hT) (pr_0_2 hR6) ?_
              refine aw_getI hC dX11_move_144 aF_X11_278 rfl (tg_19 hT) ?_
              rw [a_u_self (f := I) (o := 19) (k := 8) (v := (m 44 35) + 1)]
              exact aw_ireturn hC hq rfl dX11_move_147 a_le a_le (CP.ok (Or.inl ⟨⟨⟨hfcx, hfcy⟩, by rw [nI_clamp (show x1 < 2 ^ 31 by omega)]; rw [nI_clamp (show y1 < 2 ^ 31 by omega)]; exact ⟨(Int32.not_le.mp (bI_d0.mp (by assumption : bI (decide (0 ≤ m 44 45)) = 0))), hx69, by rw [hy69]; decide, (ty_eq hg hx1 hy1).mp (by assumption)⟩⟩, rfl, rfl, by rw [nI_clamp (show x1 < 2 ^ 31 by omega)]; rw [nI_clamp (show y1 < 2 ^ 31 by omega)]⟩) (fun o u v => ⟨a_u_row (by omega), rfl⟩) (h9.est (S := fun o => o = 19 ∨ o = 25) (List.prefix_refl _) (fun o _ _ z => a_u_row (fun w => z (Or.inl w))) (fun o _ _ z => by rw [a_u_row (fun w => z (Or.inr w)), a_u_row (fun w => z (Or.inr w))]) (fun o z => Or.inl (by omega)) hR6 (h9.ces.mov hT (by omega) (by omega) (fun w => hx69 (by rw [w]; exact hy69)) hx69 hy69) (h9.es.mov hx1 hy1 hx69 ((ty_eq hg hx1 hy1).mp (by assumption))) (Nat.le_refl _) (Nat.le_refl _) (fun o z => mvB_o (by omega) (by omega) (by omega) (by omega) (by omega) (by omega)) (fun k _ _ z => mvB_4 z) (fun w => absurd w (nolk43 h9 (Int32.not_le.mp (bI_d0.mp (by assumption : bI (decide (0 ≤ m 44 45)) = 0)))))).gi)
          · show AW X 0 0 60 [some (.ref 0), some (.int (nI x1)), some (.int (nI y1))] [.int (nI y1), .ref 25] T I J R
            refine aw_aaloadR_k (j := y1) hC dX11_move_60 (tg_25 hT) (nI_clamp (by omega)) (vp_in_nI (by omega) (by decide)) (hE.rf (by omega) hy69) ?_
            refine aw_ifnonnull (tgt := 68) hC dX11_move_61 (by decide) ?_
            refine aw_iconst (v := 0) hC dX11_move_68 (by decide) ?_
            exact kX11_88 hC rfl (m_X11_needStateF (T := T) (I := I) (J := J) (R := R)) dX11_move_69 rfl a_le a_le a_le a_le a_le rfl (aTh_x (ae_out hC hq a_le a_le (CP.th (j := 1) rfl (Or.inr (Or.inl ⟨⟨⟨hfcx, hfcy⟩, by rw [nI_clamp (show x1 < 2 ^ 31 by omega)]; rw [nI_clamp (show y1 < 2 ^ 31 by omega)]; exact fun q => by first | exact absurd q.1 (Int32.not_lt.mpr (bI_dn.mp (by assumption : ¬ bI (decide (0 ≤ m 44 45)) = 0))) | exact absurd hx69 q.2.1 | exact q.2.2.1 (h9.es.1.2.1.2.1 _ (by omega) hy69) | exact absurd ((ty_eq hg hx1 hy1).mpr q.2.2.2) (by assumption)⟩, rfl, rfl⟩)) h9.gi))) aTh_k
