/-! WHAT THE STEPS OF AN APPLY KEEP -/
theorem nI_gt0 {a : Nat} (h : 0 < a) (h2 : a < 2147483648) : 0 < nI a := (nI_ltI (a := 0) (b := a) (by omega) h2).mpr h
theorem nI_n0 {a : Nat} (h : 0 < a) (h2 : a < 2147483648) : nI a ≠ 0 := fun e => by
  have q := (nI_eq (a := a) (b := 0) h2 (by omega)).mp e; omega
theorem MEs.tnt {m : aI} {g r x : Nat} {t : Bool} (h : MEs m g r) : MEs (a_u m 71 x (bI t)) g r := by
  have e : ∀ q, q ≠ 71 → a_u m 71 x (bI t) q = m q := fun q z => a_u_row z
  obtain ⟨⟨i1, i2, i3, i4⟩, s1, s2, s3, s4⟩ := h
  refine ⟨⟨⟨i1.1, by rw [e 44 (by decide)]; exact i1.2.1, (by have q := i1.2.2.1; unfold SO3 iN at *; rw [e 65 (by decide)]; exact q), NR_cg (e 62 (by decide)) i1.2.2.2.1, NR_cg (e 61 (by decide)) i1.2.2.2.2.1, NR_cg (e 63 (by decide)) i1.2.2.2.2.2.1, fun j => ?_⟩, i2.cgm (e 58 (by decide)) (e 62 (by decide)) (e 65 (by decide)) (e 69 (by decide)) (e 72 (by decide)) (e 73 (by decide)) (e 61 (by decide)), i3.cgm (e 61 (by decide)) (e 62 (by decide)) (e 66 (by decide)) (e 67 (by decide)) (e 68 (by decide)) (e 69 (by decide)) (e 70 (by decide)), i4.cgm (e 60 (by decide)) (e 62 (by decide)) (e 72 (by decide))⟩, s1.cgm (e 58 (by decide)) (e 62 (by decide)) (e 65 (by decide)) (e 69 (by decide)) (e 70 (by decide)), m74_cg s2 (e 74 (by decide)) (Nat.le_refl _), m69_cg s3 (e 69 (by decide)) (Nat.le_refl _), s4.cgm (e 63 (by decide)) (e 64 (by decide)) (e 65 (by decide)) (e 67 (by decide))⟩
  by_cases zc : j = x
  · rw [zc, a_u_self]; exact bI_01 _
  · rw [a_u_ne (fun z => zc z.2)]; exact i1.2.2.2.2.2.2 j
theorem MEs.drop {m : aI} {g r x : Nat} (h : MEs m g r) : MEs (a_u m 69 x 0) g r := by
  have e : ∀ q, q ≠ 69 → a_u m 69 x 0 q = m q := fun q z => a_u_row z
  have hd := h.1.drop (x := x)
  have nz : ∀ y, a_u m 69 x 0 69 y ≠ 0 → a_u m 69 x 0 69 y = m 69 y := fun y q => by
    by_cases zc : y = x
    · rw [zc, a_u_self] at q; exact absurd rfl q
    · exact a_u_ne (fun z => zc z.2)
  refine ⟨hd, ⟨?_, hd.2.2.1.pos hd.1⟩, m74_cg h.2.2.1 (e 74 (by decide)) (Nat.le_refl _), fun y hy h0 => ?_, h.2.2.2.2.cgm (e 63 (by decide)) (e 64 (by decide)) (e 65 (by decide)) (e 67 (by decide))⟩
  · have q := h.2.1.1
    unfold iN at *
    rw [e 58 (by decide), e 62 (by decide), e 65 (by decide)]; exact q
  · have q := nz y h0
    have q2 := h.2.2.2.1 y hy (by rw [← q]; exact h0)
    unfold iN at *
    rw [q]; exact q2
theorem wrT_o {m : aI} {x r q : Nat} (h : q ≠ 69) (h1 : q ≠ 70) (h2 : q ≠ 71) (h3 : q ≠ 72) : wrT m x r q = m q := by unfold wrT; rw [a_ur_ne h1, a_u_row h3, a_u_row h2, a_u_row h]
theorem wrT_69 {m : aI} {x r j : Nat} : wrT m x r 69 j = if j = x then nI (r + 1) else m 69 j := by
  unfold wrT; rw [a_ur_ne (by decide), a_u_row (by decide), a_u_row (by decide)]
  by_cases zc : j = x
  · rw [if_pos zc, zc, a_u_self]
  · rw [if_neg zc, a_u_ne (fun z => zc z.2)]
theorem wrT_71 {m : aI} {x r j : Nat} : wrT m x r 71 j = if j = x then 0 else m 71 j := by
  unfold wrT; rw [a_ur_ne (by decide), a_u_row (by decide)]
  by_cases zc : j = x
  · rw [if_pos zc, zc, a_u_self]
  · rw [if_neg zc, a_u_ne (fun z => zc z.2), a_u_row (by decide)]
theorem wrT_72 {m : aI} {x r j : Nat} : wrT m x r 72 j = if j = x then 0 else m 72 j := by
  unfold wrT; rw [a_ur_ne (by decide)]
  by_cases zc : j = x
  · rw [if_pos zc, zc, a_u_self]
  · rw [if_neg zc, a_u_ne (fun z => zc z.2), a_u_row (by decide), a_u_row (by decide)]
theorem wrT_70x {m : aI} {x r a : Nat} (ha : a < 3) : wrT m x r 70 (3 * x + a) = m 67 (3 * r + a) := by
  unfold wrT; rw [a_ur_self]
  show (if 3 * x ≤ 3 * x + a ∧ 3 * x + a < 3 * x + 3 then m 67 (3 * r + (3 * x + a - 3 * x)) else m 70 (3 * x + a)) = _
  rw [if_pos (by omega), show 3 * x + a - 3 * x = a by omega]
theorem wrT_70y {m : aI} {x y r a : Nat} (ha : a < 3) (h : y ≠ x) : wrT m x r 70 (3 * y + a) = m 70 (3 * y + a) := by
  unfold wrT; rw [a_ur_self]
  exact if_neg (by omega)
theorem MEs.wr {m : aI} {g r x r0 : Nat} (h : MEs m g r) (hr : r ≤ 60) (hx : x < 16 * g) (h0 : r0 < r) (ht : m 66 r0 = m 62 (x / 16)) (hg : m 68 r0 = 0) : MEs (wrT m x r0) g r := by
  have e : ∀ q, q ≠ 69 → q ≠ 70 → q ≠ 71 → q ≠ 72 → wrT m x r0 q = m q := fun q z1 z2 z3 z4 => wrT_o z1 z2 z3 z4
  have E : ∀ q, (q ≤ 68 ∨ 73 ≤ q) → wrT m x r0 q = m q := fun q z => e q (by omega) (by omega) (by omega) (by omega)
  obtain ⟨⟨i1, i2, i3, i4⟩, s1, s2, s3, s4⟩ := h
  have hg4 := i1.1
  have gw : GW (wrT m x r0) g := ⟨i1.1, by rw [E 44 (by decide)]; exact i1.2.1, (by have q := i1.2.2.1; unfold SO3 iN at *; rw [E 65 (by decide)]; exact q), NR_cg (E 62 (by decide)) i1.2.2.2.1, NR_cg (E 61 (by decide)) i1.2.2.2.2.1, NR_cg (E 63 (by decide)) i1.2.2.2.2.2.1, fun j => by
    rw [wrT_71]
    by_cases zc : j = x
    · rw [if_pos zc]; exact Or.inl rfl
    · rw [if_neg zc]; exact i1.2.2.2.2.2.2 j⟩
  have iv : InvV (wrT m x r0) g := by
    have q := i3
    unfold InvV uxn NR iN at q ⊢
    rw [E 61 (by decide), E 62 (by decide), E 66 (by decide), E 67 (by decide), E 68 (by decide)]
    refine ⟨fun y a hy ha hn => ?_, q.2.1, fun y hy hn => ?_, q.2.2.2⟩
    · by_cases zc : y = x
      · subst zc
        rw [wrT_70x ha]
        have q2 := q.2.1 r0 a (by omega) ha hg
        rw [ht] at q2; exact q2
      · rw [wrT_69, if_neg zc] at hn
        rw [wrT_70y ha zc]; exact q.1 y a hy ha hn
    · rw [wrT_69] at hn ⊢
      by_cases zc : y = x
      · subst zc
        rw [if_pos rfl]; exact ⟨hx, r0, rfl, by omega, ht⟩
      · rw [if_neg zc] at hn ⊢; exact q.2.2.1 y hy hn
  refine ⟨⟨gw, ⟨?_, fun y hy hn => ?_, fun y a hy ha hb => ?_⟩, iv, fun y hy => ⟨fun z => ?_, fun z z2 => ?_⟩⟩, ⟨?_, iv.pos gw⟩, m74_cg s2 (E 74 (by decide)) (Nat.le_refl _), fun y hy hn => ?_, s4.cgm (E 63 (by decide)) (E 64 (by decide)) (E 65 (by decide)) (E 67 (by decide))⟩
  · unfold iN; rw [E 58 (by decide), E 62 (by decide), E 65 (by decide)]; exact i2.1
  · rw [wrT_69] at hn ⊢
    by_cases zc : y = x
    · rw [if_pos zc]; exact nI_gt0 (by omega) (by omega)
    · rw [if_neg zc] at hn ⊢; exact i2.2.1 y hy hn
  · rw [wrT_72] at hb
    rw [E 73 (by decide)]
    by_cases zc : y = x
    · rw [if_pos zc, b_0] at hb; cases hb
    · rw [if_neg zc] at hb
      have eb : bsM (wrT m x r0) y = bsM m y := by unfold bsM iN; rw [E 61 (by decide), E 62 (by decide)]
      rw [eb]; exact i2.2.2 y a hy ha hb
  · rw [wrT_72]
    by_cases zc : y = x
    · exact if_pos zc
    · rw [if_neg zc]; exact (i4 y hy).1 z
  · unfold iN at z2
    rw [E 60 (by decide), E 62 (by decide)] at z2
    rw [wrT_72]
    by_cases zc : y = x
    · exact if_pos zc
    · rw [if_neg zc]; exact (i4 y hy).2 z z2
  · have q := s1.1
    unfold iN at *
    rw [E 58 (by decide), E 62 (by decide), E 65 (by decide)]; exact q
  · rw [wrT_69] at hn
    unfold iN
    rw [wrT_69]
    by_cases zc : y = x
    · rw [if_pos zc, nI_clamp (by omega)]; omega
    · rw [if_neg zc] at hn ⊢; exact s3 y hy hn
/-- what is made for a name is a small value -/
theorem mkV_n {m : aI} {mj : aJ} {g x a : Nat} (h : InvR m g) (hx : x < 16 * g) (ha : a < 3) (hc : allB (cgS m mj x true) 3 = true) : ∃ v, mkV m mj x a = nI v ∧ v ≤ 255 * 2 ^ uxn m x := by
  have hg4 := h.1.g4
  have hu := ux3 h.1 (x := x) (by omega)
  have hp := p2_4 _ hu
  unfold mkV
  by_cases zc : m 58 (3 * iN m 62 (x / 16) + a) &&& 2 ≠ 0
  · rw [if_pos zc]
    have e := shl_n (uxn m x) hu ((x + 7 * iN m 74 x) % 64) (by omega)
    exact ⟨_, e, Nat.mul_le_mul_right _ (by omega)⟩
  · rw [if_neg zc]
    have q := allB_iff.mp hc a ha
    have z2 : m 58 (3 * iN m 62 (x / 16) + a) &&& 2 = 0 := Classical.not_not.mp zc
    have q2 : (!(if true = true then decide (m 58 (3 * iN m 62 (x / 16) + a) &&& 2 = 0) else sDf m mj x a) || decide (0 ≤ sGives m mj x a)) = true := q
    rw [if_pos rfl, decide_eq_true z2] at q2
    have q3 : 0 ≤ sGives m mj x a := of_decide_eq_true (by simpa using q2)
    rcases sg_rng (mj := mj) h.1 hx ha h.2.2.1 with e | e
    · rw [e] at q3; exact absurd q3 (by decide)
    · exact e
theorem mkB_66 {m : aI} {mj : aJ} {x r j : Nat} : mkB m mj x r 66 j = if j = r then nI (iN m 62 (x / 16)) else m 66 j := by
  show a_u (a_ur (a_u (a_u (a_u m 66 r _) 68 r 0) 44 25 _) 67 _) 74 x _ 66 j = _
  rw [a_u_row (by decide), a_ur_ne (by decide), a_u_row (by decide), a_u_row (by decide)]
  by_cases zc : j = r
  · rw [if_pos zc, zc, a_u_self]
  · rw [if_neg zc, a_u_ne (fun z => zc z.2)]
theorem mkB_68 {m : aI} {mj : aJ} {x r j : Nat} : mkB m mj x r 68 j = if j = r then 0 else m 68 j := by
  show a_u (a_ur (a_u (a_u (a_u m 66 r _) 68 r 0) 44 25 _) 67 _) 74 x _ 68 j = _
  rw [a_u_row (by decide), a_ur_ne (by decide), a_u_row (by decide)]
  by_cases zc : j = r
  · rw [if_pos zc, zc, a_u_self]
  · rw [if_neg zc, a_u_ne (fun z => zc z.2), a_u_row (by decide)]
theorem mkB_74 {m : aI} {mj : aJ} {x r j : Nat} : mkB m mj x r 74 j = if j = x then nI (iN m 74 x + 1) else m 74 j := by
  show a_u (a_ur (a_u (a_u (a_u m 66 r _) 68 r 0) 44 25 _) 67 _) 74 x _ 74 j = _
  by_cases zc : j = x
  · rw [if_pos zc, zc, a_u_self]
  · rw [if_neg zc, a_u_ne (fun z => zc z.2), a_ur_ne (by decide), a_u_row (by decide), a_u_row (by decide), a_u_row (by decide)]
theorem mkB_4 {m : aI} {mj : aJ} {x r k : Nat} (h : k ≠ 25) : mkB m mj x r 44 k = m 44 k := by
  show a_u (a_ur (a_u (a_u (a_u m 66 r _) 68 r 0) 44 25 _) 67 _) 74 x _ 44 k = _
  rw [a_u_row (by decide), a_ur_ne (by decide), a_u_ne (fun z => h z.2), a_u_row (by decide), a_u_row (by decide)]
theorem mkB_25 {m : aI} {mj : aJ} {x r : Nat} : mkB m mj x r 44 25 = nI (r + 1) := by
  show a_u (a_ur (a_u (a_u (a_u m 66 r _) 68 r 0) 44 25 _) 67 _) 74 x _ 44 25 = _
  rw [a_u_row (by decide), a_ur_ne (by decide), a_u_self]
theorem mkR_r {m : aI} {mj : aJ} {x r a : Nat} (ha : a < 3) : mkR m mj x r 3 (3 * r + a) = mkV m mj x a := by
  show (if 3 * r ≤ 3 * r + a ∧ 3 * r + a < 3 * r + 3 then mkV m mj x (3 * r + a - 3 * r) else m 67 (3 * r + a)) = _
  rw [if_pos (by omega), show 3 * r + a - 3 * r = a by omega]
theorem mkR_y {m : aI} {mj : aJ} {x r j a : Nat} (ha : a < 3) (h : j ≠ r) : mkR m mj x r 3 (3 * j + a) = m 67 (3 * j + a) := if_neg (by omega)
theorem MEs.mkb {m : aI} {mj : aJ} {g r x : Nat} (h : MEs m g r) (hr : r < 60) (hx : x < 16 * g) (hc : allB (cgS m mj x true) 3 = true) : MEs (mkB m mj x r) g (r + 1) := by
  have E : ∀ q, q ≠ 66 → q ≠ 67 → q ≠ 68 → q ≠ 74 → q ≠ 44 → mkB m mj x r q = m q := fun q z1 z2 z3 z4 z5 => mkB_o z1 z2 z3 z4 z5
  have F : ∀ q, (q < 44 ∨ (45 ≤ q ∧ q ≤ 65) ∨ (69 ≤ q ∧ q ≤ 73)) → mkB m mj x r q = m q := fun q z => E q (by omega) (by omega) (by omega) (by omega) (by omega)
  have hR := h.1
  obtain ⟨⟨i1, i2, i3, i4⟩, s1, s2, s3, s4⟩ := h
  have hg4 := i1.1
  have n62 := i1.2.2.2.1 (x / 16) (by omega)
  refine ⟨⟨GW_cg (mkB_4 (by decide)) (F 65 (by decide)) (F 62 (by decide)) (F 61 (by decide)) (F 63 (by decide)) (F 71 (by decide)) i1, i2.cgm (F 58 (by decide)) (F 62 (by decide)) (F 65 (by decide)) (F 69 (by decide)) (F 72 (by decide)) (F 73 (by decide)) (F 61 (by decide)), ?_, i4.cgm (F 60 (by decide)) (F 62 (by decide)) (F 72 (by decide))⟩, s1.cgm (F 58 (by decide)) (F 62 (by decide)) (F 65 (by decide)) (F 69 (by decide)) (F 70 (by decide)), fun y hy => ?_, m69_cg s3 (F 69 (by decide)) (by omega), ⟨fun j a hj hj2 ha => ?_, by rw [F 63 (by decide), F 64 (by decide), F 65 (by decide)]; exact s4.2⟩⟩
  · have q := i3
    unfold InvV uxn at q ⊢
    have e62 : iN (mkB m mj x r) 62 = iN m 62 := by unfold iN; rw [F 62 (by decide)]
    have e61 : iN (mkB m mj x r) 61 = iN m 61 := by unfold iN; rw [F 61 (by decide)]
    have e70 : iN (mkB m mj x r) 70 = iN m 70 := by unfold iN; rw [F 70 (by decide)]
    rw [e62, e61, e70, F 69 (by decide), F 70 (by decide), F 62 (by decide), mkB_67]
    refine ⟨q.1, fun j a hj ha hgn => ?_, fun y hy hn => ?_, fun j hj => ?_⟩
    · by_cases zc : j = r
      · subst zc
        obtain ⟨v, e1, e2⟩ := mkV_n hR hx ha hc
        have e66 : iN (mkB m mj x j) 66 j = iN m 62 (x / 16) := by unfold iN; rw [mkB_66, if_pos rfl, nI_clamp (by have := n62.2; unfold iN at this; omega)]; rfl
        have e67 : iN (mkB m mj x j) 67 (3 * j + a) = v := by unfold iN; rw [mkB_67, mkR_r ha, e1, nI_clamp (by have := p2_4 _ (ux3 i1 (x := x) (by omega)); have := Nat.mul_le_mul_left 255 this.2; omega)]
        rw [e66, e67, mkR_r ha]; exact ⟨e1, e2⟩
      · have e66 : iN (mkB m mj x r) 66 j = iN m 66 j := by unfold iN; rw [mkB_66, if_neg zc]
        have e67 : iN (mkB m mj x r) 67 (3 * j + a) = iN m 67 (3 * j + a) := by unfold iN; rw [mkB_67, mkR_y ha zc]
        rw [mkB_68, if_neg zc] at hgn
        rw [e66, e67, mkR_y ha zc]; exact q.2.1 j a hj ha hgn
    · obtain ⟨z1, r1, z2, z3, z4⟩ := q.2.2.1 y hy hn
      have z5 := s3 y hy hn
      unfold iN at z5
      rw [z2, nI_clamp (by omega)] at z5
      exact ⟨z1, r1, z2, z3, by rw [mkB_66, if_neg (by omega)]; exact z4⟩
    · unfold iN
      rw [mkB_66]
      by_cases zc : j = r
      · rw [if_pos zc, nI_clamp (by have := n62.2; omega)]; exact ⟨rfl, n62.2⟩
      · rw [if_neg zc]; exact q.2.2.2 j hj
  · have q := s2 y hy
    unfold iN
    rw [mkB_74]
    by_cases zc : y = x
    · subst zc
      rw [if_pos rfl, nI_clamp (by omega)]; exact ⟨rfl, by omega⟩
    · rw [if_neg zc]; unfold iN at q; exact ⟨q.1, by omega⟩
  · rw [mkB_67, mkR_y ha (by omega)]; exact s4.1 j a (by omega) hj2 ha
/-- what a changed attribute gets -/
theorem cgS_n {m : aI} {mj : aJ} {g x a : Nat} (h : InvR m g) (hx : x < 16 * g) (ha : a < 3) (hc : allB (cgS m mj x false) 3 = true) (hd : sDf m mj x a = true) : ∃ v, sGives m mj x a = nI v ∧ v ≤ 255 * 2 ^ uxn m x := by
  have q := allB_iff.mp hc a ha
  have q2 : (!(if false = true then decide (m 58 (3 * iN m 62 (x / 16) + a) &&& 2 = 0) else sDf m mj x a) || decide (0 ≤ sGives m mj x a)) = true := q
  rw [if_neg (by decide), hd] at q2
  have q3 : 0 ≤ sGives m mj x a := of_decide_eq_true (by simpa using q2)
  rcases sg_rng (mj := mj) h.1 hx ha h.2.2.1 with e | e
  · rw [e] at q3; exact absurd q3 (by decide)
  · exact e
theorem chAd_b {m : aI} {mj : aJ} {x i : Nat} {w : Bool} : ∀ k, bt (chAd m mj x w k) i = true → bt (m 72 x) i = true
  | 0, h => h
  | k + 1, h => by
    unfold chAd at h
    split at h
    · rw [b_and, Bool.and_eq_true] at h
      exact chAd_b k h.1
    · exact chAd_b k h
theorem chAd_0 {m : aI} {mj : aJ} {x : Nat} {w : Bool} (h0 : m 72 x = 0) : ∀ k, chAd m mj x w k = 0
  | 0 => h0
  | k + 1 => by
    unfold chAd
    split
    · rw [chAd_0 h0 k, i0_and]
    · exact chAd_0 h0 k
theorem MEs.chs {m : aI} {mj : aJ} {g r x r0 : Nat} {w : Bool} (e0 : iN m 69 x - 1 = r0) (h : MEs m g r) (hr : r ≤ 60) (hx : x < 16 * g) (h0 : m 69 x ≠ 0) (hc : allB (cgS m mj x false) 3 = true) : MEs (chS m mj x r0 w 3) g r := by
  have F : ∀ q, q ≠ 67 → q ≠ 70 → q ≠ 72 → chS m mj x r0 w 3 q = m q := fun q z1 z2 z3 => chS_o z1 z2 z3
  have hR := h.1
  have h9 := h
  obtain ⟨⟨i1, i2, i3, i4⟩, s1, s2, s3, s4⟩ := h
  have hg4 := i1.1
  have hu := ux3 i1 (x := x) (by omega)
  have hp := p2_4 _ hu
  obtain ⟨r9, er, en, hr0, ht⟩ := i3.re (by omega) h0
  have hrr := s3 x (by omega) h0
  have gw : GW (chS m mj x r0 w 3) g := GW_cg (by rw [F 44 (by decide) (by decide) (by decide)]) (F 65 (by decide) (by decide) (by decide)) (F 62 (by decide) (by decide) (by decide)) (F 61 (by decide) (by decide) (by decide)) (F 63 (by decide) (by decide) (by decide)) (F 71 (by decide) (by decide) (by decide)) i1
  have e61 : iN (chS m mj x r0 w 3) 61 = iN m 61 := by unfold iN; rw [F 61 (by decide) (by decide) (by decide)]
  have e62 : iN (chS m mj x r0 w 3) 62 = iN m 62 := by unfold iN; rw [F 62 (by decide) (by decide) (by decide)]
  have e66 : iN (chS m mj x r0 w 3) 66 = iN m 66 := by unfold iN; rw [F 66 (by decide) (by decide) (by decide)]
  have iv : InvV (chS m mj x r0 w 3) g := by
    have q := i3
    unfold InvV uxn at q ⊢
    rw [e61, e62, e66, F 62 (by decide) (by decide) (by decide), F 66 (by decide) (by decide) (by decide), F 68 (by decide) (by decide) (by decide), F 69 (by decide) (by decide) (by decide)]
    refine ⟨fun y a hy ha hn => ?_, fun j a hj ha hgn => ?_, q.2.2.1, NR_cg (F 66 (by decide) (by decide) (by decide)) q.2.2.2⟩
    · unfold iN
      rw [chS_70]
      show ch70 m mj x w 3 (3 * y + a) = _ ∧ (ch70 m mj x w 3 (3 * y + a)).toNatClampNeg ≤ _
      by_cases zc : (3 * x ≤ 3 * y + a ∧ 3 * y + a < 3 * x + 3) ∧ sDf m mj x (3 * y + a - 3 * x) = true ∧ w = true
      · have ey : y = x := by omega
        subst ey
        have ea : 3 * y + a - 3 * y = a := by omega
        unfold ch70
        rw [if_pos zc, ea]
        rw [ea] at zc
        obtain ⟨v, e1, e2⟩ := cgS_n hR hx ha hc zc.2.1
        rw [e1, nI_clamp (by have := Nat.mul_le_mul_left 255 hp.2; omega)]; exact ⟨rfl, e2⟩
      · unfold ch70
        rw [if_neg zc]; exact q.1 y a hy ha hn
    · unfold iN
      rw [chS_67]
      show ch67 m mj x r0 3 (3 * j + a) = _ ∧ (ch67 m mj x r0 3 (3 * j + a)).toNatClampNeg ≤ _
      by_cases zc : (3 * r0 ≤ 3 * j + a ∧ 3 * j + a < 3 * r0 + 3) ∧ sDf m mj x (3 * j + a - 3 * r0) = true ∧ m 68 r0 = 0
      · have ey : j = r0 := by omega
        have ea : 3 * j + a - 3 * r0 = a := by omega
        unfold ch67
        rw [if_pos zc, ea]
        rw [ea] at zc
        obtain ⟨v, e1, e2⟩ := cgS_n hR hx ha hc zc.2.1
        have ej : j = r9 := by omega
        have et : (m 66 j).toNatClampNeg = iN m 62 (x / 16) := by rw [ej, ht]; rfl
        rw [e1, nI_clamp (by have := Nat.mul_le_mul_left 255 hp.2; omega), et]; exact ⟨rfl, e2⟩
      · unfold ch67
        rw [if_neg zc]; exact q.2.1 j a hj ha hgn
  refine ⟨⟨gw, ⟨?_, by rw [F 69 (by decide) (by decide) (by decide)]; exact i2.2.1, fun y a hy ha hb => ?_⟩, iv, fun y hy => ⟨fun z => ?_, fun z z2 => ?_⟩⟩, ⟨?_, iv.pos gw⟩, m74_cg s2 (F 74 (by decide) (by decide) (by decide)) (Nat.le_refl _), m69_cg s3 (F 69 (by decide) (by decide) (by decide)) (Nat.le_refl _), ⟨fun j a hj hj2 ha => ?_, by rw [F 63 (by decide) (by decide) (by decide), F 64 (by decide) (by decide) (by decide), F 65 (by decide) (by decide) (by decide)]; exact s4.2⟩⟩
  · rw [e62, F 58 (by decide) (by decide) (by decide), F 65 (by decide) (by decide) (by decide)]; exact i2.1
  · rw [F 73 (by decide) (by decide) (by decide)]
    have eb : bsM (chS m mj x r0 w 3) y = bsM m y := by unfold bsM; rw [e61, e62]
    rw [eb]
    by_cases zc : y = x
    · subst zc
      rw [chS_72] at hb
      exact i2.2.2 y a hy ha (chAd_b 3 hb)
    · rw [chS_72o zc] at hb
      exact i2.2.2 y a hy ha hb
  · by_cases zc : y = x
    · omega
    · rw [chS_72o zc]; exact (i4 y hy).1 z
  · rw [e62, F 60 (by decide) (by decide) (by decide)] at z2
    by_cases zc : y = x
    · subst zc
      rw [chS_72]; exact chAd_0 ((i4 y hy).2 z z2) 3
    · rw [chS_72o zc]; exact (i4 y hy).2 z z2
  · have q := s1.1
    unfold iN at *
    rw [F 58 (by decide) (by decide) (by decide), F 62 (by decide) (by decide) (by decide), F 65 (by decide) (by decide) (by decide)]; exact q
  · rw [chS_67]
    show ch67 m mj x r0 3 (3 * j + a) = 0
    unfold ch67
    rw [if_neg (by omega)]; exact s4.1 j a hj hj2 ha
theorem MEs.r82 {m : aI} {g r x : Nat} {v : Int32} (h : MEs m g r) : MEs (a_u m 82 x v) g r := MEs_cg h (fun q z1 z2 => a_u_row (by omega)) (by rw [a_u_row (by decide)])
theorem MEs.mks {m : aI} {mj : aJ} {g r x : Nat} {w t : Bool} (h : MEs m g r) (hr : r < 60) (hx : x < 16 * g) (hc : allB (cgS m mj x true) 3 = true) : MEs (mkS m mj x r w t) g (r + 1) := by
  have b := h.mkb (mj := mj) hr hx hc
  have hg4 := h.1.1.1
  have n62 := h.1.1.2.2.2.1 (x / 16) (by omega)
  unfold mkS
  cases w with
  | false => rw [if_neg (by decide)]; exact b
  | true =>
    rw [if_pos rfl]
    refine ((b.r82 (x := x) (v := m 69 x)).wr (by omega) hx (by omega) ?_ ?_).tnt
    · rw [a_u_row (by decide), a_u_row (by decide), mkB_66, if_pos rfl, mkB_o (by decide) (by decide) (by decide) (by decide) (by decide)]; exact n62.1.symm
    · rw [a_u_row (by decide), mkB_68, if_pos rfl]
theorem mkS_25 {m : aI} {mj : aJ} {x r : Nat} {w t : Bool} : mkS m mj x r w t 44 25 = nI (r + 1) := by
  unfold mkS
  cases w with
  | false => rw [if_neg (by decide)]; exact mkB_25
  | true => rw [if_pos rfl, a_u_row (by decide), wrT_o (by decide) (by decide) (by decide) (by decide), a_u_row (by decide)]; exact mkB_25
theorem MEs.acs {m : aI} {mj : aJ} {g r x wh hw : Nat} (h : MEs m g r) (hr : r ≤ 60) (h25 : m 44 25 = nI r) (hx : x < 16 * g) (hc : canB m mj x wh r = true) (h69 : wh = 2 ∨ wh = 3 → m 69 x ≠ 0) : ∃ r2, MEs (acS m mj x wh hw r) g r2 ∧ acS m mj x wh hw r 44 25 = nI r2 ∧ r2 ≤ 60 ∧ r ≤ r2 := by
  unfold acS
  unfold canB at hc
  by_cases h1 : wh = 1
  · rw [if_pos h1] at hc ⊢
    rw [Bool.and_eq_true] at hc
    have z1 : r ≠ 60 := of_decide_eq_true hc.1
    exact ⟨r + 1, h.mks (by omega) hx hc.2, mkS_25, by omega, by omega⟩
  · rw [if_neg h1] at hc ⊢
    by_cases h2 : wh = 2
    · rw [if_pos h2] at hc ⊢
      exact ⟨r, MEs.chs rfl h hr hx (h69 (Or.inl h2)) hc, by rw [chS_o (by decide) (by decide) (by decide)]; exact h25, hr, Nat.le_refl _⟩
    · rw [if_neg h2]
      by_cases h3 : wh = 3
      · rw [if_pos h3]
        refine ⟨r, ?_, by rw [a_u_row (by decide), a_u_row (by decide)]; exact h25, hr, Nat.le_refl _⟩
        have b := h.gone (x := iN m 69 x - 1)
        by_cases h5 : hw = 2
        · rw [if_pos h5, a_u_same (by rw [a_u_row (by decide)])]; exact b
        · rw [if_neg h5]; exact b.drop
      · rw [if_neg h3]
        by_cases h4 : 0 < iN m 82 x
        · rw [if_pos h4]; exact ⟨r, h.gone, by rw [a_u_row (by decide)]; exact h25, hr, Nat.le_refl _⟩
        · rw [if_neg h4]; exact ⟨r, h, h25, hr, Nat.le_refl _⟩
theorem MEs.dos {m : aI} {mj : aJ} {g r x wh hw : Nat} (h : MEs m g r) (hr : r ≤ 60) (h25 : m 44 25 = nI r) (hx : x < 16 * g) (h69 : wh = 2 ∨ wh = 3 → m 69 x ≠ 0) : ∃ r2, MEs (doS m mj x wh hw r).2 g r2 ∧ (doS m mj x wh hw r).2 44 25 = nI r2 ∧ r2 ≤ 60 ∧ r ≤ r2 := by
  cases hc : canB m mj x wh r with
  | false => rw [dn_no hc]; exact ⟨r, h, h25, hr, Nat.le_refl _⟩
  | true =>
    by_cases hd : hw ≠ 1 ∨ wh = 1
    · rw [dn_y hc hd]
      obtain ⟨r2, q1, q2, q3, q4⟩ := h.acs (mj := mj) (hw := hw) hr h25 hx hc h69
      have z1 : MEs (a_u (acS m mj x wh hw r) 44 35 (m 44 35 + (if hw = 2 then 0 else 1))) g r2 := MEs_cg q1 (fun q z1 z2 => a_u_row (by omega)) (a_u_ne (fun z => absurd z.2 (by decide)))
      have z2 : a_u (acS m mj x wh hw r) 44 35 (m 44 35 + (if hw = 2 then 0 else 1)) 44 25 = nI r2 := (a_u_ne (fun z => absurd z.2 (by decide))).trans q2
      exact ⟨r2, z1, z2, q3, q4⟩
    · rw [dn_f (fun z => hd (Or.inr z)) (by omega)]
      exact ⟨r, h, h25, hr, Nat.le_refl _⟩
theorem MEs.sts {m : aI} {mj : aJ} {g r x wh hw p a : Nat} (h : MEs m g r) (hr : r ≤ 60) (h25 : m 44 25 = nI r) (hx : x < 16 * g) (h69 : wh = 2 ∨ wh = 3 → m 69 x ≠ 0) : ∃ r2, MEs (stS m mj x wh hw r p a) g r2 ∧ stS m mj x wh hw r p a 44 25 = nI r2 ∧ r2 ≤ 60 ∧ r ≤ r2 := by
  obtain ⟨r2, q1, q2, q3, q4⟩ := h.dos (mj := mj) (hw := hw) hr h25 hx h69
  exact ⟨r2, MEs_cg q1 (fun q z1 z2 => stS_o (by omega) (by omega)) (stS_4 (by decide) (by decide) (by decide)), (stS_4 (by decide) (by decide) (by decide)).trans q2, q3, q4⟩
