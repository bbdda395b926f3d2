def tkE (m : aI) (x y : Nat) : aI := a_ur (wrT m x y) 70 (tkR m x y 3)
theorem tkE_o {m : aI} {x y q : Nat} (h : q ≠ 69) (h1 : q ≠ 70) (h2 : q ≠ 71) (h3 : q ≠ 72) : tkE m x y q = m q := by unfold tkE wrT; rw [a_ur_ne h1, a_ur_ne h1, a_u_row h3, a_u_row h2, a_u_row h]
theorem tkE_69 {m : aI} {x y j : Nat} : tkE m x y 69 j = if j = x then nI (y + 1) else m 69 j := by
  unfold tkE wrT; rw [a_ur_ne (by decide), a_ur_ne (by decide), a_u_row (by decide), a_u_row (by decide)]
  by_cases zd : j = x
  · rw [if_pos zd, zd, a_u_self]
  · rw [if_neg zd, a_u_ne (fun z => zd z.2)]
theorem tkE_71 {m : aI} {x y j : Nat} : tkE m x y 71 j = if j = x then 0 else m 71 j := by
  unfold tkE wrT; rw [a_ur_ne (by decide), a_ur_ne (by decide), a_u_row (by decide)]
  by_cases zd : j = x
  · rw [if_pos zd, zd, a_u_self]
  · rw [if_neg zd, a_u_ne (fun z => zd z.2), a_u_row (by decide)]
theorem tkE_72 {m : aI} {x y j : Nat} : tkE m x y 72 j = if j = x then 0 else m 72 j := by
  unfold tkE wrT; rw [a_ur_ne (by decide), a_ur_ne (by decide)]
  by_cases zd : j = x
  · rw [if_pos zd, zd, a_u_self]
  · rw [if_neg zd, a_u_ne (fun z => zd z.2), a_u_row (by decide), a_u_row (by decide)]
theorem tkE_70x {m : aI} {x y a : Nat} (ha : a < 3) : tkE m x y 70 (3 * x + a) = if m 58 (3 * iN m 62 (x / 16) + a) &&& 4 ≠ 0 then 0 else m 67 (3 * y + a) := by
  unfold tkE; rw [a_ur_self]
  simp only [tkR, wrS]
  rw [show 3 * x + a - 3 * x = a by omega]
  by_cases zc : m 58 (3 * iN m 62 (x / 16) + a) &&& 4 ≠ 0
  · rw [if_pos ⟨by omega, zc⟩, if_pos zc]
  · rw [if_neg (fun q => zc q.2), if_neg zc, if_pos (by omega)]
theorem tkE_70z {m : aI} {x y z a : Nat} (ha : a < 3) (hz : z ≠ x) : tkE m x y 70 (3 * z + a) = m 70 (3 * z + a) := by
  unfold tkE; rw [a_ur_self]
  simp only [tkR, wrS]
  rw [if_neg (fun q => by omega), if_neg (by omega)]
abbrev tkM (m : aI) (x y : Nat) : aI := a_u (tkE m x y) 44 35 (m 44 35 + 1)
theorem CEst.tk {T T2 : List aT} {I I9 : aI} {R R9 : aR} {m : aI} {g r x y : Nat} {gq eq : Nat → Nat} (h : CEst T I R m g gq eq r) (hT : aPT T) (hx : x < 64) (hy : y < 60) (hgn : m 68 y = 0) (hT2 : T2 = T ++ [.inr 3, .inl (.int, 3), .inl (.int, 3)]) (hz : ∀ o, T.length ≤ o → I o = fun _ => 0) (hI : I9 = a_ur (a_u I T.length 0 (nI y)) (T.length + 1) (imR I m x y 3)) (hR : R9 = a_u (a_u (a_u R T.length 1 (some (T.length + 1))) T.length 4 (some (T.length + 2))) 25 x (some T.length)) : CEst T2 (a_u I9 19 8 (m 44 35 + 1)) R9 (tkM m x y) g gq (eqW eq x T.length) r := by
  have h95 := hT.len
  have hp : T <+: T2 := by rw [hT2]; exact List.prefix_append _ _
  have t0 : T2[T.length]? = some (.inr 3) := by rw [hT2]; simp
  have t1 : T2[T.length + 1]? = some (.inl (.int, 3)) := by rw [hT2]; simp
  have t2 : T2[T.length + 2]? = some (.inl (.int, 3)) := by rw [hT2]; simp
  have lo : ∀ o, o < T.length → I9 o = I o := fun o a => by rw [hI, a_ur_ne (by omega), a_u_row (by omega)]
  have lr : ∀ o, o < T.length → a_u (a_u R T.length 1 (some (T.length + 1))) T.length 4 (some (T.length + 2)) o = R o := fun o a => by rw [a_u_row (by omega), a_u_row (by omega)]
  have zc1 : CEst T2 I9 (a_u (a_u R T.length 1 (some (T.length + 1))) T.length 4 (some (T.length + 2))) m g gq eq r := h.fr hT hp (fun o a b => lo o (by omega)) (fun o a _ => ⟨lo o a, lr o a⟩) (lr 21 (by omega)) (lr 25 (by omega))
  have zc2 := zc1.ent (m2 := tkE m x y) (hT.next hp) hx ⟨t0, by rw [a_u_ne (fun z => absurd z.2 (by decide)), a_u_self], t1, a_u_self, t2⟩ (fun z hz0 hn e => by have := a_rel_lt (h.en.tg hz0 hn); omega) hy (by rw [hI, a_ur_ne (by omega), a_u_self]) (by rw [hI, a_ur_ne (by omega), a_u_ne (fun z => absurd z.2 (by decide)), hz _ (Nat.le_refl _), tkE_71, if_pos rfl]) (by rw [hI, a_ur_ne (by omega), a_u_ne (fun z => absurd z.2 (by decide)), hz _ (Nat.le_refl _)]) (fun a ha => ?_) (fun o _ _ b1 b2 b3 b4 => tkE_o b1 b2 b3 b4) ⟨by rw [tkE_o (by decide) (by decide) (by decide) (by decide)], by rw [tkE_o (by decide) (by decide) (by decide) (by decide)]⟩ (fun z => tkE_69) (by rw [tkE_72, if_pos rfl]) (fun z hz0 => ⟨by rw [tkE_71, if_neg hz0], by rw [tkE_72, if_neg hz0], fun a ha => tkE_70z ha hz0⟩)
  · rw [hR]
    exact zc2.srl (hT.next hp)
  · rw [hI, a_ur_self, tkE_70x ha]
    show (if a < 3 ∧ m 58 (3 * iN m 62 (x / 16) + a) &&& 4 = 0 then I 23 (3 * y + a) else 0) = _
    by_cases zc : m 58 (3 * iN m 62 (x / 16) + a) &&& 4 = 0
    · rw [if_pos ⟨ha, zc⟩, if_neg (fun q => q zc)]; exact (h.rs.2.2.2.1 y hy).2.2 hgn a ha
    · rw [if_neg (fun q => zc q.2), if_pos zc]
theorem MEs.tk {m : aI} {g r x y : Nat} (h : MEs m g r) (hx : x < 16 * g) (hy : y < r) (hr : r ≤ 60) (ht : m 62 (x / 16) = m 66 y) (hgn : m 68 y = 0) : MEs (tkM m x y) g r := by
  have em : ∀ q, q ≠ 69 → q ≠ 70 → q ≠ 71 → q ≠ 72 → q ≠ 44 → tkM m x y q = m q := fun q a b zc d f => by unfold tkM; rw [a_u_row f]; exact tkE_o a b zc d
  have e4 : ∀ k, k ≠ 35 → tkM m x y 44 k = m 44 k := fun k a => by unfold tkM; rw [a_u_ne (fun z => a z.2), tkE_o (by decide) (by decide) (by decide) (by decide)]
  have er : ∀ q, q ≠ 44 → tkM m x y q = tkE m x y q := fun q a => a_u_row a
  have n : ∀ q, q ≠ 69 → q ≠ 70 → q ≠ 71 → q ≠ 72 → q ≠ 44 → iN (tkM m x y) q = iN m q := fun q a b zc d f => by unfold iN; rw [em q a b zc d f]
  have nd : ∀ q, (q = 58 ∨ q = 60 ∨ q = 61 ∨ q = 62 ∨ q = 63 ∨ q = 64 ∨ q = 65 ∨ q = 66 ∨ q = 67 ∨ q = 68 ∨ q = 73 ∨ q = 74) → tkM m x y q = m q ∧ iN (tkM m x y) q = iN m q := fun q a => ⟨em q (by omega) (by omega) (by omega) (by omega) (by omega), n q (by omega) (by omega) (by omega) (by omega) (by omega)⟩
  obtain ⟨⟨i1, i2, i3, i4⟩, s1, s2, s3, s4⟩ := h
  have hg4 := i1.1
  have hx6 : x < 64 := by omega
  have tI : iN m 62 (x / 16) = iN m 66 y := by unfold iN; rw [ht]
  have eu : ∀ z, uxn (tkM m x y) z = uxn m z := fun z => by show iN (tkM m x y) 61 (iN (tkM m x y) 62 (z / 16)) = _; rw [(nd 61 (by decide)).2, (nd 62 (by decide)).2]
  have v70 : ∀ a, a < 3 → tkM m x y 70 (3 * x + a) = nI (iN (tkM m x y) 70 (3 * x + a)) ∧ iN (tkM m x y) 70 (3 * x + a) ≤ 255 * 2 ^ uxn m x := fun a ha => by
    unfold iN
    rw [er 70 (by decide), tkE_70x ha]
    by_cases zc : m 58 (3 * iN m 62 (x / 16) + a) &&& 4 ≠ 0
    · rw [if_pos zc]; exact ⟨by decide, by rw [show (0 : Int32).toNatClampNeg = 0 from by decide]; exact Nat.zero_le _⟩
    · rw [if_neg zc]
      have w := i3.2.1 y a (by omega) ha hgn
      have eux : uxn m x = iN m 61 (iN m 66 y) := by show iN m 61 (iN m 62 (x / 16)) = _; rw [tI]
      rw [eux]; unfold iN at w ⊢; exact w
  refine ⟨⟨⟨i1.1, by rw [e4 20 (by decide)]; exact i1.2.1, (by have q := i1.2.2.1; unfold SO3 iN at *; rw [(nd 65 (by decide)).1]; exact q), NR_cg (nd 62 (by decide)).1 i1.2.2.2.1, NR_cg (nd 61 (by decide)).1 i1.2.2.2.2.1, NR_cg (nd 63 (by decide)).1 i1.2.2.2.2.2.1, fun j => ?_⟩, ⟨fun i a hi ha hcc => ?_, fun z hz hn => ?_, fun z a hz ha hb => ?_⟩, ⟨fun z a hz ha hn => ?_, fun j a hj ha hgn => ?_, fun z hz hn => ?_, NR_cg (nd 66 (by decide)).1 i3.2.2.2⟩, fun z hz => ⟨fun w => ?_, fun w v => ?_⟩⟩, ⟨fun i a s hi ha hs h1 h2 => ?_, fun z a hz ha hn => ?_⟩, m74_cg s2 (nd 74 (by decide)).1 (Nat.le_refl _), fun z hz hn => ?_, s4.cgm (nd 63 (by decide)).1 (nd 64 (by decide)).1 (nd 65 (by decide)).1 (nd 67 (by decide)).1⟩
  · rw [er 71 (by decide), tkE_71]
    by_cases zd : j = x
    · rw [if_pos zd]; exact Or.inl rfl
    · rw [if_neg zd]; exact i1.2.2.2.2.2.2 j
  · rw [(nd 62 (by decide)).2, (nd 58 (by decide)).1] at hcc
    rw [(nd 65 (by decide)).1]; exact i2.1 i a hi ha hcc
  · rw [er 69 (by decide), tkE_69] at hn ⊢
    by_cases zd : z = x
    · rw [if_pos zd]; exact nI_ltI (a := 0) (b := y + 1) (by omega) (by omega) |>.mpr (by omega)
    · rw [if_neg zd] at hn ⊢; exact i2.2.1 z hz hn
  · rw [er 72 (by decide), tkE_72] at hb
    rw [(nd 73 (by decide)).1]
    by_cases zd : z = x
    · rw [if_pos zd, bt_z.mp rfl a (by omega)] at hb; cases hb
    · rw [if_neg zd] at hb; exact i2.2.2 z a hz ha hb
  · rw [er 69 (by decide), tkE_69] at hn
    rw [eu]
    by_cases zd : z = x
    · rw [zd]; exact v70 a ha
    · rw [if_neg zd] at hn
      have w := i3.1 z a hz ha hn
      unfold iN at *
      rw [er 70 (by decide), tkE_70z ha zd]; exact w
  · rw [(nd 68 (by decide)).1] at hgn
    rw [(nd 67 (by decide)).2, (nd 61 (by decide)).2, (nd 66 (by decide)).2, (nd 67 (by decide)).1]; exact i3.2.1 j a hj ha hgn
  · rw [er 69 (by decide), tkE_69] at hn ⊢
    rw [(nd 66 (by decide)).1, (nd 62 (by decide)).1]
    by_cases zd : z = x
    · rw [if_pos zd, zd]; exact ⟨hx, y, rfl, by omega, ht.symm⟩
    · rw [if_neg zd] at hn ⊢; exact i3.2.2.1 z hz hn
  · rw [er 72 (by decide), tkE_72]
    by_cases zd : z = x
    · rw [if_pos zd]
    · rw [if_neg zd]; exact (i4 z hz).1 w
  · rw [(nd 62 (by decide)).2, (nd 60 (by decide)).1] at v
    rw [er 72 (by decide), tkE_72]
    by_cases zd : z = x
    · rw [if_pos zd]
    · rw [if_neg zd]; exact (i4 z hz).2 w v
  · rw [(nd 65 (by decide)).1] at hs
    rw [(nd 62 (by decide)).2, (nd 58 (by decide)).1]; exact s1.1 i a s hi ha hs h1 h2
  · rw [er 69 (by decide), tkE_69] at hn
    by_cases zd : z = x
    · rw [zd, (v70 a ha).1]
      exact nI_pos' (by
        have w := (v70 a ha).2
        have w2 := (i1.2.2.2.2.1 (iN m 62 (x / 16)) (i1.2.2.2.1 (x / 16) (by omega)).2).2
        have w3 : 2 ^ uxn m x ≤ 2 ^ 2 := Nat.pow_le_pow_right (by decide) (by show iN m 61 (iN m 62 (x / 16)) ≤ 2; omega)
        omega)
    · rw [if_neg zd] at hn
      rw [er 70 (by decide), tkE_70z ha zd]; exact s1.2 z a hz ha hn
  · rw [er 69 (by decide), tkE_69] at hn
    unfold iN
    rw [er 69 (by decide), tkE_69]
    by_cases zd : z = x
    · rw [if_pos zd, nI_clamp (by omega)]; omega
    · rw [if_neg zd] at hn ⊢; exact s3 z hz hn
