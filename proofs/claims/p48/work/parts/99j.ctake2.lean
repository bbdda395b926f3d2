def tkE (m : aI) (x y : Nat) : aI := a_ur (wrT m x y) 70 (tkR m x y 3)
theorem tkE_o {m : aI} {x y q : Nat} (h : q ≠ 69) (h1 : q ≠ 70) (h2 : q ≠ 71) (h3 : q ≠ 72) : tkE m x y q = m q := by unfold tkE wrT; rw [a_ur_ne h1, a_ur_ne h1, a_u_row h3, a_u_row h2, a_u_row h]
theorem tkE_69 {m : aI} {x y j : Nat} : tkE m x y 69 j = if j = x then nI (y + 1) else m 69 j := by
  unfold tkE wrT; rw [a_ur_ne (by decide), a_ur_ne (by decide), a_u_row (by decide), a_u_row (by decide)]
  by_cases zd : j = x
  · rw [if_pos zd, zd, a_u_self]
  · rw [if_neg zd, a_u_ne (fun z => zd z.2)]
theorem tkE_71 {m : aI} {x y j : Nat} : tkE m x y 71 j = if j = x then 0 else m 71 j := by
  unfold tkE wrT; rw [a_ur_ne (by decide), a_ur_ne (by decide), a_u_row (by decide)]
  by_cases zd : j = x
  · rw [if_pos zd, zd, a_u_self]
  · rw [if_neg zd, a_u_ne (fun z => zd z.2), a_u_row (by decide)]
theorem tkE_72 {m : aI} {x y j : Nat} : tkE m x y 72 j = if j = x then 0 else m 72 j := by
  unfold tkE wrT; rw [a_ur_ne (by decide), a_ur_ne (by decide)]
  by_cases zd : j = x
  · rw [if_pos zd, zd, a_u_self]
  · rw [if_neg zd, a_u_ne (fun z => zd z.2), a_u_row (by decide), a_u_row (by decide)]
theorem tkE_70x {m : aI} {x y a : Nat} (ha : a < 3) : tkE m x y 70 (3 * x + a) = if m 58 (3 * iN m 62 (x / 16) + a) &&& 4 ≠ 0 then 0 else m 67 (3 * y + a) := by
  unfold tkE; rw [a_ur_self]
  simp only [tkR, wrS]
  rw [show 3 * x + a - 3 * x = a by omega]
  by_cases zc : m 58 (3 * iN m 62 (x / 16) + a) &&& 4 ≠ 0
  · rw [if_pos ⟨by omega, zc⟩, if_pos zc]
  · rw [if_neg (fun q => zc q.2), if_neg zc, if_pos (by omega)]
theorem tkE_70z {m : aI} {x y z a : Nat} (ha : a < 3) (hz : z ≠ x) : tkE m x y 70 (3 * z + a) = m 70 (3 * z + a) := by
  unfold tkE; rw [a_ur_self]
  simp only [tkR, wrS]
  rw [if_neg (fun q => by omega), if_neg (by omega)]
abbrev tkM (m : aI) (x y : Nat) : aI := a_u (tkE m x y) 44 35 (m 44 35 + 1)
theorem CEst.tk {T T2 : List aT} {I I9 : aI} {R R9 : aR} {m : aI} {g r x y : Nat} {gq eq : Nat → Nat} (h : CEst T I R m g gq eq r) (hT : aPT T) (hx : x < 64) (hy : y < 60) (hgn : m 68 y = 0) (hT2 : T2 = T ++ [.inr 3, .inl (.int, 3), .inl (.int, 3)]) (hz : ∀ o, T.length ≤ o → I o = fun _ => 0) (hI : I9 = a_ur (a_u I T.length 0 (nI y)) (T.length + 1) (imR I m x y 3)) (hR : R9 = a_u (a_u (a_u R T.length 1 (some (T.length + 1))) T.length 4 (some (T.length + 2))) 25 x (some T.length)) : CEst T2 (a_u I9 19 8 (m 44 35 + 1)) R9 (tkM m x y) g gq (eqW eq x T.length) r := by
  have h95 := hT.len
  have hp : T <+: T2 := by rw [hT2]; exact List.prefix_append _ _
  have t0 : T2[T.length]? = some (.inr 3) := by rw [hT2]; simp
  have t1 : T2[T.length + 1]? = some (.inl (.int, 3)) := by rw [hT2]; simp
  have t2 : T2[T.length + 2]? = some (.inl (.int, 3)) := by rw [hT2]; simp
  have lo : ∀ o, o < T.length → I9 o = I o := fun o a => by rw [hI, a_ur_ne (by omega), a_u_row (by omega)]
  have lr : ∀ o, o < T.length → a_u (a_u R T.length 1 (some (T.length + 1))) T.length 4 (some (T.length + 2)) o = R o := fun o a => by rw [a_u_row (by omega), a_u_row (by omega)]
  have zc1 : CEst T2 I9 (a_u (a_u R T.length 1 (some (T.length + 1))) T.length 4 (some (T.length + 2))) m g gq eq r := h.fr hT hp (fun o a b => lo o (by omega)) (fun o a _ => ⟨lo o a, lr o a⟩) (lr 21 (by omega)) (lr 25 (by omega))
  have zc2 := zc1.ent (m2 := tkE m x y) (hT.next hp) hx ⟨t0, by rw [a_u_ne (fun z => absurd z.2 (by decide)), a_u_self], t1, a_u_self, t2⟩ (fun z hz0 hn e => by have := a_rel_lt (h.en.tg hz0 hn); omega) hy (by rw [hI, a_ur_ne (by omega), a_u_self]) (by rw [hI, a_ur_ne (by omega), a_u_ne (fun z => absurd z.2 (by decide)), hz _ (Nat.le_refl _), tkE_71, if_pos rfl]) (by rw [hI, a_ur_ne (by omega), a_u_ne (fun z => absurd z.2 (by decide)), hz _ (Nat.le_refl _)]) (fun a ha => ?_) (fun o _ _ b1 b2 b3 b4 => tkE_o b1 b2 b3 b4) ⟨by rw [tkE_o (by decide) (by decide) (by decide) (by decide)], by rw [tkE_o (by decide) (by decide) (by decide) (by decide)]⟩ (fun z => tkE_69) (by rw [tkE_72, if_pos rfl]) (fun z hz0 => ⟨by rw [tkE_71, if_neg hz0], by rw [tkE_72, if_neg hz0], fun a ha => tkE_70z ha hz0⟩)
  · rw [hR]
    exact zc2.srl (hT.next hp)
  · rw [hI, a_ur_self, tkE_70x ha]
    show (if a < 3 ∧ m 58 (3 * iN m 62 (x / 16) + a) &&& 4 = 0 then I 23 (3 * y + a) else 0) = _
    by_cases zc : m 58 (3 * iN m 62 (x / 16) + a) &&& 4 = 0
    · rw [if_pos ⟨ha, zc⟩, if_neg (fun q => q zc)]; exact (h.rs.2.2.2.1 y hy).2.2 hgn a ha
    · rw [if_neg (fun q => zc q.2), if_pos zc]
theorem MEs.tk {m : aI} {g r x y : Nat} (h : MEs m g r) (hx : x < 16 * g) (hy : y < r) (hr : r ≤ 60) (ht : m 62 (x / 16) = m 66 y) (hgn : m 68 y = 0) : MEs (tkM m x y) g r := by
  have em : ∀ q, q ≠ 69 → q ≠ 70 → q ≠ 71 → q ≠ 72 → q ≠ 44 → tkM m x y q = m q := fun q a b zc d f => by unfold tkM; rw [a_u_row f]; exact tkE_o a b zc d
  have e4 : ∀ k, k ≠ 35 → tkM m x y 44 k = m 44 k := fun k a => by unfold tkM; rw [a_u_ne (fun z => a z.2), tkE_o (by decide) (by decide) (by decide) (by decide)]
  have er : ∀ q, q ≠ 44 → tkM m x y q = tkE m x y q := fun q a => a_u_row a
  have n : ∀ q, q ≠ 69 → q ≠ 70 → q ≠ 71 → q ≠ 72 → q ≠ 44 → iN (tkM m x y) q = iN m q := fun q a b zc d f => by unfold iN; rw [em q a b zc d f]
  have nd : ∀ q, (q = 58 ∨ q = 60 ∨ q = 61 ∨ q = 62 ∨ q = 63 ∨ q = 64 ∨ q = 65 ∨ q = 66 ∨ q = 67 ∨ q = 68 ∨ q = 73 ∨ q = 74) → tkM m x y q = m q ∧ iN (tkM m x y) q = iN m q := fun q a => ⟨em q (by omega) (by omega) (by omega) (by omega) (by omega), n q (by omega) (by omega) (by omega) (by omega) (by omega)⟩
  obtain ⟨⟨i1, i2, i3, i4⟩, s1, s2, s3, s4⟩ := h
  have hg4 := i1.1
  have hx6 : x < 64 := by omega
  have tI : iN m 62 (x / 16) = iN m 66 y := by unfold iN; rw [ht]
  have eu : ∀ z, uxn (tkM m x y) z = uxn m z := fun z => by show iN (tkM m x y) 61 (iN (tkM m x y) 62 (z / 16)) = _; rw [(nd 61 (by decide)).2, (nd 62 (by decide)).2]
  have v70 : ∀ a, a < 3 → tkM m x y 70 (3 * x + a) = nI (iN (tkM m x y) 70 (3 * x + a)) ∧ iN (tkM m x y) 70 (3 * x + a) ≤ 255 * 2 ^ uxn m x := fun a ha => by
    unfold iN
    rw [er 70 (by decide), tkE_70x ha]
    by_cases zc : m 58 (3 * iN m 62 (x / 16) + a) &&& 4 ≠ 0
    · rw [if_pos zc]; exact ⟨by decide, by rw [show (0 : Int32).toNatClampNeg = 0 from by decide]; exact Nat.zero_le _⟩
    · rw [if_neg zc]
      have w := i3.2.1 y a (by omega) ha hgn
      have eux : uxn m x = iN m 61 (iN m 66 y) := by show iN m 61 (iN m 62 (x / 16)) = _; rw [tI]
      rw [eux]; unfold iN at w ⊢; exact w
  refine ⟨⟨⟨i1.1, by rw [e4 20 (by decide)]; exact i1.2.1, (by have q := i1.2.2.1; unfold SO3 iN at *; rw [(nd 65 (by decide)).1]; exact q), NR_cg (nd 62 (by decide)).1 i1.2.2.2.1, NR_cg (nd 61 (by decide)).1 i1.2.2.2.2.1, NR_cg (nd 63 (by decide)).1 i1.2.2.2.2.2.1, fun j => ?_⟩, ⟨fun i a hi ha hcc => ?_, fun z hz hn => ?_, fun z a hz ha hb => ?_⟩, ⟨fun z a hz ha hn => ?_, fun j a hj ha hgn => ?_, fun z hz hn => ?_, NR_cg (nd 66 (by decide)).1 i3.2.2.2⟩, fun z hz => ⟨fun w => ?_, fun w v => ?_⟩⟩, ⟨fun i a s hi ha hs h1 h2 => ?_, fun z a hz ha hn => ?_⟩, m74_cg s2 (nd 74 (by decide)).1 (Nat.le_refl _), fun z hz hn => ?_, s4.cgm (nd 63 (by decide)).1 (nd 64 (by decide)).1 (nd 65 (by decide)).1 (nd 67 (by decide)).1⟩
  · rw [er 71 (by decide), tkE_71]
    by_cases zd : j = x
    · rw [if_pos zd]; exact Or.inl rfl
    · rw [if_neg zd]; exact i1.2.2.2.2.2.2 j
  · rw [(nd 62 (by decide)).2, (nd 58 (by decide)).1] at hcc
    rw [(nd 65 (by decide)).1]; exact i2.1 i a hi ha hcc
  · rw [er 69 (by decide), tkE_69] at hn ⊢
    by_cases zd : z = x
    · rw [if_pos zd]; exact nI_ltI (a := 0) (b := y + 1) (by omega) (by omega) |>.mpr (by omega)
    · rw [if_neg zd] at hn ⊢; exact i2.2.1 z hz hn
  · rw [er 72 (by decide), tkE_72] at hb
    rw [(nd 73 (by decide)).1]
    by_cases zd : z = x
    · rw [if_pos zd, bt_z.mp rfl a (by omega)] at hb; cases hb
    · rw [if_neg zd] at hb
      have eb : bsM (tkM m x y) z = bsM m z := by have z9 := eu z; unfold uxn at z9; unfold bsM; rw [z9]
      rw [eb]; exact i2.2.2 z a hz ha hb
  · rw [er 69 (by decide), tkE_69] at hn
    rw [eu]
    by_cases zd : z = x
    · rw [zd]; exact v70 a ha
    · rw [if_neg zd] at hn
      have w := i3.1 z a hz ha hn
      unfold iN at *
      rw [er 70 (by decide), tkE_70z ha zd]; exact w
  · rw [(nd 68 (by decide)).1] at hgn
    rw [(nd 67 (by decide)).2, (nd 61 (by decide)).2, (nd 66 (by decide)).2, (nd 67 (by decide)).1]; exact i3.2.1 j a hj ha hgn
  · rw [er 69 (by decide), tkE_69] at hn ⊢
    rw [(nd 66 (by decide)).1, (nd 62 (by decide)).1]
    by_cases zd : z = x
    · rw [if_pos zd, zd]; exact ⟨hx, y, rfl, by omega, ht.symm⟩
    · rw [if_neg zd] at hn ⊢; exact i3.2.2.1 z hz hn
  · rw [er 72 (by decide), tkE_72]
    by_cases zd : z = x
    · rw [if_pos zd]
    · rw [if_neg zd]; exact (i4 z hz).1 w
  · rw [(nd 62 (by decide)).2, (nd 60 (by decide)).1] at v
    rw [er 72 (by decide), tkE_72]
    by_cases zd : z = x
    · rw [if_pos zd]
    · rw [if_neg zd]; exact (i4 z hz).2 w v
  · rw [(nd 65 (by decide)).1] at hs
    rw [(nd 62 (by decide)).2, (nd 58 (by decide)).1]; exact s1.1 i a s hi ha hs h1 h2
  · rw [er 69 (by decide), tkE_69] at hn
    by_cases zd : z = x
    · rw [zd, (v70 a ha).1]
      exact nI_pos' (by
        have w := (v70 a ha).2
        have w2 := (i1.2.2.2.2.1 (iN m 62 (x / 16)) (i1.2.2.2.1 (x / 16) (by omega)).2).2
        have w3 : 2 ^ uxn m x ≤ 2 ^ 2 := Nat.pow_le_pow_right (by decide) (by show iN m 61 (iN m 62 (x / 16)) ≤ 2; omega)
        omega)
    · rw [if_neg zd] at hn
      rw [er 70 (by decide), tkE_70z ha zd]; exact s1.2 z a hz ha hn
  · rw [er 69 (by decide), tkE_69] at hn
    unfold iN
    rw [er 69 (by decide), tkE_69]
    by_cases zd : z = x
    · rw [if_pos zd, nI_clamp (by omega)]; omega
    · rw [if_neg zd] at hn ⊢; exact s3 z hz hn
theorem ty_eq2 {m : aI} {g x y : Nat} (hg : GW m g) (hv : NR m 66 60 3) (hx : x < 16 * g) (hy : y < 60) : iN m 62 (x / 16) = iN m 66 y ↔ m 62 (x / 16) = m 66 y := by
  have hg4 := hg.1
  have a1 := (hg.2.2.2.1 (x / 16) (by omega)).1
  have a2 := (hv y hy).1
  exact ⟨fun q => by rw [a1, a2, q], fun q => by unfold iN; rw [q]⟩
set_option maxRecDepth 100000 in
theorem m_X11_take {T : List aT} {I : aI} {J : aJ} {R : aR} {m : aI} {c n : Nat} {sq : Nat → Nat} {g : Nat} {gq eq : Nat → Nat} {r p : Nat} {pq : Nat → Nat} {k : Nat} (h9 : G9 T I J R m c n sq g gq eq r p pq k) (x y : Int32) : MX11_take 3 200 [.ref 0, .int x, .int y] T I J R (CP [exI, exS] I J m c (fun k v m2 => ((((0 ≤ x ∧ x < nI (16 * g)) ∧ (0 ≤ y ∧ y < nI r)) ∧ canTk m x.toNatClampNeg y.toNatClampNeg) ∧ k = 0 ∧ v = m 44 35 + 1 ∧ m2 = tkM m x.toNatClampNeg y.toNatClampNeg) ∨ ((((0 ≤ x ∧ x < nI (16 * g)) ∧ (0 ≤ y ∧ y < nI r)) ∧ ¬ canTk m x.toNatClampNeg y.toNatClampNeg) ∧ k = 2 ∧ m2 = m) ∨ (¬ ((0 ≤ x ∧ x < nI (16 * g)) ∧ (0 ≤ y ∧ y < nI r)) ∧ k = 1 ∧ m2 = m))) := by
  refine a_met (by decide +kernel) a_le (fun X hC hq => ?_)
  show AW X 0 0 0 [some (.ref 0), some (.int x), some (.int y)] [] T I J R
  have hT := h9.hT
  have hR := h9.hR
  have hG := h9.ces.gn
  have hg := h9.es.1.1
  have hg4 := hg.g4
  have hgn := hG.1
  have hE := h9.ces.en
  have hRs := h9.ces.rs
  have hr60 := hRs.r60
  have hY := h9.ces.ty
  have hl95 := hT.len
  refine aw_ok (fun hz => ?_)
  show AW X 0 0 0 [some (.ref 0), some (.int x), some (.int y)] [] T I J R
  refine aw_aload_n hC dX11_take_0 rfl ?_
  refine aw_getR hC dX11_take_1 aF_X11_28 rfl (tg_0 hT) (pr_0_2 hR) ?_
  refine aw_iload_n hC dX11_take_4 rfl ?_
  refine kX11_260 hC rfl (m_X4_isName (I := I) hT hR hgn x) dX11_take_5 (tg_19 hT) rfl a_le a_le a_le a_le a_le rfl aPure_x (aPure_k ?_)
  show AW X 0 0 8 [some (.ref 0), some (.int x), some (.int y)] [.int (bI (decide (0 ≤ x ∧ x < nI (16 * g))))] T I J R
  refine aw_if_eq (tgt := 29) hC dX11_take_8 (by decide) (fun h1 => ?_) (fun h1 => ?_)
  · show AW X 0 0 29 [some (.ref 0), some (.int x), some (.int y)] [] T I J R
    refine aw_iconst (v := 0) hC dX11_take_29 (by decide) ?_
    exact kX11_68 hC rfl (m_X11_needIndexF (T := T) (I := I) (J := J) (R := R)) dX11_take_30 rfl a_le a_le a_le a_le a_le rfl (aTh_x (ae_out hC hq a_le a_le (CP.th (j := 0) rfl (Or.inr (Or.inr ⟨fun q => by first | exact absurd q.1 (of_decide_eq_false (bI_e0.mp (by assumption))) | exact absurd q.2 (of_decide_eq_false (bI_e0.mp (by assumption))), rfl, rfl⟩)) h9.gi))) aTh_k
  · show AW X 0 0 11 [some (.ref 0), some (.int x), some (.int y)] [] T I J R
    refine aw_iload_n hC dX11_take_11 rfl ?_
    refine aw_aload_n hC dX11_take_12 rfl ?_
    refine aw_getR hC dX11_take_13 aF_X11_28 rfl (tg_0 hT) (pr_0_2 hR) ?_
    refine aw_getI hC dX11_take_16 aF_X11_335 rfl (tg_19 hT) ?_
    rw [hRs.1]
    refine kX11_64 hC rfl (m_X11_isBelow y (nI r)) dX11_take_19 rfl a_le a_le a_le a_le a_le rfl aPure_x (aPure_k ?_)
    show AW X 0 0 22 [some (.ref 0), some (.int x), some (.int y)] [.int (bI (decide (0 ≤ y ∧ y < (nI r))))] T I J R
    refine aw_if_eq (tgt := 29) hC dX11_take_22 (by decide) (fun h2 => ?_) (fun h2 => ?_)
    · show AW X 0 0 29 [some (.ref 0), some (.int x), some (.int y)] [] T I J R
      refine aw_iconst (v := 0) hC dX11_take_29 (by decide) ?_
      exact kX11_68 hC rfl (m_X11_needIndexF (T := T) (I := I) (J := J) (R := R)) dX11_take_30 rfl a_le a_le a_le a_le a_le rfl (aTh_x (ae_out hC hq a_le a_le (CP.th (j := 0) rfl (Or.inr (Or.inr ⟨fun q => by first | exact absurd q.1 (of_decide_eq_false (bI_e0.mp (by assumption))) | exact absurd q.2 (of_decide_eq_false (bI_e0.mp (by assumption))), rfl, rfl⟩)) h9.gi))) aTh_k
    · show AW X 0 0 25 [some (.ref 0), some (.int x), some (.int y)] [] T I J R
      refine aw_iconst (v := 1) hC dX11_take_25 (by decide) ?_
      refine aw_goto (tgt := 30) hC dX11_take_26 (by decide) ?_
      refine kX11_68 hC rfl (m_X11_needIndexT (T := T) (I := I) (J := J) (R := R) (x := 1) (by decide)) dX11_take_30 rfl a_le a_le a_le a_le a_le rfl aPure_x (aPure_k ?_)
      show AW X 0 0 33 [some (.ref 0), some (.int x), some (.int y)] [] T I J R
      have hfcx : 0 ≤ x ∧ x < nI (16 * g) := of_decide_eq_true (bI_n0.mp (by assumption))
      obtain ⟨x1, hx1, ex1⟩ := i_nat (x := x) (b := 16 * g) hfcx.1 hfcx.2 rfl (by first | decide | omega)
      subst ex1
      have hfcy : 0 ≤ y ∧ y < nI (r) := of_decide_eq_true (bI_n0.mp (by assumption))
      obtain ⟨y1, hy1, ey1⟩ := i_nat (x := y) (b := r) hfcy.1 hfcy.2 rfl (by first | decide | omega)
      subst ey1
      have hty1 := (hg.ty (x1 / 16) (by omega)).2
      have hty2 := h9.es.1.2.2.1.2.2.2 y1 (by omega)
      show AW X 0 0 33 [some (.ref 0), some (.int (nI x1)), some (.int (nI y1))] [] T I J R
      refine aw_aload_n hC dX11_take_33 rfl ?_
      refine aw_getR hC dX11_take_34 aF_X11_46 rfl (tg_0 hT) (pr_0_4 hR) ?_
      refine aw_getI hC dX11_take_37 aF_X11_254 rfl (tg_38 hT) ?_
      rw [h9.cap.2.2.1]
      refine aw_if_ne (tgt := 59) hC dX11_take_40 (by decide) (fun h3 => ?_) (fun h3 => ?_)
      · show AW X 0 0 59 [some (.ref 0), some (.int (nI x1)), some (.int (nI y1))] [] T I J R
        refine aw_iconst (v := 0) hC dX11_take_59 (by decide) ?_
        exact kX11_88 hC rfl (m_X11_needStateF (T := T) (I := I) (J := J) (R := R)) dX11_take_60 rfl a_le a_le a_le a_le a_le rfl (aTh_x (ae_out hC hq a_le a_le (CP.th (j := 1) rfl (Or.inr (Or.inl ⟨⟨⟨hfcx, hfcy⟩, by rw [nI_clamp (show x1 < 2 ^ 31 by omega)]; rw [nI_clamp (show y1 < 2 ^ 31 by omega)]; exact fun q => by first | exact absurd q.1 (Int32.not_lt.mpr (bI_dn.mp (by assumption : ¬ bI (decide (0 ≤ m 44 45)) = 0))) | exact q.2.1 (h9.es.1.2.1.2.1 _ (by omega) hx69) | exact absurd q.2.2.1 (by assumption) | exact absurd (bI_e0.mpr q.2.2.2.1) (by assumption) | exact absurd ((ty_eq2 hg h9.es.1.2.2.1.2.2.2 hx1 (by omega)).mpr q.2.2.2.2) (by assumption)⟩, rfl, rfl⟩)) h9.gi))) aTh_k
      · show AW X 0 0 43 [some (.ref 0), some (.int (nI x1)), some (.int (nI y1))] [] T I J R
        refine aw_aload_n hC dX11_take_43 rfl ?_
        refine aw_getR hC dX11_take_44 aF_X11_28 rfl (tg_0 hT) (pr_0_2 hR) ?_
        refine aw_getR hC dX11_take_47 aF_X11_318 rfl (tg_19 hT) (pr_19_7 hR) ?_
        refine aw_iload_n hC dX11_take_50 rfl ?_
        by_cases hx69 : m 69 x1 = 0
        · show AW X 0 0 51 [some (.ref 0), some (.int (nI x1)), some (.int (nI y1))] [.int (nI x1), .ref 25] T I J R
          refine aw_aaloadN_k (j := x1) hC dX11_take_51 (tg_25 hT) (nI_clamp (by omega)) (vp_in_nI (by omega) (by decide)) (hE.no (by omega) hx69) ?_
          refine aw_ifnonnullN hC dX11_take_52 ?_
          refine aw_iconst (v := 1) hC dX11_take_55 (by decide) ?_
          refine aw_goto (tgt := 60) hC dX11_take_56 (by decide) ?_
          refine kX11_88 hC rfl (m_X11_needStateT (T := T) (I := I) (J := J) (R := R) (x := 1) (by decide)) dX11_take_60 rfl a_le a_le a_le a_le a_le rfl aPure_x (aPure_k ?_)
          show AW X 0 0 63 [some (.ref 0), some (.int (nI x1)), some (.int (nI y1))] [] T I J R
          refine aw_aload_n hC dX11_take_63 rfl ?_
          refine aw_getR hC dX11_take_64 aF_X11_28 rfl (tg_0 hT) (pr_0_2 hR) ?_
          refine aw_getR hC dX11_take_67 aF_X11_338 rfl (tg_19 hT) (pr_19_5 hR) ?_
          refine aw_iload_n hC dX11_take_70 rfl ?_
          refine aw_baload_k (j := y1) hC dX11_take_71 (tg_24 hT) (nI_clamp (by omega)) (vp_in_nI (by omega) (by decide)) ?_
          rw [(hRs.2.2.2.1 y1 (by omega)).2.1]
          refine aw_if_ne (tgt := 90) hC dX11_take_72 (by decide) (fun h4 => ?_) (fun h4 => ?_)
          · show AW X 0 0 90 [some (.ref 0), some (.int (nI x1)), some (.int (nI y1))] [] T I J R
            refine aw_iconst (v := 0) hC dX11_take_90 (by decide) ?_
            exact kX11_88 hC rfl (m_X11_needStateF (T := T) (I := I) (J := J) (R := R)) dX11_take_91 rfl a_le a_le a_le a_le a_le rfl (aTh_x (ae_out hC hq a_le a_le (CP.th (j := 1) rfl (Or.inr (Or.inl ⟨⟨⟨hfcx, hfcy⟩, by rw [nI_clamp (show x1 < 2 ^ 31 by omega)]; rw [nI_clamp (show y1 < 2 ^ 31 by omega)]; exact fun q => by first | exact absurd q.1 (Int32.not_lt.mpr (bI_dn.mp (by assumption : ¬ bI (decide (0 ≤ m 44 45)) = 0))) | exact q.2.1 (h9.es.1.2.1.2.1 _ (by omega) hx69) | exact absurd q.2.2.1 (by assumption) | exact absurd (bI_e0.mpr q.2.2.2.1) (by assumption) | exact absurd ((ty_eq2 hg h9.es.1.2.2.1.2.2.2 hx1 (by omega)).mpr q.2.2.2.2) (by assumption)⟩, rfl, rfl⟩)) h9.gi))) aTh_k
          · show AW X 0 0 75 [some (.ref 0), some (.int (nI x1)), some (.int (nI y1))] [] T I J R
            refine aw_aload_n hC dX11_take_75 rfl ?_
            refine aw_getR hC dX11_take_76 aF_X11_28 rfl (tg_0 hT) (pr_0_2 hR) ?_
            refine aw_iload_n hC dX11_take_79 rfl ?_
            refine kX11_354 hC rfl (m_X4_hasEntry (I := I) hT hR hE (r := y1) (by omega)) dX11_take_80 (tg_19 hT) rfl a_le a_le a_le a_le a_le rfl aPure_x (aPure_k ?_)
            show AW X 0 0 83 [some (.ref 0), some (.int (nI x1)), some (.int (nI y1))] [.int (bI (tkB m y1))] T I J R
            refine aw_if_ne (tgt := 90) hC dX11_take_83 (by decide) (fun h5 => ?_) (fun h5 => ?_)
            · show AW X 0 0 90 [some (.ref 0), some (.int (nI x1)), some (.int (nI y1))] [] T I J R
              refine aw_iconst (v := 0) hC dX11_take_90 (by decide) ?_
              exact kX11_88 hC rfl (m_X11_needStateF (T := T) (I := I) (J := J) (R := R)) dX11_take_91 rfl a_le a_le a_le a_le a_le rfl (aTh_x (ae_out hC hq a_le a_le (CP.th (j := 1) rfl (Or.inr (Or.inl ⟨⟨⟨hfcx, hfcy⟩, by rw [nI_clamp (show x1 < 2 ^ 31 by omega)]; rw [nI_clamp (show y1 < 2 ^ 31 by omega)]; exact fun q => by first | exact absurd q.1 (Int32.not_lt.mpr (bI_dn.mp (by assumption : ¬ bI (decide (0 ≤ m 44 45)) = 0))) | exact q.2.1 (h9.es.1.2.1.2.1 _ (by omega) hx69) | exact absurd q.2.2.1 (by assumption) | exact absurd (bI_e0.mpr q.2.2.2.1) (by assumption) | exact absurd ((ty_eq2 hg h9.es.1.2.2.1.2.2.2 hx1 (by omega)).mpr q.2.2.2.2) (by assumption)⟩, rfl, rfl⟩)) h9.gi))) aTh_k
            · show AW X 0 0 86 [some (.ref 0), some (.int (nI x1)), some (.int (nI y1))] [] T I J R
              refine aw_iconst (v := 1) hC dX11_take_86 (by decide) ?_
              refine aw_goto (tgt := 91) hC dX11_take_87 (by decide) ?_
              refine kX11_88 hC rfl (m_X11_needStateT (T := T) (I := I) (J := J) (R := R) (x := 1) (by decide)) dX11_take_91 rfl a_le a_le a_le a_le a_le rfl aPure_x (aPure_k ?_)
              show AW X 0 0 94 [some (.ref 0), some (.int (nI x1)), some (.int (nI y1))] [] T I J R
              refine aw_aload_n hC dX11_take_94 rfl ?_
              refine aw_getR hC dX11_take_95 aF_X11_28 rfl (tg_0 hT) (pr_0_2 hR) ?_
              refine aw_iload_n hC dX11_take_98 rfl ?_
              refine kX11_351 hC rfl (m_X4_typeNumberOf (I := I) hT hR hG hg (x := x1) (by omega)) dX11_take_99 (tg_19 hT) rfl a_le a_le a_le a_le a_le rfl aPure_x (aPure_k ?_)
              show AW X 0 0 102 [some (.ref 0), some (.int (nI x1)), some (.int (nI y1))] [.int (nI (iN m 62 (x1 / 16)))] T I J R
              refine aw_aload_n hC dX11_take_102 rfl ?_
              refine aw_getR hC dX11_take_103 aF_X11_28 rfl (tg_0 hT) (pr_0_2 hR) ?_
              refine aw_getR hC dX11_take_106 aF_X11_357 rfl (tg_19 hT) (pr_19_3 hR) ?_
              refine aw_iload_n hC dX11_take_109 rfl ?_
              refine aw_iaload_k (j := y1) hC dX11_take_110 (tg_22 hT) (nI_clamp (by omega)) (vp_in_nI (by omega) (by decide)) ?_
              rw [((hRs.2.2.2.1 y1 (by omega)).1.trans hty2.1)]
              refine aw_icmp_ne (tgt := 118) hC dX11_take_111 (by decide) (fun h6 => ?_) (fun h6 => ?_)
              · show AW X 0 0 118 [some (.ref 0), some (.int (nI x1)), some (.int (nI y1))] [] T I J R
                have h6n : ¬ (iN m 62 (x1 / 16)) = (iN m 66 y1) := fun q9 => h6 ((nI_eq (a := (iN m 62 (x1 / 16))) (b := (iN m 66 y1)) (by omega) (by omega)).mpr q9)
                refine aw_iconst (v := 0) hC dX11_take_118 (by decide) ?_
                exact kX11_88 hC rfl (m_X11_needStateF (T := T) (I := I) (J := J) (R := R)) dX11_take_119 rfl a_le a_le a_le a_le a_le rfl (aTh_x (ae_out hC hq a_le a_le (CP.th (j := 1) rfl (Or.inr (Or.inl ⟨⟨⟨hfcx, hfcy⟩, by rw [nI_clamp (show x1 < 2 ^ 31 by omega)]; rw [nI_clamp (show y1 < 2 ^ 31 by omega)]; exact fun q => by first | exact absurd q.1 (Int32.not_lt.mpr (bI_dn.mp (by assumption : ¬ bI (decide (0 ≤ m 44 45)) = 0))) | exact q.2.1 (h9.es.1.2.1.2.1 _ (by omega) hx69) | exact absurd q.2.2.1 (by assumption) | exact absurd (bI_e0.mpr q.2.2.2.1) (by assumption) | exact absurd ((ty_eq2 hg h9.es.1.2.2.1.2.2.2 hx1 (by omega)).mpr q.2.2.2.2) (by assumption)⟩, rfl, rfl⟩)) h9.gi))) aTh_k
              · show AW X 0 0 114 [some (.ref 0), some (.int (nI x1)), some (.int (nI y1))] [] T I J R
                have h6n : (iN m 62 (x1 / 16)) = (iN m 66 y1) := (nI_eq (a := (iN m 62 (x1 / 16))) (b := (iN m 66 y1)) (by omega) (by omega)).mp h6
                refine aw_iconst (v := 1) hC dX11_take_114 (by decide) ?_
                refine aw_goto (tgt := 119) hC dX11_take_115 (by decide) ?_
                refine kX11_88 hC rfl (m_X11_needStateT (T := T) (I := I) (J := J) (R := R) (x := 1) (by decide)) dX11_take_119 rfl a_le a_le a_le a_le a_le rfl aPure_x (aPure_k ?_)
                show AW X 0 0 122 [some (.ref 0), some (.int (nI x1)), some (.int (nI y1))] [] T I J R
                refine aw_aload_n hC dX11_take_122 rfl ?_
                refine aw_getR hC dX11_take_123 aF_X11_28 rfl (tg_0 hT) (pr_0_2 hR) ?_
                refine aw_iload_n hC dX11_take_126 rfl ?_
                refine aw_iload_n hC dX11_take_127 rfl ?_
                refine kX11_360 hC rfl (m_X4_importResource (I := I) hT hR hG hg hY (x := x1) (r := y1) (by omega) (by omega)) dX11_take_128 (tg_19 hT) rfl a_le a_le a_le a_le a_le rfl aRelT_x (aRelT_k (fun v9 T9 I9 J9 R9 hp9 hQ => ?_))
                obtain ⟨ev9, hT9, hI9, hJ9, hRR9, hR9⟩ := hQ
                rw [ev9, hJ9]
                show AW X (0 + 3) (0 + 11) 131 [some (.ref 0), some (.int (nI x1)), some (.int (nI y1))] [] T9 I9 J R9
                refine aw_aload_n hC dX11_take_131 rfl ?_
                refine aw_getR hC dX11_take_132 aF_X11_28 rfl (tg_0 (hT.next hp9)) (pr_0_2 hR9) ?_
                refine aw_dup hC dX11_take_135 rfl ?_
                refine aw_getI hC dX11_take_136 aF_X11_278 rfl (tg_19 (hT.next hp9)) ?_
                rw [(show I9 19 8 = m 44 35 from by rw [hI9, a_ur_ne (by omega), a_u_row (by omega)]; exact h9.ces.sr)]
                refine aw_iconst (v := 1) hC dX11_take_139 (by decide) ?_
                refine aw_iadd hC dX11_take_140 ?_
                refine aw_putI hC dX11_take_141 aF_X11_278 rfl rfl (tg_19 (hT.next hp9)) ?_
                refine aw_aload_n hC dX11_take_144 rfl ?_
                refine aw_getR hC dX11_take_145 aF_X11_28 rfl (tg_0 (hT.next hp9)) (pr_0_2 hR9) ?_
                refine aw_getI hC dX11_take_148 aF_X11_278 rfl (tg_19 (hT.next hp9)) ?_
                rw [a_u_self (f := I9) (o := 19) (k := 8) (v := (m 44 35) + 1)]
                exact aw_ireturn hC hq rfl dX11_take_151 a_le a_le (CP.ok (Or.inl ⟨⟨⟨hfcx, hfcy⟩, by rw [nI_clamp (show x1 < 2 ^ 31 by omega)]; rw [nI_clamp (show y1 < 2 ^ 31 by omega)]; exact ⟨(Int32.not_le.mp (bI_d0.mp (by assumption : bI (decide (0 ≤ m 44 45)) = 0))), by rw [hx69]; decide, by assumption, bI_e0.mp (by assumption), (ty_eq2 hg h9.es.1.2.2.1.2.2.2 hx1 (by omega)).mp (by assumption)⟩⟩, rfl, rfl, by rw [nI_clamp (show x1 < 2 ^ 31 by omega)]; rw [nI_clamp (show y1 < 2 ^ 31 by omega)]⟩) (fun o u v => ⟨by rw [a_u_row (by omega), hI9, a_ur_ne (by omega), a_u_row (by omega)], rfl⟩) (h9.est (S := fun o => o = 19 ∨ o = 25) hp9 (fun o q _ z => by rw [a_u_row (fun w => z (Or.inl w)), hI9, a_ur_ne (by omega), a_u_row (by omega)]) (fun o q _ z => by rw [hRR9, a_u_row (fun w => z (Or.inr w)), a_u_row (by omega), a_u_row (by omega)]) (fun o z => Or.inl (by omega)) hR9 (h9.ces.tk hT (by omega) (by omega) (by assumption) hT9 (fun o ho => (hz o ho).1) hI9 hRR9) (h9.es.tk hx1 hy1 hr60 ((ty_eq2 hg h9.es.1.2.2.1.2.2.2 hx1 (by omega)).mp (by assumption)) (by assumption)) (Nat.le_refl _) (Nat.le_refl _) (fun o z => by unfold tkM; rw [a_u_row (by omega)]; exact tkE_o (by omega) (by omega) (by omega) (by omega)) (fun k _ _ z => by unfold tkM; rw [a_u_ne (fun w => z w.2), tkE_o (by decide) (by decide) (by decide) (by decide)]) (fun w => absurd w (nolk43 h9 (Int32.not_le.mp (bI_d0.mp (by assumption : bI (decide (0 ≤ m 44 45)) = 0)))))).gi)
        · show AW X 0 0 51 [some (.ref 0), some (.int (nI x1)), some (.int (nI y1))] [.int (nI x1), .ref 25] T I J R
          refine aw_aaloadR_k (j := x1) hC dX11_take_51 (tg_25 hT) (nI_clamp (by omega)) (vp_in_nI (by omega) (by decide)) (hE.rf (by omega) hx69) ?_
          refine aw_ifnonnull (tgt := 59) hC dX11_take_52 (by decide) ?_
          refine aw_iconst (v := 0) hC dX11_take_59 (by decide) ?_
          exact kX11_88 hC rfl (m_X11_needStateF (T := T) (I := I) (J := J) (R := R)) dX11_take_60 rfl a_le a_le a_le a_le a_le rfl (aTh_x (ae_out hC hq a_le a_le (CP.th (j := 1) rfl (Or.inr (Or.inl ⟨⟨⟨hfcx, hfcy⟩, by rw [nI_clamp (show x1 < 2 ^ 31 by omega)]; rw [nI_clamp (show y1 < 2 ^ 31 by omega)]; exact fun q => by first | exact absurd q.1 (Int32.not_lt.mpr (bI_dn.mp (by assumption : ¬ bI (decide (0 ≤ m 44 45)) = 0))) | exact q.2.1 (h9.es.1.2.1.2.1 _ (by omega) hx69) | exact absurd q.2.2.1 (by assumption) | exact absurd (bI_e0.mpr q.2.2.2.1) (by assumption) | exact absurd ((ty_eq2 hg h9.es.1.2.2.1.2.2.2 hx1 (by omega)).mpr q.2.2.2.2) (by assumption)⟩, rfl, rfl⟩)) h9.gi))) aTh_k
