theorem CEst.bnd {T : List aT} {I : aI} {R : aR} {m : aI} {g r x a : Nat} {v : Int32} {gq eq : Nat → Nat} (h : CEst T I R m g gq eq r) (hT : aPT T) (hx : x < g) (ha : a < 3) : CEst T (a_u I (gq x + 2) a v) R (a_u m 65 (3 * x + a) v) g gq eq r := by
  have e : ∀ q, q ≠ 65 → a_u m 65 (3 * x + a) v q = m q := fun q u => a_u_row u
  have h95 := h.gn.ge hT hx
  have lo : ∀ o, o < 44 → a_u I (gq x + 2) a v o = I o := fun o ho => a_u_row (by omega)
  refine ⟨⟨by rw [lo 19 (by decide)]; exact h.gn.1, fun i hi => ⟨h.gn.rf hi, ?_⟩, h.gn.2.2⟩, (h.ty.fr (fun o _ _ => lo o (by omega))).cgm (e 58 (by decide)) (e 59 (by decide)) (e 60 (by decide)) (e 61 (by decide)), ?_, ?_, by rw [lo 19 (by decide), e 44 (by decide)]; exact h.sr, fun y hy => by rw [lo 26 (by decide), e 74 (by decide)]; exact h.md hy⟩
  · have q := h.gn.at hi
    have d := h.gn.ne5 hi hx
    have r0 : a_u I (gq x + 2) a v (gq i) = I (gq i) := a_u_row d.2.2.2.2.2.1
    have r1 : a_u I (gq x + 2) a v (gq i + 1) = I (gq i + 1) := a_u_row d.2.2.2.2.2.2
    unfold GnAt at *
    rw [r0, r1, e 62 (by decide), e 63 (by decide), e 64 (by decide)]
    refine ⟨q.1, q.2.1, q.2.2.1, q.2.2.2.1, q.2.2.2.2.1, q.2.2.2.2.2.1, q.2.2.2.2.2.2.1, q.2.2.2.2.2.2.2.1, fun b hb => ?_⟩
    by_cases c : i = x
    · by_cases c2 : b = a
      · rw [c, c2, a_u_self, a_u_self]
      · rw [c, a_u_ne (fun z => c2 z.2), a_u_ne (fun z => c2 (by omega)), ← c]; exact q.2.2.2.2.2.2.2.2 b hb
    · rw [a_u_row (d.1 c).2.2, a_u_ne (fun z => c (by omega))]; exact q.2.2.2.2.2.2.2.2 b hb
  · have q := h.rs
    unfold CRs at *
    rw [lo 19 (by decide), lo 22 (by decide), lo 23 (by decide), lo 24 (by decide), e 44 (by decide), e 66 (by decide), e 67 (by decide), e 68 (by decide)]
    exact q
  · refine CEn.cgm (m := m) ⟨fun y hy => ⟨fun h0 => h.en.no hy h0, fun h0 => ⟨h.en.rf hy h0, ?_⟩⟩, h.en.2⟩ (e 69 (by decide)) (e 70 (by decide)) (e 71 (by decide)) (e 72 (by decide)) (e 73 (by decide))
    have q := h.en.at hy h0
    have p2 := h.gn.t2 hx
    have ow := h.gn.tg hx
    have t0 := h.en.tg hy h0
    have n3 : eq y ≠ gq x := tg_ne t0 ow (by decide)
    have n4 : eq y + 1 ≠ gq x := tg_ne (h.en.t1 hy h0) ow (by decide)
    have n5 : eq y ≠ gq x + 1 := tg_ne t0 (h.gn.t1 hx) (by decide)
    have r0 : a_u I (gq x + 2) a v (eq y) = I (eq y) := a_u_row (tg_ne t0 p2 (by decide))
    have r1 : a_u I (gq x + 2) a v (eq y + 1) = I (eq y + 1) := a_u_row (by omega)
    have r2 : a_u I (gq x + 2) a v (eq y + 2) = I (eq y + 2) := a_u_row (by omega)
    unfold EnAt at *
    rw [r0, r1, r2]; exact q
theorem MEs.bnd {m : aI} {g r x a : Nat} {v : Int32} (h : MEs m g r) (hx : x < g) (ha : a < 3) (hv : v = -1 ∨ ∃ s, v = nI s ∧ s < 22 ∧ (10 ≤ s → (s - 10) / 3 < x ∧ m 58 (3 * iN m 62 ((s - 10) / 3) + (s - 10) % 3) &&& 2 ≠ 0)) (hc : m 58 (3 * iN m 62 x + a) &&& 2 = 0) : MEs (a_u m 65 (3 * x + a) v) g r := by
  have e : ∀ q, q ≠ 65 → a_u m 65 (3 * x + a) v q = m q := fun q u => a_u_row u
  obtain ⟨⟨i1, i2, i3, i4⟩, s1, s2, s3, s4⟩ := h
  have n62 : iN (a_u m 65 (3 * x + a) v) 62 = iN m 62 := by unfold iN; rw [e 62 (by decide)]
  refine ⟨⟨⟨i1.1, by rw [e 44 (by decide)]; exact i1.2.1, fun j hj => ?_, NR_cg (e 62 (by decide)) i1.2.2.2.1, NR_cg (e 61 (by decide)) i1.2.2.2.2.1, NR_cg (e 63 (by decide)) i1.2.2.2.2.2.1, (by have q := i1.2.2.2.2.2.2; unfold B01 at *; rw [e 71 (by decide)]; exact q)⟩, ⟨fun i b hi hb hcc => ?_, by rw [e 69 (by decide)]; exact i2.2.1, (by have q9 := i2.2.2; unfold bsM iN at *; rw [e 72 (by decide), e 73 (by decide), e 61 (by decide), e 62 (by decide)]; exact q9)⟩, i3.cgm (e 61 (by decide)) (e 62 (by decide)) (e 66 (by decide)) (e 67 (by decide)) (e 68 (by decide)) (e 69 (by decide)) (e 70 (by decide)), i4.cgm (e 60 (by decide)) (e 62 (by decide)) (e 72 (by decide))⟩, ⟨fun i b s hi hb hs h1 h2 => ?_, by rw [e 69 (by decide), e 70 (by decide)]; exact s1.2⟩, m74_cg s2 (e 74 (by decide)) (Nat.le_refl _), m69_cg s3 (e 69 (by decide)) (Nat.le_refl _), ⟨by rw [e 67 (by decide)]; exact s4.1, fun i u w => ⟨by rw [e 63 (by decide)]; exact (s4.2 i u w).1, by rw [e 64 (by decide)]; exact (s4.2 i u w).2.1, fun b hb => by rw [a_u_ne (fun z => by omega)]; exact (s4.2 i u w).2.2 b hb⟩⟩⟩
  · by_cases c : j = 3 * x + a
    · unfold iN
      rw [c, a_u_self]
      rcases hv with z | ⟨s, z1, z2, z3⟩
      · exact Or.inl z
      · rw [z1, nI_clamp (by omega)]
        exact Or.inr ⟨rfl, z2, fun w => by have := (z3 w).1; omega⟩
    · have q := i1.2.2.1 j hj
      unfold iN at *
      rw [a_u_ne (fun z => c z.2)]; exact q
  · rw [n62, e 58 (by decide)] at hcc
    by_cases c : i = x
    · by_cases c2 : b = a
      · rw [c, c2] at hcc; exact absurd hc hcc
      · rw [a_u_ne (fun z => by omega)]; exact i2.1 i b hi hb hcc
    · rw [a_u_ne (fun z => by omega)]; exact i2.1 i b hi hb hcc
  · rw [n62, e 58 (by decide)]
    by_cases c : 3 * i + b = 3 * x + a
    · rw [c, a_u_self] at hs
      rcases hv with z | ⟨s0, z1, z2, z3⟩
      · rw [z] at hs; exact absurd hs.symm (nI_ne1 h1)
      · rw [z1] at hs
        have e9 : s0 = s := (nI_eq (by omega) (by omega)).mp hs
        rw [← e9]; exact (z3 (by omega)).2
    · rw [a_u_ne (fun z => c z.2)] at hs
      exact s1.1 i b s hi hb hs h1 h2
theorem bnd_s {s : Int32} {x : Nat} (hx : x < 4) (h1 : -1 ≤ s) (h2 : s ≤ nI (10 + 3 * x - 1)) : s = -1 ∨ ∃ s1, s1 < 10 + 3 * x ∧ s = nI s1 := by
  by_cases c : s = -1
  · exact Or.inl c
  · have e : (nI (10 + 3 * x - 1)).toInt = (10 + 3 * x - 1 : Nat) := i_nl _ (by omega)
    have f : (nI (10 + 3 * x)).toInt = (10 + 3 * x : Nat) := i_nl _ (by omega)
    have q1 : 0 ≤ s := by simp only [i_lt, i_le, i_eq, Int32.reduceToInt] at *; omega
    have q2 : s < nI (10 + 3 * x) := by simp only [i_lt, i_le, i_eq, Int32.reduceToInt] at *; omega
    obtain ⟨s1, a, b⟩ := i_nat q1 q2 rfl (by omega)
    exact Or.inr ⟨s1, a, b⟩
/-- a source may be bound -/
abbrev bdC (m : aI) (x a : Nat) (s : Int32) : Prop := m 58 (3 * iN m 62 x + a) &&& 2 = 0 ∧ (s < 10 ∨ m 58 (3 * iN m 62 ((s.toNatClampNeg - 10) / 3) + (s.toNatClampNeg - 10) % 3) &&& 2 ≠ 0)
set_option maxRecDepth 100000 in
theorem m_X11_bind {T : List aT} {I : aI} {J : aJ} {R : aR} {m : aI} {c n : Nat} {sq : Nat → Nat} {g : Nat} {gq eq : Nat → Nat} {r p : Nat} {pq : Nat → Nat} {k : Nat} (h9 : G9 T I J R m c n sq g gq eq r p pq k) (x a s : Int32) : MX11_bind 3 200 [.ref 0, .int x, .int a, .int s] T I J R (CP [exI, exS] I J m c (fun k v m2 => ((((0 ≤ x ∧ x < nI g) ∧ (0 ≤ a ∧ a ≤ 2) ∧ (-1 ≤ s ∧ s ≤ nI (10 + 3 * x.toNatClampNeg - 1))) ∧ bdC m x.toNatClampNeg a.toNatClampNeg s) ∧ k = 0 ∧ v = m 65 (3 * x.toNatClampNeg + a.toNatClampNeg) ∧ m2 = a_u m 65 (3 * x.toNatClampNeg + a.toNatClampNeg) s) ∨ ((((0 ≤ x ∧ x < nI g) ∧ (0 ≤ a ∧ a ≤ 2) ∧ (-1 ≤ s ∧ s ≤ nI (10 + 3 * x.toNatClampNeg - 1))) ∧ ¬ bdC m x.toNatClampNeg a.toNatClampNeg s) ∧ k = 2 ∧ m2 = m) ∨ (¬ ((0 ≤ x ∧ x < nI g) ∧ (0 ≤ a ∧ a ≤ 2) ∧ (-1 ≤ s ∧ s ≤ nI (10 + 3 * x.toNatClampNeg - 1))) ∧ k = 1 ∧ m2 = m))) := by
  refine a_met (by decide +kernel) a_le (fun X hC hq => ?_)
  show AW X 0 0 0 [some (.ref 0), some (.int x), some (.int a), some (.int s), none, none] [] T I J R
  have hT := h9.hT
  have hR := h9.hR
  have hG := h9.ces.gn
  have hg := h9.es.1.1
  have hg4 := hg.g4
  have hgn := hG.1
  have hE := h9.ces.en
  have hRs := h9.ces.rs
  have hr60 := hRs.r60
  have hY := h9.ces.ty
  refine aw_iload_n hC dX11_bind_0 rfl ?_
  refine aw_aload_n hC dX11_bind_1 rfl ?_
  refine aw_getR hC dX11_bind_2 aF_X11_28 rfl (tg_0 hT) (pr_0_2 hR) ?_
  refine aw_getI hC dX11_bind_5 aF_X11_213 rfl (tg_19 hT) ?_
  rw [hgn]
  refine kX11_64 hC rfl (m_X11_isBelow x (nI g)) dX11_bind_8 rfl a_le a_le a_le a_le a_le rfl aPure_x (aPure_k ?_)
  show AW X 0 0 11 [some (.ref 0), some (.int x), some (.int a), some (.int s), none, none] [.int (bI (decide (0 ≤ x ∧ x < (nI g))))] T I J R
  refine aw_if_eq (tgt := 26) hC dX11_bind_11 (by decide) (fun h1 => ?_) (fun h1 => ?_)
  · show AW X 0 0 26 [some (.ref 0), some (.int x), some (.int a), some (.int s), none, none] [] T I J R
    refine aw_iconst (v := 0) hC dX11_bind_26 (by decide) ?_
    exact kX11_68 hC rfl (m_X11_needIndexF (T := T) (I := I) (J := J) (R := R)) dX11_bind_27 rfl a_le a_le a_le a_le a_le rfl (aTh_x (ae_out hC hq a_le a_le (CP.th (j := 0) rfl (Or.inr (Or.inr ⟨fun q => by first | exact absurd q.1 (of_decide_eq_false (bI_e0.mp (by assumption))) | exact absurd (show 0 ≤ a ∧ a < 3 from ⟨q.2.1.1, i_lt3 q.2.1.2⟩) (of_decide_eq_false (bI_e0.mp (by assumption))), rfl, rfl⟩)) h9.gi))) aTh_k
  · show AW X 0 0 14 [some (.ref 0), some (.int x), some (.int a), some (.int s), none, none] [] T I J R
    refine aw_iload_n hC dX11_bind_14 rfl ?_
    refine aw_iconst (v := 3) hC dX11_bind_15 (by decide) ?_
    refine kX11_64 hC rfl (m_X11_isBelow a (3 : Int32)) dX11_bind_16 rfl a_le a_le a_le a_le a_le rfl aPure_x (aPure_k ?_)
    show AW X 0 0 19 [some (.ref 0), some (.int x), some (.int a), some (.int s), none, none] [.int (bI (decide (0 ≤ a ∧ a < (3 : Int32))))] T I J R
    refine aw_if_eq (tgt := 26) hC dX11_bind_19 (by decide) (fun h2 => ?_) (fun h2 => ?_)
    · show AW X 0 0 26 [some (.ref 0), some (.int x), some (.int a), some (.int s), none, none] [] T I J R
      refine aw_iconst (v := 0) hC dX11_bind_26 (by decide) ?_
      exact kX11_68 hC rfl (m_X11_needIndexF (T := T) (I := I) (J := J) (R := R)) dX11_bind_27 rfl a_le a_le a_le a_le a_le rfl (aTh_x (ae_out hC hq a_le a_le (CP.th (j := 0) rfl (Or.inr (Or.inr ⟨fun q => by first | exact absurd q.1 (of_decide_eq_false (bI_e0.mp (by assumption))) | exact absurd (show 0 ≤ a ∧ a < 3 from ⟨q.2.1.1, i_lt3 q.2.1.2⟩) (of_decide_eq_false (bI_e0.mp (by assumption))), rfl, rfl⟩)) h9.gi))) aTh_k
    · show AW X 0 0 22 [some (.ref 0), some (.int x), some (.int a), some (.int s), none, none] [] T I J R
      refine aw_iconst (v := 1) hC dX11_bind_22 (by decide) ?_
      refine aw_goto (tgt := 27) hC dX11_bind_23 (by decide) ?_
      refine kX11_68 hC rfl (m_X11_needIndexT (T := T) (I := I) (J := J) (R := R) (x := 1) (by decide)) dX11_bind_27 rfl a_le a_le a_le a_le a_le rfl aPure_x (aPure_k ?_)
      show AW X 0 0 30 [some (.ref 0), some (.int x), some (.int a), some (.int s), none, none] [] T I J R
      have hfcx : 0 ≤ x ∧ x < nI (g) := of_decide_eq_true (bI_n0.mp (by assumption))
      obtain ⟨x1, hx1, ex1⟩ := i_nat (x := x) (b := g) hfcx.1 hfcx.2 rfl (by first | decide | omega)
      subst ex1
      have hfca : 0 ≤ a ∧ a < 3 := of_decide_eq_true (bI_n0.mp (by assumption))
      obtain ⟨a1, ha1, ea1⟩ := i_nat (x := a) (b := 3) hfca.1 hfca.2 rfl (by first | decide | omega)
      subst ea1
      have hty1 := (hg.ty x1 (by omega)).2
      show AW X 0 0 30 [some (.ref 0), some (.int (nI x1)), some (.int (nI a1)), some (.int s), none, none] [] T I J R
      refine aw_iload_n hC dX11_bind_30 rfl ?_
      refine aw_iconst (v := (-1)) hC dX11_bind_31 (by decide) ?_
      refine aw_bipush (v := 10) hC dX11_bind_32 (by decide) ?_
      refine aw_iconst (v := 3) hC dX11_bind_34 (by decide) ?_
      refine aw_iload_n hC dX11_bind_35 rfl ?_
      refine aw_imul hC dX11_bind_36 ?_
      rw [show 3 * (nI x1) = nI (3 * x1) from pk_mul 3 x1]
      refine aw_iadd hC dX11_bind_37 ?_
      rw [show 10 + (nI (3 * x1)) = nI (10 + (3 * x1)) from nI_add 10 (3 * x1)]
      refine aw_iconst (v := 1) hC dX11_bind_38 (by decide) ?_
      refine aw_isub hC dX11_bind_39 ?_
      rw [show (nI (10 + (3 * x1))) - 1 = nI ((10 + (3 * x1)) - 1) from pk_sub (a := (10 + (3 * x1))) (b := 1) (by omega)]
      refine kX11_126 hC rfl (m_X11_isWithin s ((-1) : Int32) (nI ((10 + (3 * x1)) - 1))) dX11_bind_40 rfl a_le a_le a_le a_le a_le rfl aPure_x (aPure_k ?_)
      show AW X 0 0 43 [some (.ref 0), some (.int (nI x1)), some (.int (nI a1)), some (.int s), none, none] [.int (bI (decide (((-1) : Int32) ≤ s ∧ s ≤ (nI ((10 + (3 * x1)) - 1)))))] T I J R
      by_cases hn3 : bI (decide (((-1) : Int32) ≤ s ∧ s ≤ (nI ((10 + (3 * x1)) - 1)))) = 0
      · rw [hn3]
        exact kX11_68 hC rfl (m_X11_needIndexF (T := T) (I := I) (J := J) (R := R)) dX11_bind_43 rfl a_le a_le a_le a_le a_le rfl (aTh_x (ae_out hC hq a_le a_le (CP.th (j := 0) rfl (Or.inr (Or.inr ⟨fun q => absurd (show -1 ≤ s ∧ s ≤ nI (10 + 3 * x1 - 1) from by have q9 := q.2.2; rw [nI_clamp (show x1 < 2 ^ 31 by omega)] at q9; exact q9) (of_decide_eq_false (bI_e0.mp (by assumption))), rfl, rfl⟩)) h9.gi))) aTh_k
      · refine kX11_68 hC rfl (m_X11_needIndexT (T := T) (I := I) (J := J) (R := R) (x := bI (decide (((-1) : Int32) ≤ s ∧ s ≤ (nI ((10 + (3 * x1)) - 1))))) hn3) dX11_bind_43 rfl a_le a_le a_le a_le a_le rfl aPure_x (aPure_k ?_)
        show AW X 0 0 46 [some (.ref 0), some (.int (nI x1)), some (.int (nI a1)), some (.int s), none, none] [] T I J R
        have hsr : -1 ≤ s ∧ s ≤ nI (10 + 3 * x1 - 1) := of_decide_eq_true (bI_n0.mp (by assumption))
        rcases bnd_s (by omega) hsr.1 hsr.2 with es | ⟨s1, hs1, es⟩
        · subst es
          show AW X 0 0 46 [some (.ref 0), some (.int (nI x1)), some (.int (nI a1)), some (.int (-1)), none, none] [] T I J R
          refine aw_aload_n hC dX11_bind_46 rfl ?_
          refine aw_getR hC dX11_bind_47 aF_X11_28 rfl (tg_0 hT) (pr_0_2 hR) ?_
          refine aw_iload_n hC dX11_bind_50 rfl ?_
          refine kX11_238 hC rfl (m_X4_typeOfGenerator (I := I) hT hR hG hg (i := x1) (by omega)) dX11_bind_51 (tg_19 hT) rfl a_le a_le a_le a_le a_le rfl aPure_x (aPure_k ?_)
          show AW X 0 0 54 [some (.ref 0), some (.int (nI x1)), some (.int (nI a1)), some (.int (-1)), none, none] [.ref (27 + 2 * (iN m 62 x1))] T I J R
          refine aw_iload_n hC dX11_bind_54 rfl ?_
          refine aw_iconst (v := 2) hC dX11_bind_55 (by decide) ?_
          refine kX11_242 hC rfl (m_X9_is (I := I) hT hR hY (t := (iN m 62 x1)) (a := a1) (by omega) (by omega) (2 : Int32)) dX11_bind_56 (ty_tg hT (by omega)) rfl a_le a_le a_le a_le a_le rfl aPure_x (aPure_k ?_)
          show AW X 0 0 59 [some (.ref 0), some (.int (nI x1)), some (.int (nI a1)), some (.int (-1)), none, none] [.int (bI (decide (m 58 (3 * (iN m 62 x1) + a1) &&& (2 : Int32) ≠ 0)))] T I J R
          refine aw_if_ne (tgt := 66) hC dX11_bind_59 (by decide) (fun h4 => ?_) (fun h4 => ?_)
          · show AW X 0 0 66 [some (.ref 0), some (.int (nI x1)), some (.int (nI a1)), some (.int (-1)), none, none] [] T I J R
            refine aw_iconst (v := 0) hC dX11_bind_66 (by decide) ?_
            exact kX11_88 hC rfl (m_X11_needStateF (T := T) (I := I) (J := J) (R := R)) dX11_bind_67 rfl a_le a_le a_le a_le a_le rfl (aTh_x (ae_out hC hq a_le a_le (CP.th (j := 1) rfl (Or.inr (Or.inl ⟨⟨⟨hfcx, ⟨hfca.1, i_le2 hfca.2⟩, by rw [nI_clamp (show x1 < 2 ^ 31 by omega)]; exact hsr⟩, by rw [nI_clamp (show x1 < 2 ^ 31 by omega)]; rw [nI_clamp (show a1 < 2 ^ 31 by omega)]; exact fun q => absurd q.1 (bI_dn.mp (by assumption))⟩, rfl, rfl⟩)) h9.gi))) aTh_k
          · show AW X 0 0 62 [some (.ref 0), some (.int (nI x1)), some (.int (nI a1)), some (.int (-1)), none, none] [] T I J R
            refine aw_iconst (v := 1) hC dX11_bind_62 (by decide) ?_
            refine aw_goto (tgt := 67) hC dX11_bind_63 (by decide) ?_
            refine kX11_88 hC rfl (m_X11_needStateT (T := T) (I := I) (J := J) (R := R) (x := 1) (by decide)) dX11_bind_67 rfl a_le a_le a_le a_le a_le rfl aPure_x (aPure_k ?_)
            show AW X 0 0 70 [some (.ref 0), some (.int (nI x1)), some (.int (nI a1)), some (.int (-1)), none, none] [] T I J R
            refine aw_iload_n hC dX11_bind_70 rfl ?_
            refine aw_bipush (v := 10) hC dX11_bind_71 (by decide) ?_
            refine aw_icmp_lt (tgt := 87) hC dX11_bind_73 (by decide) (fun _ => ?_) (fun h5 => absurd h5 (by decide))
            show AW X 0 0 87 [some (.ref 0), some (.int (nI x1)), some (.int (nI a1)), some (.int (-1)), none, none] [] T I J R
            refine aw_iconst (v := 1) hC dX11_bind_87 (by decide) ?_
            refine aw_goto (tgt := 92) hC dX11_bind_88 (by decide) ?_
            refine kX11_88 hC rfl (m_X11_needStateT (T := T) (I := I) (J := J) (R := R) (x := 1) (by decide)) dX11_bind_92 rfl a_le a_le a_le a_le a_le rfl aPure_x (aPure_k ?_)
            show AW X 0 0 95 [some (.ref 0), some (.int (nI x1)), some (.int (nI a1)), some (.int (-1)), none, none] [] T I J R
            refine aw_aload_n hC dX11_bind_95 rfl ?_
            refine aw_getR hC dX11_bind_96 aF_X11_28 rfl (tg_0 hT) (pr_0_2 hR) ?_
            refine aw_getR hC dX11_bind_99 aF_X11_219 rfl (tg_19 hT) (pr_19_1 hR) ?_
            refine aw_iload_n hC dX11_bind_102 rfl ?_
            refine aw_aaloadR_k (j := x1) hC dX11_bind_103 (tg_21 hT) (nI_clamp (by omega)) (vp_in_nI (by omega) (by decide)) (hG.rf hx1) ?_
            refine aw_astore (L2 := [some (.ref 0), some (.int (nI x1)), some (.int (nI a1)), some (.int (-1)), some (.ref (gq x1)), none]) hC dX11_bind_104 (by decide) rfl ?_
            refine aw_aload hC dX11_bind_106 rfl ?_
            refine aw_getR hC dX11_bind_108 aF_X11_248 rfl (hG.tg hx1) (hG.r3 hx1) ?_
            refine aw_iload_n hC dX11_bind_111 rfl ?_
            refine aw_iaload_k (j := a1) hC dX11_bind_112 (hG.t2 hx1) (nI_clamp (by omega)) (vp_in_nI (by omega) (by decide)) ?_
            rw [(hG.sr hx1 ha1)]
            refine aw_istore (L2 := [some (.ref 0), some (.int (nI x1)), some (.int (nI a1)), some (.int (-1)), some (.ref (gq x1)), some (.int (m 65 (3 * x1 + a1)))]) hC dX11_bind_113 (by decide) rfl ?_
            refine aw_aload hC dX11_bind_115 rfl ?_
            refine aw_getR hC dX11_bind_117 aF_X11_248 rfl (hG.tg hx1) (hG.r3 hx1) ?_
            refine aw_iload_n hC dX11_bind_120 rfl ?_
            refine aw_iload_n hC dX11_bind_121 rfl ?_
            refine aw_iastore_k (j := a1) hC dX11_bind_122 (hG.t2 hx1) (nI_clamp (by omega)) (vp_in_nI (by omega) (by decide)) ?_
            refine aw_iload hC dX11_bind_123 rfl ?_
            exact aw_ireturn hC hq rfl dX11_bind_125 a_le a_le (CP.ok (Or.inl ⟨⟨⟨hfcx, ⟨hfca.1, i_le2 hfca.2⟩, by rw [nI_clamp (show x1 < 2 ^ 31 by omega)]; exact hsr⟩, by rw [nI_clamp (show x1 < 2 ^ 31 by omega)]; rw [nI_clamp (show a1 < 2 ^ 31 by omega)]; exact ⟨Classical.not_not.mp (bI_d0.mp (by assumption)), Or.inl (by decide)⟩⟩, rfl, by rw [nI_clamp (show x1 < 2 ^ 31 by omega)]; rw [nI_clamp (show a1 < 2 ^ 31 by omega)], by rw [nI_clamp (show x1 < 2 ^ 31 by omega)]; rw [nI_clamp (show a1 < 2 ^ 31 by omega)]⟩) (fun o u v => ⟨by have := hG.ge hT hx1; exact a_u_row (by omega), rfl⟩) (h9.est (S := fun o => o = gq x1 + 2) (List.prefix_refl _) (fun o _ _ z => a_u_row z) (fun _ _ _ _ => rfl) (fun o z => Or.inr ⟨by have := hG.ge hT hx1; omega, ⟨gq x1, 2, by decide, z, hG.tg hx1, fun _ => ⟨_, hG.t1 hx1⟩, fun _ => ⟨_, hG.t2 hx1⟩⟩⟩) h9.hR (h9.ces.bnd hT hx1 ha1) (h9.es.bnd hx1 ha1 (Or.inl rfl) (Classical.not_not.mp (bI_d0.mp (by assumption)))) (Nat.le_refl _) (Nat.le_refl _) (fun o z => a_u_row (by omega)) (fun k _ _ _ => by rw [a_u_row (by decide)]) (fun _ x _ z => by rw [a_u_row (by decide)]; exact z)).gi)
        · subst es
          show AW X 0 0 46 [some (.ref 0), some (.int (nI x1)), some (.int (nI a1)), some (.int (nI s1)), none, none] [] T I J R
          refine aw_aload_n hC dX11_bind_46 rfl ?_
          refine aw_getR hC dX11_bind_47 aF_X11_28 rfl (tg_0 hT) (pr_0_2 hR) ?_
          refine aw_iload_n hC dX11_bind_50 rfl ?_
          refine kX11_238 hC rfl (m_X4_typeOfGenerator (I := I) hT hR hG hg (i := x1) (by omega)) dX11_bind_51 (tg_19 hT) rfl a_le a_le a_le a_le a_le rfl aPure_x (aPure_k ?_)
          show AW X 0 0 54 [some (.ref 0), some (.int (nI x1)), some (.int (nI a1)), some (.int (nI s1)), none, none] [.ref (27 + 2 * (iN m 62 x1))] T I J R
          refine aw_iload_n hC dX11_bind_54 rfl ?_
          refine aw_iconst (v := 2) hC dX11_bind_55 (by decide) ?_
          refine kX11_242 hC rfl (m_X9_is (I := I) hT hR hY (t := (iN m 62 x1)) (a := a1) (by omega) (by omega) (2 : Int32)) dX11_bind_56 (ty_tg hT (by omega)) rfl a_le a_le a_le a_le a_le rfl aPure_x (aPure_k ?_)
          show AW X 0 0 59 [some (.ref 0), some (.int (nI x1)), some (.int (nI a1)), some (.int (nI s1)), none, none] [.int (bI (decide (m 58 (3 * (iN m 62 x1) + a1) &&& (2 : Int32) ≠ 0)))] T I J R
          refine aw_if_ne (tgt := 66) hC dX11_bind_59 (by decide) (fun h6 => ?_) (fun h6 => ?_)
          · show AW X 0 0 66 [some (.ref 0), some (.int (nI x1)), some (.int (nI a1)), some (.int (nI s1)), none, none] [] T I J R
            refine aw_iconst (v := 0) hC dX11_bind_66 (by decide) ?_
            exact kX11_88 hC rfl (m_X11_needStateF (T := T) (I := I) (J := J) (R := R)) dX11_bind_67 rfl a_le a_le a_le a_le a_le rfl (aTh_x (ae_out hC hq a_le a_le (CP.th (j := 1) rfl (Or.inr (Or.inl ⟨⟨⟨hfcx, ⟨hfca.1, i_le2 hfca.2⟩, by rw [nI_clamp (show x1 < 2 ^ 31 by omega)]; exact hsr⟩, by rw [nI_clamp (show x1 < 2 ^ 31 by omega)]; rw [nI_clamp (show a1 < 2 ^ 31 by omega)]; exact fun q => absurd q.1 (bI_dn.mp (by assumption))⟩, rfl, rfl⟩)) h9.gi))) aTh_k
          · show AW X 0 0 62 [some (.ref 0), some (.int (nI x1)), some (.int (nI a1)), some (.int (nI s1)), none, none] [] T I J R
            refine aw_iconst (v := 1) hC dX11_bind_62 (by decide) ?_
            refine aw_goto (tgt := 67) hC dX11_bind_63 (by decide) ?_
            refine kX11_88 hC rfl (m_X11_needStateT (T := T) (I := I) (J := J) (R := R) (x := 1) (by decide)) dX11_bind_67 rfl a_le a_le a_le a_le a_le rfl aPure_x (aPure_k ?_)
            show AW X 0 0 70 [some (.ref 0), some (.int (nI x1)), some (.int (nI a1)), some (.int (nI s1)), none, none] [] T I J R
            refine aw_iload_n hC dX11_bind_70 rfl ?_
            refine aw_bipush (v := 10) hC dX11_bind_71 (by decide) ?_
            refine aw_icmp_lt (tgt := 87) hC dX11_bind_73 (by decide) (fun h7 => ?_) (fun h7 => ?_)
            · show AW X 0 0 87 [some (.ref 0), some (.int (nI x1)), some (.int (nI a1)), some (.int (nI s1)), none, none] [] T I J R
              have h7n : s1 < 10 := (nI_ltI (a := s1) (b := 10) (by omega) (by omega)).mp h7
              refine aw_iconst (v := 1) hC dX11_bind_87 (by decide) ?_
              refine aw_goto (tgt := 92) hC dX11_bind_88 (by decide) ?_
              refine kX11_88 hC rfl (m_X11_needStateT (T := T) (I := I) (J := J) (R := R) (x := 1) (by decide)) dX11_bind_92 rfl a_le a_le a_le a_le a_le rfl aPure_x (aPure_k ?_)
              show AW X 0 0 95 [some (.ref 0), some (.int (nI x1)), some (.int (nI a1)), some (.int (nI s1)), none, none] [] T I J R
              refine aw_aload_n hC dX11_bind_95 rfl ?_
              refine aw_getR hC dX11_bind_96 aF_X11_28 rfl (tg_0 hT) (pr_0_2 hR) ?_
              refine aw_getR hC dX11_bind_99 aF_X11_219 rfl (tg_19 hT) (pr_19_1 hR) ?_
              refine aw_iload_n hC dX11_bind_102 rfl ?_
              refine aw_aaloadR_k (j := x1) hC dX11_bind_103 (tg_21 hT) (nI_clamp (by omega)) (vp_in_nI (by omega) (by decide)) (hG.rf hx1) ?_
              refine aw_astore (L2 := [some (.ref 0), some (.int (nI x1)), some (.int (nI a1)), some (.int (nI s1)), some (.ref (gq x1)), none]) hC dX11_bind_104 (by decide) rfl ?_
              refine aw_aload hC dX11_bind_106 rfl ?_
              refine aw_getR hC dX11_bind_108 aF_X11_248 rfl (hG.tg hx1) (hG.r3 hx1) ?_
              refine aw_iload_n hC dX11_bind_111 rfl ?_
              refine aw_iaload_k (j := a1) hC dX11_bind_112 (hG.t2 hx1) (nI_clamp (by omega)) (vp_in_nI (by omega) (by decide)) ?_
              rw [(hG.sr hx1 ha1)]
              refine aw_istore (L2 := [some (.ref 0), some (.int (nI x1)), some (.int (nI a1)), some (.int (nI s1)), some (.ref (gq x1)), some (.int (m 65 (3 * x1 + a1)))]) hC dX11_bind_113 (by decide) rfl ?_
              refine aw_aload hC dX11_bind_115 rfl ?_
              refine aw_getR hC dX11_bind_117 aF_X11_248 rfl (hG.tg hx1) (hG.r3 hx1) ?_
              refine aw_iload_n hC dX11_bind_120 rfl ?_
              refine aw_iload_n hC dX11_bind_121 rfl ?_
              refine aw_iastore_k (j := a1) hC dX11_bind_122 (hG.t2 hx1) (nI_clamp (by omega)) (vp_in_nI (by omega) (by decide)) ?_
              refine aw_iload hC dX11_bind_123 rfl ?_
              exact aw_ireturn hC hq rfl dX11_bind_125 a_le a_le (by have hbs : (nI s1 < 10 ∨ m 58 (3 * iN m 62 (((nI s1).toNatClampNeg - 10) / 3) + ((nI s1).toNatClampNeg - 10) % 3) &&& 2 ≠ 0) := (by first | exact Or.inl ((nI_ltI (a := s1) (b := 10) (by omega) (by omega)).mpr (by omega)) | (rw [nI_clamp (show s1 < 2 ^ 31 by omega)]; exact Or.inr (bI_dn.mp (by assumption)))); exact CP.ok (Or.inl ⟨⟨⟨hfcx, ⟨hfca.1, i_le2 hfca.2⟩, by rw [nI_clamp (show x1 < 2 ^ 31 by omega)]; exact hsr⟩, by rw [nI_clamp (show x1 < 2 ^ 31 by omega)]; rw [nI_clamp (show a1 < 2 ^ 31 by omega)]; exact ⟨Classical.not_not.mp (bI_d0.mp (by assumption)), hbs⟩⟩, rfl, by rw [nI_clamp (show x1 < 2 ^ 31 by omega)]; rw [nI_clamp (show a1 < 2 ^ 31 by omega)], by rw [nI_clamp (show x1 < 2 ^ 31 by omega)]; rw [nI_clamp (show a1 < 2 ^ 31 by omega)]⟩) (fun o u v => ⟨by have := hG.ge hT hx1; exact a_u_row (by omega), rfl⟩) (h9.est (S := fun o => o = gq x1 + 2) (List.prefix_refl _) (fun o _ _ z => a_u_row z) (fun _ _ _ _ => rfl) (fun o z => Or.inr ⟨by have := hG.ge hT hx1; omega, ⟨gq x1, 2, by decide, z, hG.tg hx1, fun _ => ⟨_, hG.t1 hx1⟩, fun _ => ⟨_, hG.t2 hx1⟩⟩⟩) h9.hR (h9.ces.bnd hT hx1 ha1) (h9.es.bnd hx1 ha1 (Or.inr ⟨s1, rfl, by omega, fun w => ⟨by omega, hbs.elim (fun z => absurd ((nI_ltI (a := s1) (b := 10) (by omega) (by omega)).mp z) (by omega)) (fun z => by rw [nI_clamp (show s1 < 2 ^ 31 by omega)] at z; exact z)⟩⟩) (Classical.not_not.mp (bI_d0.mp (by assumption)))) (Nat.le_refl _) (Nat.le_refl _) (fun o z => a_u_row (by omega)) (fun k _ _ _ => by rw [a_u_row (by decide)]) (fun _ x _ z => by rw [a_u_row (by decide)]; exact z)).gi)
            · show AW X 0 0 76 [some (.ref 0), some (.int (nI x1)), some (.int (nI a1)), some (.int (nI s1)), none, none] [] T I J R
              have h7n : ¬ s1 < 10 := fun q9 => h7 ((nI_ltI (a := s1) (b := 10) (by omega) (by omega)).mpr q9)
              refine aw_aload_n hC dX11_bind_76 rfl ?_
              refine aw_getR hC dX11_bind_77 aF_X11_28 rfl (tg_0 hT) (pr_0_2 hR) ?_
              refine aw_iload_n hC dX11_bind_80 rfl ?_
              refine kX11_245 hC rfl (m_X4_isComputedSource (I := I) hT hR hG hg hY (s := s1) (by omega) (by omega) (by omega)) dX11_bind_81 (tg_19 hT) rfl a_le a_le a_le a_le a_le rfl aPure_x (aPure_k ?_)
              show AW X 0 0 84 [some (.ref 0), some (.int (nI x1)), some (.int (nI a1)), some (.int (nI s1)), none, none] [.int (bI (decide (m 58 (3 * iN m 62 ((s1 - 10) / 3) + (s1 - 10) % 3) &&& 2 ≠ 0)))] T I J R
              refine aw_if_eq (tgt := 91) hC dX11_bind_84 (by decide) (fun h8 => ?_) (fun h8 => ?_)
              · show AW X 0 0 91 [some (.ref 0), some (.int (nI x1)), some (.int (nI a1)), some (.int (nI s1)), none, none] [] T I J R
                refine aw_iconst (v := 0) hC dX11_bind_91 (by decide) ?_
                exact kX11_88 hC rfl (m_X11_needStateF (T := T) (I := I) (J := J) (R := R)) dX11_bind_92 rfl a_le a_le a_le a_le a_le rfl (aTh_x (ae_out hC hq a_le a_le (CP.th (j := 1) rfl (Or.inr (Or.inl ⟨⟨⟨hfcx, ⟨hfca.1, i_le2 hfca.2⟩, by rw [nI_clamp (show x1 < 2 ^ 31 by omega)]; exact hsr⟩, by rw [nI_clamp (show x1 < 2 ^ 31 by omega)]; rw [nI_clamp (show a1 < 2 ^ 31 by omega)]; exact fun q => q.2.elim (fun z => absurd ((nI_ltI (a := s1) (b := 10) (by omega) (by omega)).mp z) (by omega)) (fun z => by rw [nI_clamp (show s1 < 2 ^ 31 by omega)] at z; exact absurd z (bI_d0.mp (by assumption)))⟩, rfl, rfl⟩)) h9.gi))) aTh_k
              · show AW X 0 0 87 [some (.ref 0), some (.int (nI x1)), some (.int (nI a1)), some (.int (nI s1)), none, none] [] T I J R
                refine aw_iconst (v := 1) hC dX11_bind_87 (by decide) ?_
                refine aw_goto (tgt := 92) hC dX11_bind_88 (by decide) ?_
                refine kX11_88 hC rfl (m_X11_needStateT (T := T) (I := I) (J := J) (R := R) (x := 1) (by decide)) dX11_bind_92 rfl a_le a_le a_le a_le a_le rfl aPure_x (aPure_k ?_)
                show AW X 0 0 95 [some (.ref 0), some (.int (nI x1)), some (.int (nI a1)), some (.int (nI s1)), none, none] [] T I J R
                refine aw_aload_n hC dX11_bind_95 rfl ?_
                refine aw_getR hC dX11_bind_96 aF_X11_28 rfl (tg_0 hT) (pr_0_2 hR) ?_
                refine aw_getR hC dX11_bind_99 aF_X11_219 rfl (tg_19 hT) (pr_19_1 hR) ?_
                refine aw_iload_n hC dX11_bind_102 rfl ?_
                refine aw_aaloadR_k (j := x1) hC dX11_bind_103 (tg_21 hT) (nI_clamp (by omega)) (vp_in_nI (by omega) (by decide)) (hG.rf hx1) ?_
                refine aw_astore (L2 := [some (.ref 0), some (.int (nI x1)), some (.int (nI a1)), some (.int (nI s1)), some (.ref (gq x1)), none]) hC dX11_bind_104 (by decide) rfl ?_
                refine aw_aload hC dX11_bind_106 rfl ?_
                refine aw_getR hC dX11_bind_108 aF_X11_248 rfl (hG.tg hx1) (hG.r3 hx1) ?_
                refine aw_iload_n hC dX11_bind_111 rfl ?_
                refine aw_iaload_k (j := a1) hC dX11_bind_112 (hG.t2 hx1) (nI_clamp (by omega)) (vp_in_nI (by omega) (by decide)) ?_
                rw [(hG.sr hx1 ha1)]
                refine aw_istore (L2 := [some (.ref 0), some (.int (nI x1)), some (.int (nI a1)), some (.int (nI s1)), some (.ref (gq x1)), some (.int (m 65 (3 * x1 + a1)))]) hC dX11_bind_113 (by decide) rfl ?_
                refine aw_aload hC dX11_bind_115 rfl ?_
                refine aw_getR hC dX11_bind_117 aF_X11_248 rfl (hG.tg hx1) (hG.r3 hx1) ?_
                refine aw_iload_n hC dX11_bind_120 rfl ?_
                refine aw_iload_n hC dX11_bind_121 rfl ?_
                refine aw_iastore_k (j := a1) hC dX11_bind_122 (hG.t2 hx1) (nI_clamp (by omega)) (vp_in_nI (by omega) (by decide)) ?_
                refine aw_iload hC dX11_bind_123 rfl ?_
                exact aw_ireturn hC hq rfl dX11_bind_125 a_le a_le (by have hbs : (nI s1 < 10 ∨ m 58 (3 * iN m 62 (((nI s1).toNatClampNeg - 10) / 3) + ((nI s1).toNatClampNeg - 10) % 3) &&& 2 ≠ 0) := (by first | exact Or.inl ((nI_ltI (a := s1) (b := 10) (by omega) (by omega)).mpr (by omega)) | (rw [nI_clamp (show s1 < 2 ^ 31 by omega)]; exact Or.inr (bI_dn.mp (by assumption)))); exact CP.ok (Or.inl ⟨⟨⟨hfcx, ⟨hfca.1, i_le2 hfca.2⟩, by rw [nI_clamp (show x1 < 2 ^ 31 by omega)]; exact hsr⟩, by rw [nI_clamp (show x1 < 2 ^ 31 by omega)]; rw [nI_clamp (show a1 < 2 ^ 31 by omega)]; exact ⟨Classical.not_not.mp (bI_d0.mp (by assumption)), hbs⟩⟩, rfl, by rw [nI_clamp (show x1 < 2 ^ 31 by omega)]; rw [nI_clamp (show a1 < 2 ^ 31 by omega)], by rw [nI_clamp (show x1 < 2 ^ 31 by omega)]; rw [nI_clamp (show a1 < 2 ^ 31 by omega)]⟩) (fun o u v => ⟨by have := hG.ge hT hx1; exact a_u_row (by omega), rfl⟩) (h9.est (S := fun o => o = gq x1 + 2) (List.prefix_refl _) (fun o _ _ z => a_u_row z) (fun _ _ _ _ => rfl) (fun o z => Or.inr ⟨by have := hG.ge hT hx1; omega, ⟨gq x1, 2, by decide, z, hG.tg hx1, fun _ => ⟨_, hG.t1 hx1⟩, fun _ => ⟨_, hG.t2 hx1⟩⟩⟩) h9.hR (h9.ces.bnd hT hx1 ha1) (h9.es.bnd hx1 ha1 (Or.inr ⟨s1, rfl, by omega, fun w => ⟨by omega, hbs.elim (fun z => absurd ((nI_ltI (a := s1) (b := 10) (by omega) (by omega)).mp z) (by omega)) (fun z => by rw [nI_clamp (show s1 < 2 ^ 31 by omega)] at z; exact z)⟩⟩) (Classical.not_not.mp (bI_d0.mp (by assumption)))) (Nat.le_refl _) (Nat.le_refl _) (fun o z => a_u_row (by omega)) (fun k _ _ _ => by rw [a_u_row (by decide)]) (fun _ x _ z => by rw [a_u_row (by decide)]; exact z)).gi)
