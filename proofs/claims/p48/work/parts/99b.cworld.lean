/-! WHEN THE ESTATE CHANGES -/
theorem InvS.cgm {m m2 : aI} {g : Nat} (h : InvS m g) (h58 : m2 58 = m 58) (h62 : m2 62 = m 62) (h65 : m2 65 = m 65) (h69 : m2 69 = m 69) (h70 : m2 70 = m 70) : InvS m2 g := by
  unfold InvS iN at *; rw [h58, h62, h65, h69, h70]; exact h
theorem m74_cg {m m2 : aI} {r r2 : Nat} (h : ∀ x, x < 64 → m 74 x = nI (iN m 74 x) ∧ iN m 74 x ≤ r) (e : m2 74 = m 74) (hr : r ≤ r2) : ∀ x, x < 64 → m2 74 x = nI (iN m2 74 x) ∧ iN m2 74 x ≤ r2 := fun x hx => by
  have q := h x hx
  unfold iN at *
  rw [e]; exact ⟨q.1, by omega⟩
theorem m69_cg {m m2 : aI} {r r2 : Nat} (h : ∀ x, x < 64 → m 69 x ≠ 0 → iN m 69 x ≤ r) (e : m2 69 = m 69) (hr : r ≤ r2) : ∀ x, x < 64 → m2 69 x ≠ 0 → iN m2 69 x ≤ r2 := fun x hx h0 => by
  rw [e] at h0
  have q := h x hx h0
  unfold iN at *
  rw [e]; omega
theorem G9.est {T T2 : List aT} {I I2 : aI} {J : aJ} {R R2 : aR} {m m2 : aI} {c n : Nat} {sq : Nat → Nat} {g g2 : Nat} {gq eq gq2 eq2 : Nat → Nat} {r r2 p : Nat} {pq : Nat → Nat} {k : Nat} (h : G9 T I J R m c n sq g gq eq r p pq k) (hp : T <+: T2) {S : Nat → Prop} (hI : FrI T S I I2) (hR : FrR T S R R2) (hS : ∀ o, S o → (19 ≤ o ∧ o ≤ 37) ∨ (44 ≤ o ∧ (∃ q a, a < 3 ∧ o = q + a ∧ T[q]? = some (.inr 5) ∧ (1 ≤ a → ∃ t, T[q + 1]? = some (.inl t)) ∧ (2 ≤ a → ∃ t, T[q + 2]? = some (.inl t))))) (hR2 : aPR R2) (ces : CEst T2 I2 R2 m2 g2 gq2 eq2 r2) (mes : MEs m2 g2 r2) (hg : g ≤ g2) (hr : r ≤ r2) (hm : ∀ o, (45 ≤ o ∧ o ≤ 57) ∨ (75 ≤ o ∧ o ≤ 82) → m2 o = m o) (h4 : ∀ k, k ≠ 20 → k ≠ 25 → k ≠ 35 → m2 44 k = m 44 k) (h69 : 0 ≤ m 44 43 → ∀ x, x < 16 * g → m 69 x ≠ 0 → m2 69 x ≠ 0) : G9 T2 I2 J R2 m2 c n sq g2 gq2 eq2 r2 p pq k := by
  have hT := h.hT
  have h95 := hT.len
  obtain ⟨q1, q2, q3⟩ := h.rest (J2 := J) hp hI (fun _ _ => rfl) hR (fun o z => (hS o z).imp (fun w => ⟨w.1, by omega⟩) id)
  have nS : ∀ o, 38 ≤ o → o ≤ 40 → ¬ S o := fun o u v z => by
    rcases hS o z with w | w
    · omega
    · have := w.1; omega
  have i38 : ∀ o, 38 ≤ o → o ≤ 40 → I2 o = I o := fun o u v => hI o (by omega) (enO_lo hT (by omega)) (nS o u v)
  have r38 : R2 38 = R 38 := hR 38 (by omega) (enO_lo hT (by omega)) (nS 38 (by decide) (by decide))
  have e4 : ∀ k, k = 0 ∨ k = 13 ∨ k = 14 ∨ k = 36 ∨ k = 43 ∨ k = 44 ∨ k = 45 → m2 44 k = m 44 k := fun k hk => h4 k (by omega) (by omega) (by omega)
  have e79 := hm 79 (by decide)
  have e80 := hm 80 (by decide)
  have e81 := hm 81 (by decide)
  have e82 := hm 82 (by decide)
  refine ⟨hT.next hp, hR2, ⟨MBk_cg h.bk (fun o u v => hm o (by omega)) (e4 0 (by decide)), mes, ?_, MPo_cg h.po (hm 57 (by decide)) (e4 14 (by decide)), ?_⟩, q1.cgm ⟨fun o u => hm o (by omega), e4 0 (by decide), e4 13 (by decide)⟩, ?_, ces, q3.cgm (fun o u v => hm o (by omega)), h.cpi, (h.cap.fr i38 r38).cgm e81 e82 (fun k hk => e4 k (by omega))⟩
  · have q := h.pl
    refine ⟨(e4 36 (by decide)).trans q.1, q.2.1, fun i hi => ?_, ⟨NR_cg e79 q.2.2.2.1.1, by rw [hm 77 (by decide), hm 78 (by decide)]; exact q.2.2.2.1.2⟩, ?_⟩
    · have w := PlOK_cg e79 e80 (q.2.2.1 i hi)
      exact ⟨w.1, fun k hk => ⟨by have := (w.2.1 k hk).1; omega, (w.2.1 k hk).2⟩, w.2.2⟩
    · have w := q.2.2.2.2
      refine ⟨?_, fun y hy => ?_, by rw [e4 45 (by decide)]; exact w.2.2.1, ?_⟩
      · have w1 := w.1; unfold B01 at *; rw [e81]; exact w1
      · have w2 := w.2.1 y hy; unfold iN at *; rw [e82]; exact ⟨w2.1, by omega⟩
      · rw [e4 43 (by decide), e4 44 (by decide), e4 45 (by decide)]
        rcases w.2.2.2 with e | ⟨i, a, z1, z2, z3, z4, z5, z6⟩
        · exact Or.inl e
        · have en : iN m2 79 i = iN m 79 i := by unfold iN; rw [e79]
          refine Or.inr ⟨i, a, z1, z2, z3, by rw [en]; exact z4, z5, fun k u v => ?_⟩
          rw [en] at v
          have t := z6 k u v
          have eW : acW m2 i k = acW m i k := by unfold acW iN; rw [e80]
          have eN : acN m2 i k = acN m i k := by unfold acN iN; rw [e80]
          rw [eW, eN, e82]
          exact ⟨fun z => h69 (by rw [z1]; exact nI_pos' (by have := q.2.1; omega)) _ ((q.2.2.1 i z2).2.1 k v).1 (t.1 z), t.2⟩
  · obtain ⟨d, d1, d2⟩ := h.dy
    exact ⟨d, (e4 13 (by decide)).trans d1, d2⟩
  · unfold CPo iN at *; rw [hm 57 (by decide)]; exact q2
theorem CEst.chg {T : List aT} {I : aI} {R : aR} {m : aI} {g r0 j : Nat} {v : Int32} {gq eq : Nat → Nat} (h : CEst T I R m g gq eq r0) (hT : aPT T) : CEst T (a_u I 23 j v) R (a_u m 67 j v) g gq eq r0 := by
  refine ⟨(h.gn.fr hT (fun o ho => a_u_row (by omega)) (by rw [a_u_row (by decide)])).cgm (a_u_row (by decide)) (a_u_row (by decide)) (a_u_row (by decide)) (a_u_row (by decide)), (h.ty.fr (fun o _ _ => a_u_row (by omega))).cgm (a_u_row (by decide)) (a_u_row (by decide)) (a_u_row (by decide)) (a_u_row (by decide)), ?_, (h.en.fr hT (fun o ho => a_u_row (by omega))).cgm (a_u_row (by decide)) (a_u_row (by decide)) (a_u_row (by decide)) (a_u_row (by decide)) (a_u_row (by decide)), by rw [a_u_row (by decide), a_u_row (by decide)]; exact h.sr, fun x hx => by rw [a_u_row (by decide), a_u_row (by decide)]; exact h.md hx⟩
  obtain ⟨q1, q2, q3, q4, q5⟩ := h.rs
  refine ⟨by rw [a_u_row (by decide)]; exact q1, by rw [a_u_row (by decide)]; exact q2, q3, fun i hi => ⟨by rw [a_u_row (by decide), a_u_row (by decide)]; exact (q4 i hi).1, by rw [a_u_row (by decide), a_u_row (by decide)]; exact (q4 i hi).2.1, fun hg a ha => ?_⟩, fun i u v => by rw [a_u_row (by decide)]; exact q5 i u v⟩
  rw [a_u_row (by decide)] at hg
  by_cases c : 3 * i + a = j
  · rw [c, a_u_self, a_u_self]
  · rw [a_u_ne (fun z => c z.2), a_u_ne (fun z => c z.2)]; exact (q4 i hi).2.2 hg a ha
theorem MEs.chg {m : aI} {g r x a v : Nat} (h : MEs m g r) (hx : x < r) (hr : r ≤ 60) (ha : a < 3) (hv : v ≤ 255) : MEs (a_u m 67 (3 * x + a) (nI v)) g r := by
  have e : ∀ q, q ≠ 67 → a_u m 67 (3 * x + a) (nI v) q = m q := fun q hq => a_u_row hq
  obtain ⟨⟨i1, i2, i3, i4⟩, s1, s2, s3, s4⟩ := h
  refine ⟨⟨GW_cg (by rw [e 44 (by decide)]) (e 65 (by decide)) (e 62 (by decide)) (e 61 (by decide)) (e 63 (by decide)) (e 71 (by decide)) i1, i2.cgm (e 58 (by decide)) (e 62 (by decide)) (e 65 (by decide)) (e 69 (by decide)) (e 72 (by decide)) (e 73 (by decide)) (e 61 (by decide)), ?_, i4.cgm (e 60 (by decide)) (e 62 (by decide)) (e 72 (by decide))⟩, s1.cgm (e 58 (by decide)) (e 62 (by decide)) (e 65 (by decide)) (e 69 (by decide)) (e 70 (by decide)), m74_cg s2 (e 74 (by decide)) (Nat.le_refl _), m69_cg s3 (e 69 (by decide)) (Nat.le_refl _), fun j b u w z => ?_, by rw [e 63 (by decide), e 64 (by decide), e 65 (by decide)]; exact s4.2⟩
  · have q := i3
    unfold InvV uxn NR iN at q ⊢
    rw [e 70 (by decide), e 62 (by decide), e 61 (by decide), e 69 (by decide), e 68 (by decide), e 66 (by decide)]
    refine ⟨q.1, fun j b hj hb hg => ?_, q.2.2⟩
    by_cases c : 3 * j + b = 3 * x + a
    · rw [c, a_u_self, nI_clamp (by omega)]; exact ⟨rfl, Nat.le_trans hv (Nat.le_mul_of_pos_right 255 (Nat.two_pow_pos _))⟩
    · rw [a_u_ne (fun z => c z.2)]; exact q.2.1 j b hj hb hg
  · rw [a_u_ne (fun y => by omega)]; exact s4.1 j b u w z
theorem MEs.gone {m : aI} {g r x : Nat} (h : MEs m g r) : MEs (a_u m 68 x 1) g r := by
  have e : ∀ q, q ≠ 68 → a_u m 68 x 1 q = m q := fun q hq => a_u_row hq
  obtain ⟨⟨i1, i2, i3, i4⟩, s1, s2, s3, s4⟩ := h
  refine ⟨⟨GW_cg (by rw [e 44 (by decide)]) (e 65 (by decide)) (e 62 (by decide)) (e 61 (by decide)) (e 63 (by decide)) (e 71 (by decide)) i1, i2.cgm (e 58 (by decide)) (e 62 (by decide)) (e 65 (by decide)) (e 69 (by decide)) (e 72 (by decide)) (e 73 (by decide)) (e 61 (by decide)), ?_, i4.cgm (e 60 (by decide)) (e 62 (by decide)) (e 72 (by decide))⟩, s1.cgm (e 58 (by decide)) (e 62 (by decide)) (e 65 (by decide)) (e 69 (by decide)) (e 70 (by decide)), m74_cg s2 (e 74 (by decide)) (Nat.le_refl _), m69_cg s3 (e 69 (by decide)) (Nat.le_refl _), s4.cgm (e 63 (by decide)) (e 64 (by decide)) (e 65 (by decide)) (e 67 (by decide))⟩
  have q := i3
  unfold InvV uxn NR iN at q ⊢
  rw [e 70 (by decide), e 62 (by decide), e 61 (by decide), e 69 (by decide), e 67 (by decide), e 66 (by decide)]
  refine ⟨q.1, fun j b hj hb hg => ?_, q.2.2⟩
  by_cases c : j = x
  · rw [c, a_u_self] at hg; exact absurd hg (by decide)
  · rw [a_u_ne (fun z => c z.2)] at hg; exact q.2.1 j b hj hb hg
abbrev mkT (m : aI) (r : Nat) (t : Int32) : aI := a_u (a_u m 66 r t) 44 25 (nI (r + 1))
theorem mkT_o {m : aI} {r : Nat} {t : Int32} {q : Nat} (a : q ≠ 66) (b : q ≠ 44) : mkT m r t q = m q := by unfold mkT; rw [a_u_row b, a_u_row a]
theorem mkT_66 {m : aI} {r j : Nat} {t : Int32} : mkT m r t 66 j = if j = r then t else m 66 j := by
  unfold mkT
  rw [a_u_row (by decide)]
  by_cases c : j = r
  · rw [if_pos c, c, a_u_self]
  · rw [if_neg c, a_u_ne (fun z => c z.2)]
theorem mkT_4 {m : aI} {r j : Nat} {t : Int32} (h : j ≠ 25) : mkT m r t 44 j = m 44 j := by unfold mkT; rw [a_u_ne (fun z => h z.2), a_u_row (by decide)]
theorem CEst.mkt {T : List aT} {I : aI} {R : aR} {m : aI} {g r : Nat} {t : Int32} {gq eq : Nat → Nat} (h : CEst T I R m g gq eq r) (hT : aPT T) (hr : r < 60) : CEst T (a_u (a_u I 22 r t) 19 6 (nI (r + 1))) R (mkT m r t) g gq eq (r + 1) := by
  have e : ∀ q, q ≠ 66 → q ≠ 44 → mkT m r t q = m q := fun q a b => mkT_o a b
  refine ⟨(h.gn.fr hT (fun o ho => by rw [a_u_row (by omega), a_u_row (by omega)]) (by rw [a_u_ne (by decide), a_u_row (by decide)])).cgm (e 62 (by decide) (by decide)) (e 63 (by decide) (by decide)) (e 64 (by decide) (by decide)) (e 65 (by decide) (by decide)), (h.ty.fr (fun o _ _ => by rw [a_u_row (by omega), a_u_row (by omega)])).cgm (e 58 (by decide) (by decide)) (e 59 (by decide) (by decide)) (e 60 (by decide) (by decide)) (e 61 (by decide) (by decide)), ?_, (h.en.fr hT (fun o ho => by rw [a_u_row (by omega), a_u_row (by omega)])).cgm (e 69 (by decide) (by decide)) (e 70 (by decide) (by decide)) (e 71 (by decide) (by decide)) (e 72 (by decide) (by decide)) (e 73 (by decide) (by decide)), by rw [a_u_ne (by decide), a_u_row (by decide), mkT_4 (by decide)]; exact h.sr, fun x hx => by rw [a_u_row (by decide), a_u_row (by decide), e 74 (by decide) (by decide)]; exact h.md hx⟩
  obtain ⟨q1, q2, q3, q4, q5⟩ := h.rs
  refine ⟨a_u_self, a_u_self, by omega, fun i hi => ⟨?_, by rw [a_u_row (by decide), a_u_row (by decide), e 68 (by decide) (by decide)]; exact (q4 i hi).2.1, fun hg a ha => ?_⟩, fun i u v => by rw [e 68 (by decide) (by decide)]; exact q5 i (by omega) v⟩
  · rw [mkT_66, a_u_row (by decide)]
    by_cases c : i = r
    · rw [if_pos c, c, a_u_self]
    · rw [if_neg c, a_u_ne (fun z => c z.2)]; exact (q4 i hi).1
  · rw [e 68 (by decide) (by decide)] at hg
    rw [a_u_row (by decide), a_u_row (by decide), e 67 (by decide) (by decide)]; exact (q4 i hi).2.2 hg a ha
theorem MEs.mkt {m : aI} {g r t : Nat} (h : MEs m g r) (hr : r < 60) (ht : t < 3) : MEs (mkT m r (nI t)) g (r + 1) := by
  have e : ∀ q, q ≠ 66 → q ≠ 44 → mkT m r (nI t) q = m q := fun q a b => mkT_o a b
  obtain ⟨⟨i1, i2, i3, i4⟩, s1, s2, s3, s4⟩ := h
  refine ⟨⟨GW_cg (mkT_4 (by decide)) (e 65 (by decide) (by decide)) (e 62 (by decide) (by decide)) (e 61 (by decide) (by decide)) (e 63 (by decide) (by decide)) (e 71 (by decide) (by decide)) i1, i2.cgm (e 58 (by decide) (by decide)) (e 62 (by decide) (by decide)) (e 65 (by decide) (by decide)) (e 69 (by decide) (by decide)) (e 72 (by decide) (by decide)) (e 73 (by decide) (by decide)) (e 61 (by decide) (by decide)), ?_, i4.cgm (e 60 (by decide) (by decide)) (e 62 (by decide) (by decide)) (e 72 (by decide) (by decide))⟩, s1.cgm (e 58 (by decide) (by decide)) (e 62 (by decide) (by decide)) (e 65 (by decide) (by decide)) (e 69 (by decide) (by decide)) (e 70 (by decide) (by decide)), m74_cg s2 (e 74 (by decide) (by decide)) (by omega), m69_cg s3 (e 69 (by decide) (by decide)) (by omega), ⟨fun j b u w z => by rw [e 67 (by decide) (by decide)]; exact s4.1 j b (by omega) w z, by rw [e 63 (by decide) (by decide), e 64 (by decide) (by decide), e 65 (by decide) (by decide)]; exact s4.2⟩⟩
  have q := i3
  unfold InvV uxn NR iN at q ⊢
  rw [e 70 (by decide) (by decide), e 62 (by decide) (by decide), e 61 (by decide) (by decide), e 69 (by decide) (by decide), e 68 (by decide) (by decide), e 67 (by decide) (by decide)]
  refine ⟨q.1, fun j b hj hb hg => ?_, fun x hx h0 => ?_, fun j hj => ?_⟩
  · by_cases c : j = r
    · rw [show m 67 (3 * j + b) = 0 from s4.1 j b (by omega) hj hb]; exact ⟨rfl, Nat.zero_le _⟩
    · rw [mkT_66, if_neg c]; exact q.2.1 j b hj hb hg
  · obtain ⟨z1, r1, z2, z3, z4⟩ := q.2.2.1 x hx h0
    have z5 := s3 x hx h0
    unfold iN at z5
    rw [z2, nI_clamp (by omega)] at z5
    exact ⟨z1, r1, z2, z3, by rw [mkT_66, if_neg (by omega)]; exact z4⟩
  · rw [mkT_66]
    by_cases c : j = r
    · rw [if_pos c, nI_clamp (by omega)]; exact ⟨rfl, ht⟩
    · rw [if_neg c]; exact q.2.2.2 j hj
set_option maxRecDepth 100000 in
theorem m_X11_change {T : List aT} {I : aI} {J : aJ} {R : aR} {m : aI} {c n : Nat} {sq : Nat → Nat} {g : Nat} {gq eq : Nat → Nat} {r p : Nat} {pq : Nat → Nat} {k : Nat} (h9 : G9 T I J R m c n sq g gq eq r p pq k) (x a v : Int32) : MX11_change 3 200 [.ref 0, .int x, .int a, .int v] T I J R (CP [exI, exA, exS] I J m c (fun k y m2 => ((((0 ≤ x ∧ x < nI r) ∧ (0 ≤ a ∧ a ≤ 2)) ∧ (0 ≤ v ∧ v ≤ 255) ∧ m 68 x.toNatClampNeg = 0) ∧ k = 0 ∧ y = m 67 (3 * x + a).toNatClampNeg ∧ m2 = a_u m 67 (3 * x + a).toNatClampNeg v) ∨ ((((0 ≤ x ∧ x < nI r) ∧ (0 ≤ a ∧ a ≤ 2)) ∧ (0 ≤ v ∧ v ≤ 255) ∧ m 68 x.toNatClampNeg ≠ 0) ∧ k = 3 ∧ m2 = m) ∨ ((((0 ≤ x ∧ x < nI r) ∧ (0 ≤ a ∧ a ≤ 2)) ∧ ¬ (0 ≤ v ∧ v ≤ 255)) ∧ k = 2 ∧ m2 = m) ∨ (¬ ((0 ≤ x ∧ x < nI r) ∧ (0 ≤ a ∧ a ≤ 2)) ∧ k = 1 ∧ m2 = m))) := by
  refine a_met (by decide +kernel) a_le (fun X hC hq => ?_)
  show AW X 0 0 0 [some (.ref 0), some (.int x), some (.int a), some (.int v), none] [] T I J R
  have hT := h9.hT
  have hR := h9.hR
  have hG := h9.ces.gn
  have hg := h9.es.1.1
  have hg4 := hg.g4
  have hgn := hG.1
  have hE := h9.ces.en
  have hRs := h9.ces.rs
  have hr60 := hRs.r60
  have hY := h9.ces.ty
  refine aw_iload_n hC dX11_change_0 rfl ?_
  refine aw_aload_n hC dX11_change_1 rfl ?_
  refine aw_getR hC dX11_change_2 aF_X11_28 rfl (tg_0 hT) (pr_0_2 hR) ?_
  refine aw_getI hC dX11_change_5 aF_X11_335 rfl (tg_19 hT) ?_
  rw [hRs.1]
  refine kX11_64 hC rfl (m_X11_isBelow x (nI r)) dX11_change_8 rfl a_le a_le a_le a_le a_le rfl aPure_x (aPure_k ?_)
  show AW X 0 0 11 [some (.ref 0), some (.int x), some (.int a), some (.int v), none] [.int (bI (decide (0 ≤ x ∧ x < (nI r))))] T I J R
  refine aw_if_eq (tgt := 26) hC dX11_change_11 (by decide) (fun h1 => ?_) (fun h1 => ?_)
  · show AW X 0 0 26 [some (.ref 0), some (.int x), some (.int a), some (.int v), none] [] T I J R
    refine aw_iconst (v := 0) hC dX11_change_26 (by decide) ?_
    exact kX11_68 hC rfl (m_X11_needIndexF (T := T) (I := I) (J := J) (R := R)) dX11_change_27 rfl a_le a_le a_le a_le a_le rfl (aTh_x (ae_out hC hq a_le a_le (CP.th (j := 0) rfl (Or.inr (Or.inr (Or.inr ⟨fun q => by first | exact absurd q.1 (of_decide_eq_false (bI_e0.mp (by assumption))) | exact absurd (show 0 ≤ a ∧ a < 3 from ⟨q.2.1, i_lt3 q.2.2⟩) (of_decide_eq_false (bI_e0.mp (by assumption))), rfl, rfl⟩))) h9.gi))) aTh_k
  · show AW X 0 0 14 [some (.ref 0), some (.int x), some (.int a), some (.int v), none] [] T I J R
    refine aw_iload_n hC dX11_change_14 rfl ?_
    refine aw_iconst (v := 3) hC dX11_change_15 (by decide) ?_
    refine kX11_64 hC rfl (m_X11_isBelow a (3 : Int32)) dX11_change_16 rfl a_le a_le a_le a_le a_le rfl aPure_x (aPure_k ?_)
    show AW X 0 0 19 [some (.ref 0), some (.int x), some (.int a), some (.int v), none] [.int (bI (decide (0 ≤ a ∧ a < (3 : Int32))))] T I J R
    refine aw_if_eq (tgt := 26) hC dX11_change_19 (by decide) (fun h2 => ?_) (fun h2 => ?_)
    · show AW X 0 0 26 [some (.ref 0), some (.int x), some (.int a), some (.int v), none] [] T I J R
      refine aw_iconst (v := 0) hC dX11_change_26 (by decide) ?_
      exact kX11_68 hC rfl (m_X11_needIndexF (T := T) (I := I) (J := J) (R := R)) dX11_change_27 rfl a_le a_le a_le a_le a_le rfl (aTh_x (ae_out hC hq a_le a_le (CP.th (j := 0) rfl (Or.inr (Or.inr (Or.inr ⟨fun q => by first | exact absurd q.1 (of_decide_eq_false (bI_e0.mp (by assumption))) | exact absurd (show 0 ≤ a ∧ a < 3 from ⟨q.2.1, i_lt3 q.2.2⟩) (of_decide_eq_false (bI_e0.mp (by assumption))), rfl, rfl⟩))) h9.gi))) aTh_k
    · show AW X 0 0 22 [some (.ref 0), some (.int x), some (.int a), some (.int v), none] [] T I J R
      refine aw_iconst (v := 1) hC dX11_change_22 (by decide) ?_
      refine aw_goto (tgt := 27) hC dX11_change_23 (by decide) ?_
      refine kX11_68 hC rfl (m_X11_needIndexT (T := T) (I := I) (J := J) (R := R) (x := 1) (by decide)) dX11_change_27 rfl a_le a_le a_le a_le a_le rfl aPure_x (aPure_k ?_)
      show AW X 0 0 30 [some (.ref 0), some (.int x), some (.int a), some (.int v), none] [] T I J R
      have hfcx : 0 ≤ x ∧ x < nI (r) := of_decide_eq_true (bI_n0.mp (by assumption))
      obtain ⟨x1, hx1, ex1⟩ := i_nat (x := x) (b := r) hfcx.1 hfcx.2 rfl (by first | decide | omega)
      subst ex1
      have hfca : 0 ≤ a ∧ a < 3 := of_decide_eq_true (bI_n0.mp (by assumption))
      obtain ⟨a1, ha1, ea1⟩ := i_nat (x := a) (b := 3) hfca.1 hfca.2 rfl (by first | decide | omega)
      subst ea1
      show AW X 0 0 30 [some (.ref 0), some (.int (nI x1)), some (.int (nI a1)), some (.int v), none] [] T I J R
      refine aw_iload_n hC dX11_change_30 rfl ?_
      refine aw_iconst (v := 0) hC dX11_change_31 (by decide) ?_
      refine aw_sipush (v := 255) hC dX11_change_32 (by decide) ?_
      refine kX11_126 hC rfl (m_X11_isWithin v (0 : Int32) (255 : Int32)) dX11_change_35 rfl a_le a_le a_le a_le a_le rfl aPure_x (aPure_k ?_)
      show AW X 0 0 38 [some (.ref 0), some (.int (nI x1)), some (.int (nI a1)), some (.int v), none] [.int (bI (decide ((0 : Int32) ≤ v ∧ v ≤ (255 : Int32))))] T I J R
      by_cases hn3 : bI (decide ((0 : Int32) ≤ v ∧ v ≤ (255 : Int32))) = 0
      · rw [hn3]
        exact kX11_130 hC rfl (m_X11_needArgumentF (T := T) (I := I) (J := J) (R := R)) dX11_change_38 rfl a_le a_le a_le a_le a_le rfl (aTh_x (ae_out hC hq a_le a_le (CP.th (j := 1) rfl (Or.inr (Or.inr (Or.inl ⟨⟨⟨hfcx, hfca.1, i_le2 hfca.2⟩, of_decide_eq_false (bI_e0.mp (by assumption))⟩, rfl, rfl⟩))) h9.gi))) aTh_k
      · refine kX11_130 hC rfl (m_X11_needArgumentT (T := T) (I := I) (J := J) (R := R) (x := bI (decide ((0 : Int32) ≤ v ∧ v ≤ (255 : Int32)))) hn3) dX11_change_38 rfl a_le a_le a_le a_le a_le rfl aPure_x (aPure_k ?_)
        show AW X 0 0 41 [some (.ref 0), some (.int (nI x1)), some (.int (nI a1)), some (.int v), none] [] T I J R
        have hvc : (0 ≤ v ∧ v ≤ 255) := of_decide_eq_true (bI_n0.mp (by assumption))
        obtain ⟨v1, hv1, ev1⟩ := i_nat (x := v) (z := 256) (b := 256) hvc.1 (by have q9 := hvc.2; clear hC hq; simp only [i_lt, i_le, Int32.reduceToInt] at *; omega) rfl (by decide)
        subst ev1
        show AW X 0 0 41 [some (.ref 0), some (.int (nI x1)), some (.int (nI a1)), some (.int (nI v1)), none] [] T I J R
        refine aw_aload_n hC dX11_change_41 rfl ?_
        refine aw_getR hC dX11_change_42 aF_X11_28 rfl (tg_0 hT) (pr_0_2 hR) ?_
        refine aw_getR hC dX11_change_45 aF_X11_338 rfl (tg_19 hT) (pr_19_5 hR) ?_
        refine aw_iload_n hC dX11_change_48 rfl ?_
        refine aw_baload_k (j := x1) hC dX11_change_49 (tg_24 hT) (nI_clamp (by omega)) (vp_in_nI (by omega) (by decide)) ?_
        rw [(hRs.2.2.2.1 x1 (by omega)).2.1]
        refine aw_if_ne (tgt := 57) hC dX11_change_50 (by decide) (fun h4 => ?_) (fun h4 => ?_)
        · show AW X 0 0 57 [some (.ref 0), some (.int (nI x1)), some (.int (nI a1)), some (.int (nI v1)), none] [] T I J R
          refine aw_iconst (v := 0) hC dX11_change_57 (by decide) ?_
          exact kX11_88 hC rfl (m_X11_needStateF (T := T) (I := I) (J := J) (R := R)) dX11_change_58 rfl a_le a_le a_le a_le a_le rfl (aTh_x (ae_out hC hq a_le a_le (CP.th (j := 2) rfl (Or.inr (Or.inl ⟨⟨⟨hfcx, hfca.1, i_le2 hfca.2⟩, hvc, by rw [nI_clamp (by omega)]; assumption⟩, rfl, rfl⟩)) h9.gi))) aTh_k
        · show AW X 0 0 53 [some (.ref 0), some (.int (nI x1)), some (.int (nI a1)), some (.int (nI v1)), none] [] T I J R
          refine aw_iconst (v := 1) hC dX11_change_53 (by decide) ?_
          refine aw_goto (tgt := 58) hC dX11_change_54 (by decide) ?_
          refine kX11_88 hC rfl (m_X11_needStateT (T := T) (I := I) (J := J) (R := R) (x := 1) (by decide)) dX11_change_58 rfl a_le a_le a_le a_le a_le rfl aPure_x (aPure_k ?_)
          show AW X 0 0 61 [some (.ref 0), some (.int (nI x1)), some (.int (nI a1)), some (.int (nI v1)), none] [] T I J R
          refine aw_aload_n hC dX11_change_61 rfl ?_
          refine aw_getR hC dX11_change_62 aF_X11_28 rfl (tg_0 hT) (pr_0_2 hR) ?_
          refine aw_getR hC dX11_change_65 aF_X11_342 rfl (tg_19 hT) (pr_19_4 hR) ?_
          refine aw_iload_n hC dX11_change_68 rfl ?_
          refine aw_iconst (v := 3) hC dX11_change_69 (by decide) ?_
          refine aw_imul hC dX11_change_70 ?_
          rw [show (nI x1) * 3 = nI (x1 * 3) from pk_mul x1 3]
          refine aw_iload_n hC dX11_change_71 rfl ?_
          refine aw_iadd hC dX11_change_72 ?_
          rw [show (nI (x1 * 3)) + (nI a1) = nI ((x1 * 3) + a1) from nI_add (x1 * 3) a1]
          refine aw_iaload_k (j := ((x1 * 3) + a1)) hC dX11_change_73 (tg_23 hT) (nI_clamp (by omega)) (vp_in_nI (by omega) (by decide)) ?_
          have h23 : I 23 (x1 * 3 + a1) = m 67 (x1 * 3 + a1) := by rw [Nat.mul_comm]; exact (hRs.2.2.2.1 x1 (by omega)).2.2 (by assumption) a1 ha1
          refine aw_istore (L2 := [some (.ref 0), some (.int (nI x1)), some (.int (nI a1)), some (.int (nI v1)), some (.int (I 23 ((x1 * 3) + a1)))]) hC dX11_change_74 (by decide) rfl ?_
          refine aw_aload_n hC dX11_change_76 rfl ?_
          refine aw_getR hC dX11_change_77 aF_X11_28 rfl (tg_0 hT) (pr_0_2 hR) ?_
          refine aw_getR hC dX11_change_80 aF_X11_342 rfl (tg_19 hT) (pr_19_4 hR) ?_
          refine aw_iload_n hC dX11_change_83 rfl ?_
          refine aw_iconst (v := 3) hC dX11_change_84 (by decide) ?_
          refine aw_imul hC dX11_change_85 ?_
          rw [show (nI x1) * 3 = nI (x1 * 3) from pk_mul x1 3]
          refine aw_iload_n hC dX11_change_86 rfl ?_
          refine aw_iadd hC dX11_change_87 ?_
          rw [show (nI (x1 * 3)) + (nI a1) = nI ((x1 * 3) + a1) from nI_add (x1 * 3) a1]
          refine aw_iload_n hC dX11_change_88 rfl ?_
          refine aw_iastore_k (j := ((x1 * 3) + a1)) hC dX11_change_89 (tg_23 hT) (nI_clamp (by omega)) (vp_in_nI (by omega) (by decide)) ?_
          refine aw_iload hC dX11_change_90 rfl ?_
          exact aw_ireturn hC hq rfl dX11_change_92 a_le a_le (CP.ok (Or.inl ⟨⟨⟨hfcx, hfca.1, i_le2 hfca.2⟩, hvc, by rw [nI_clamp (by omega)]; assumption⟩, rfl, by rw [at3 (by omega) (by omega), show 3 * x1 + a1 = x1 * 3 + a1 by omega]; exact h23, by rw [at3 (by omega) (by omega)]⟩) (fun o u v => ⟨a_u_row (by omega), rfl⟩) (h9.est (S := fun o => o = 23) (List.prefix_refl _) (fun o _ _ z => a_u_row z) (fun _ _ _ _ => rfl) (fun o z => Or.inl (by omega)) h9.hR (by rw [show x1 * 3 + a1 = 3 * x1 + a1 by omega]; exact h9.ces.chg hT) (h9.es.chg hx1 hr60 ha1 (by omega)) (Nat.le_refl _) (Nat.le_refl _) (fun o z => a_u_row (by omega)) (fun k _ _ _ => by rw [a_u_row (by decide)]) (fun _ x _ z => by rw [a_u_row (by decide)]; exact z)).gi)
set_option maxRecDepth 100000 in
theorem m_X11_destroy {T : List aT} {I : aI} {J : aJ} {R : aR} {m : aI} {c n : Nat} {sq : Nat → Nat} {g : Nat} {gq eq : Nat → Nat} {r p : Nat} {pq : Nat → Nat} {k : Nat} (h9 : G9 T I J R m c n sq g gq eq r p pq k) (x : Int32) : MX11_destroy 3 200 [.ref 0, .int x] T I J R (CP [exI] I J m c (fun k y m2 => ((0 ≤ x ∧ x < nI r) ∧ k = 0 ∧ y = (if m 68 x.toNatClampNeg = 0 then 1 else 0) ∧ m2 = a_u m 68 x.toNatClampNeg 1) ∨ (¬ (0 ≤ x ∧ x < nI r) ∧ k = 1 ∧ m2 = m))) := by
  refine a_met (by decide +kernel) a_le (fun X hC hq => ?_)
  show AW X 0 0 0 [some (.ref 0), some (.int x), none] [] T I J R
  have hT := h9.hT
  have hR := h9.hR
  have hG := h9.ces.gn
  have hg := h9.es.1.1
  have hg4 := hg.g4
  have hgn := hG.1
  have hE := h9.ces.en
  have hRs := h9.ces.rs
  have hr60 := hRs.r60
  have hY := h9.ces.ty
  refine aw_iload_n hC dX11_destroy_0 rfl ?_
  refine aw_aload_n hC dX11_destroy_1 rfl ?_
  refine aw_getR hC dX11_destroy_2 aF_X11_28 rfl (tg_0 hT) (pr_0_2 hR) ?_
  refine aw_getI hC dX11_destroy_5 aF_X11_335 rfl (tg_19 hT) ?_
  rw [hRs.1]
  refine kX11_64 hC rfl (m_X11_isBelow x (nI r)) dX11_destroy_8 rfl a_le a_le a_le a_le a_le rfl aPure_x (aPure_k ?_)
  show AW X 0 0 11 [some (.ref 0), some (.int x), none] [.int (bI (decide (0 ≤ x ∧ x < (nI r))))] T I J R
  by_cases hn1 : bI (decide (0 ≤ x ∧ x < (nI r))) = 0
  · rw [hn1]
    exact kX11_68 hC rfl (m_X11_needIndexF (T := T) (I := I) (J := J) (R := R)) dX11_destroy_11 rfl a_le a_le a_le a_le a_le rfl (aTh_x (ae_out hC hq a_le a_le (CP.th (j := 0) rfl (Or.inr ⟨of_decide_eq_false (bI_e0.mp (by assumption)), rfl, rfl⟩) h9.gi))) aTh_k
  · refine kX11_68 hC rfl (m_X11_needIndexT (T := T) (I := I) (J := J) (R := R) (x := bI (decide (0 ≤ x ∧ x < (nI r)))) hn1) dX11_destroy_11 rfl a_le a_le a_le a_le a_le rfl aPure_x (aPure_k ?_)
    show AW X 0 0 14 [some (.ref 0), some (.int x), none] [] T I J R
    have hfcx : 0 ≤ x ∧ x < nI (r) := of_decide_eq_true (bI_n0.mp (by assumption))
    obtain ⟨x1, hx1, ex1⟩ := i_nat (x := x) (b := r) hfcx.1 hfcx.2 rfl (by first | decide | omega)
    subst ex1
    show AW X 0 0 14 [some (.ref 0), some (.int (nI x1)), none] [] T I J R
    refine aw_aload_n hC dX11_destroy_14 rfl ?_
    refine aw_getR hC dX11_destroy_15 aF_X11_28 rfl (tg_0 hT) (pr_0_2 hR) ?_
    refine aw_getR hC dX11_destroy_18 aF_X11_338 rfl (tg_19 hT) (pr_19_5 hR) ?_
    refine aw_iload_n hC dX11_destroy_21 rfl ?_
    refine aw_baload_k (j := x1) hC dX11_destroy_22 (tg_24 hT) (nI_clamp (by omega)) (vp_in_nI (by omega) (by decide)) ?_
    rw [(hRs.2.2.2.1 x1 (by omega)).2.1]
    refine aw_if_ne (tgt := 30) hC dX11_destroy_23 (by decide) (fun h2 => ?_) (fun h2 => ?_)
    · show AW X 0 0 30 [some (.ref 0), some (.int (nI x1)), none] [] T I J R
      refine aw_iconst (v := 0) hC dX11_destroy_30 (by decide) ?_
      refine aw_istore_n (L2 := [some (.ref 0), some (.int (nI x1)), some (.int 0)]) hC dX11_destroy_31 rfl (by decide) rfl ?_
      refine aw_aload_n hC dX11_destroy_32 rfl ?_
      refine aw_getR hC dX11_destroy_33 aF_X11_28 rfl (tg_0 hT) (pr_0_2 hR) ?_
      refine aw_getR hC dX11_destroy_36 aF_X11_338 rfl (tg_19 hT) (pr_19_5 hR) ?_
      refine aw_iload_n hC dX11_destroy_39 rfl ?_
      refine aw_iconst (v := 1) hC dX11_destroy_40 (by decide) ?_
      refine aw_bastore_k (j := x1) hC dX11_destroy_41 (tg_24 hT) (nI_clamp (by omega)) (vp_in_nI (by omega) (by decide)) (Or.inr rfl) ?_
      refine aw_iload_n hC dX11_destroy_42 rfl ?_
      exact aw_zreturn hC hq rfl (Or.inl rfl) dX11_destroy_43 a_le a_le (CP.ok (Or.inl ⟨hfcx, rfl, by rw [nI_clamp (by omega)]; first | exact (if_pos (by assumption)).symm | exact (if_neg (by assumption)).symm, by rw [nI_clamp (by omega)]⟩) (fun o u v => ⟨a_u_row (by omega), rfl⟩) (h9.est (S := fun o => o = 24) (List.prefix_refl _) (fun o _ _ z => a_u_row z) (fun _ _ _ _ => rfl) (fun o z => Or.inl (by omega)) h9.hR (h9.ces.gone hT hx1) h9.es.gone (Nat.le_refl _) (Nat.le_refl _) (fun o z => a_u_row (by omega)) (fun k _ _ _ => by rw [a_u_row (by decide)]) (fun _ x _ z => by rw [a_u_row (by decide)]; exact z)).gi)
    · show AW X 0 0 26 [some (.ref 0), some (.int (nI x1)), none] [] T I J R
      refine aw_iconst (v := 1) hC dX11_destroy_26 (by decide) ?_
      refine aw_goto (tgt := 31) hC dX11_destroy_27 (by decide) ?_
      refine aw_istore_n (L2 := [some (.ref 0), some (.int (nI x1)), some (.int 1)]) hC dX11_destroy_31 rfl (by decide) rfl ?_
      refine aw_aload_n hC dX11_destroy_32 rfl ?_
      refine aw_getR hC dX11_destroy_33 aF_X11_28 rfl (tg_0 hT) (pr_0_2 hR) ?_
      refine aw_getR hC dX11_destroy_36 aF_X11_338 rfl (tg_19 hT) (pr_19_5 hR) ?_
      refine aw_iload_n hC dX11_destroy_39 rfl ?_
      refine aw_iconst (v := 1) hC dX11_destroy_40 (by decide) ?_
      refine aw_bastore_k (j := x1) hC dX11_destroy_41 (tg_24 hT) (nI_clamp (by omega)) (vp_in_nI (by omega) (by decide)) (Or.inr rfl) ?_
      refine aw_iload_n hC dX11_destroy_42 rfl ?_
      exact aw_zreturn hC hq rfl (Or.inr rfl) dX11_destroy_43 a_le a_le (CP.ok (Or.inl ⟨hfcx, rfl, by rw [nI_clamp (by omega)]; first | exact (if_pos (by assumption)).symm | exact (if_neg (by assumption)).symm, by rw [nI_clamp (by omega)]⟩) (fun o u v => ⟨a_u_row (by omega), rfl⟩) (h9.est (S := fun o => o = 24) (List.prefix_refl _) (fun o _ _ z => a_u_row z) (fun _ _ _ _ => rfl) (fun o z => Or.inl (by omega)) h9.hR (h9.ces.gone hT hx1) h9.es.gone (Nat.le_refl _) (Nat.le_refl _) (fun o z => a_u_row (by omega)) (fun k _ _ _ => by rw [a_u_row (by decide)]) (fun _ x _ z => by rw [a_u_row (by decide)]; exact z)).gi)
set_option maxRecDepth 100000 in
theorem m_X11_make {T : List aT} {I : aI} {J : aJ} {R : aR} {m : aI} {c n : Nat} {sq : Nat → Nat} {g : Nat} {gq eq : Nat → Nat} {r p : Nat} {pq : Nat → Nat} {k : Nat} (h9 : G9 T I J R m c n sq g gq eq r p pq k) (t : Int32) : MX11_make 3 200 [.ref 0, .int t] T I J R (CP [exI, exS] I J m c (fun k y m2 => (((0 ≤ t ∧ t ≤ 2) ∧ r ≠ 60) ∧ k = 0 ∧ y = nI r ∧ m2 = mkT m r t) ∨ (((0 ≤ t ∧ t ≤ 2) ∧ r = 60) ∧ k = 2 ∧ m2 = m) ∨ (¬ (0 ≤ t ∧ t ≤ 2) ∧ k = 1 ∧ m2 = m))) := by
  refine a_met (by decide +kernel) a_le (fun X hC hq => ?_)
  show AW X 0 0 0 [some (.ref 0), some (.int t)] [] T I J R
  have hT := h9.hT
  have hR := h9.hR
  have hG := h9.ces.gn
  have hg := h9.es.1.1
  have hg4 := hg.g4
  have hgn := hG.1
  have hE := h9.ces.en
  have hRs := h9.ces.rs
  have hr60 := hRs.r60
  have hY := h9.ces.ty
  refine aw_iload_n hC dX11_make_0 rfl ?_
  refine aw_iconst (v := 3) hC dX11_make_1 (by decide) ?_
  refine kX11_64 hC rfl (m_X11_isBelow t (3 : Int32)) dX11_make_2 rfl a_le a_le a_le a_le a_le rfl aPure_x (aPure_k ?_)
  show AW X 0 0 5 [some (.ref 0), some (.int t)] [.int (bI (decide (0 ≤ t ∧ t < (3 : Int32))))] T I J R
  by_cases hn1 : bI (decide (0 ≤ t ∧ t < (3 : Int32))) = 0
  · rw [hn1]
    exact kX11_68 hC rfl (m_X11_needIndexF (T := T) (I := I) (J := J) (R := R)) dX11_make_5 rfl a_le a_le a_le a_le a_le rfl (aTh_x (ae_out hC hq a_le a_le (CP.th (j := 0) rfl (Or.inr (Or.inr ⟨fun q => absurd (show 0 ≤ t ∧ t < 3 from ⟨q.1, i_lt3 q.2⟩) (of_decide_eq_false (bI_e0.mp (by assumption))), rfl, rfl⟩)) h9.gi))) aTh_k
  · refine kX11_68 hC rfl (m_X11_needIndexT (T := T) (I := I) (J := J) (R := R) (x := bI (decide (0 ≤ t ∧ t < (3 : Int32)))) hn1) dX11_make_5 rfl a_le a_le a_le a_le a_le rfl aPure_x (aPure_k ?_)
    show AW X 0 0 8 [some (.ref 0), some (.int t)] [] T I J R
    have hfct : 0 ≤ t ∧ t < 3 := of_decide_eq_true (bI_n0.mp (by assumption))
    obtain ⟨t1, ht1, et1⟩ := i_nat (x := t) (b := 3) hfct.1 hfct.2 rfl (by first | decide | omega)
    subst et1
    show AW X 0 0 8 [some (.ref 0), some (.int (nI t1))] [] T I J R
    refine aw_aload_n hC dX11_make_8 rfl ?_
    refine aw_getR hC dX11_make_9 aF_X11_28 rfl (tg_0 hT) (pr_0_2 hR) ?_
    refine aw_getI hC dX11_make_12 aF_X11_335 rfl (tg_19 hT) ?_
    rw [hRs.1]
    refine aw_bipush (v := 60) hC dX11_make_15 (by decide) ?_
    refine aw_icmp_ge (tgt := 24) hC dX11_make_17 (by decide) (fun h2 => ?_) (fun h2 => ?_)
    · show AW X 0 0 24 [some (.ref 0), some (.int (nI t1))] [] T I J R
      have h2n : 60 ≤ r := (nI_leI (a := 60) (b := r) (by omega) (by omega)).mp h2
      refine aw_iconst (v := 0) hC dX11_make_24 (by decide) ?_
      exact kX11_88 hC rfl (m_X11_needStateF (T := T) (I := I) (J := J) (R := R)) dX11_make_25 rfl a_le a_le a_le a_le a_le rfl (aTh_x (ae_out hC hq a_le a_le (CP.th (j := 1) rfl (Or.inr (Or.inl ⟨⟨⟨hfct.1, i_le2 hfct.2⟩, by omega⟩, rfl, rfl⟩)) h9.gi))) aTh_k
    · show AW X 0 0 20 [some (.ref 0), some (.int (nI t1))] [] T I J R
      have h2n : ¬ 60 ≤ r := fun q9 => h2 ((nI_leI (a := 60) (b := r) (by omega) (by omega)).mpr q9)
      refine aw_iconst (v := 1) hC dX11_make_20 (by decide) ?_
      refine aw_goto (tgt := 25) hC dX11_make_21 (by decide) ?_
      refine kX11_88 hC rfl (m_X11_needStateT (T := T) (I := I) (J := J) (R := R) (x := 1) (by decide)) dX11_make_25 rfl a_le a_le a_le a_le a_le rfl aPure_x (aPure_k ?_)
      show AW X 0 0 28 [some (.ref 0), some (.int (nI t1))] [] T I J R
      refine aw_aload_n hC dX11_make_28 rfl ?_
      refine aw_getR hC dX11_make_29 aF_X11_28 rfl (tg_0 hT) (pr_0_2 hR) ?_
      refine aw_iload_n hC dX11_make_32 rfl ?_
      refine kX11_345 hC rfl (m_X4_addResource (I := I) hT hR (r := r) hRs.1 (by omega) (nI t1)) dX11_make_33 (tg_19 hT) rfl a_le a_le a_le a_le a_le rfl aPure_x (aPure_k ?_)
      show AW X 0 0 36 [some (.ref 0), some (.int (nI t1))] [.int (nI r)] T (a_u (a_u I 22 r (nI t1)) 19 6 (nI (r + 1))) J R
      exact aw_ireturn hC hq rfl dX11_make_36 a_le a_le (CP.ok (Or.inl ⟨⟨⟨hfct.1, i_le2 hfct.2⟩, by omega⟩, rfl, rfl, rfl⟩) (fun o u v => ⟨by rw [a_u_row (by omega), a_u_row (by omega)], rfl⟩) (h9.est (S := fun o => o = 19 ∨ o = 22) (List.prefix_refl _) (fun o _ _ z => by rw [a_u_row (by omega), a_u_row (by omega)]) (fun _ _ _ _ => rfl) (fun o z => Or.inl (by omega)) h9.hR (h9.ces.mkt hT (by omega)) (h9.es.mkt (by omega) ht1) (Nat.le_refl _) (by omega) (fun o z => mkT_o (by omega) (by omega)) (fun k _ z _ => mkT_4 z) (fun _ x _ z => by rw [mkT_o (by decide) (by decide)]; exact z)).gi)
