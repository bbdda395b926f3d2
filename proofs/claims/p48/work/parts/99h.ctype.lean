theorem CPv.th {ex : List String} {T : List aT} {I : aI} {J : aJ} {R : aR} {m : aI} {c : Nat} {Sp : Nat → Int32 → aI → Prop} {j : Nat} {E : String} (he : ex[j]? = some E) (hs : Sp (j + 1) 0 m) (hg : GI T I J R m (c + 1)) : CPv ex I J m c Sp (.inr E) T I J R := ⟨fun _ _ _ => ⟨rfl, rfl⟩, Or.inr ⟨j, E, he, rfl, hs, hg⟩⟩
theorem CPv.ok {ex : List String} {T2 : List aT} {I I2 : aI} {J J2 : aJ} {R2 : aR} {m m2 : aI} {c : Nat} {Sp : Nat → Int32 → aI → Prop} (hs : Sp 0 0 m2) (hf : MFr I I2 J J2) (hg : GI T2 I2 J2 R2 m2 (c + 1)) : CPv ex I J m c Sp (.inl none) T2 I2 J2 R2 := ⟨hf, Or.inl ⟨m2, rfl, hs, hg⟩⟩
def tyM (m : aI) (t : Nat) (u v w d e : Int32) : aI := a_u (a_u (a_u (a_u (a_u m 58 (3 * t) u) 58 (3 * t + 1) v) 58 (3 * t + 2) w) 59 t d) 60 t e
theorem tyM_o {m : aI} {t : Nat} {u v w d e : Int32} {q : Nat} (a : q ≠ 58) (b : q ≠ 59) (zc : q ≠ 60) : tyM m t u v w d e q = m q := by unfold tyM; rw [a_u_row zc, a_u_row b, a_u_row a, a_u_row a, a_u_row a]
theorem tyM_58 {m : aI} {t : Nat} {u v w d e : Int32} {j : Nat} (h : j / 3 ≠ t) : tyM m t u v w d e 58 j = m 58 j := by
  unfold tyM; rw [a_u_row (by decide), a_u_row (by decide), a_u_ne (fun z => by omega), a_u_ne (fun z => by omega), a_u_ne (fun z => by omega)]
theorem tyM_60 {m : aI} {t : Nat} {u v w d e : Int32} {j : Nat} (h : j ≠ t) : tyM m t u v w d e 60 j = m 60 j := by unfold tyM; rw [a_u_ne (fun z => h z.2), a_u_row (by decide), a_u_row (by decide), a_u_row (by decide), a_u_row (by decide)]
theorem tyM_59 {m : aI} {t : Nat} {u v w d e : Int32} {j : Nat} (h : j ≠ t) : tyM m t u v w d e 59 j = m 59 j := by unfold tyM; rw [a_u_row (by decide), a_u_ne (fun z => h z.2), a_u_row (by decide), a_u_row (by decide), a_u_row (by decide)]
theorem CEst.sty {T : List aT} {I : aI} {R : aR} {m : aI} {g r t : Nat} {u v w d e : Int32} {gq eq : Nat → Nat} (h : CEst T I R m g gq eq r) (hT : aPT T) (ht : t < 3) : CEst T (a_u (a_u (a_u (a_u (a_u I (28 + 2 * t) 0 u) (28 + 2 * t) 1 v) (28 + 2 * t) 2 w) (27 + 2 * t) 1 d) (27 + 2 * t) 2 e) R (tyM m t u v w d e) g gq eq r := by
  have em : ∀ q, q ≠ 58 → q ≠ 59 → q ≠ 60 → tyM m t u v w d e q = m q := fun q a b zc => tyM_o a b zc
  have lo : ∀ o, o ≠ 28 + 2 * t → o ≠ 27 + 2 * t → (a_u (a_u (a_u (a_u (a_u I (28 + 2 * t) 0 u) (28 + 2 * t) 1 v) (28 + 2 * t) 2 w) (27 + 2 * t) 1 d) (27 + 2 * t) 2 e) o = I o := fun o a b => by rw [a_u_row b, a_u_row b, a_u_row a, a_u_row a, a_u_row a]
  refine ⟨(h.gn.fr hT (fun o ho => lo o (by omega) (by omega)) (by rw [lo 19 (by omega) (by omega)])).cgm (em 62 (by decide) (by decide) (by decide)) (em 63 (by decide) (by decide) (by decide)) (em 64 (by decide) (by decide) (by decide)) (em 65 (by decide) (by decide) (by decide)), fun s hs => ?_, ?_, (h.en.fr hT (fun o ho => lo o (by omega) (by omega))).cgm (em 69 (by decide) (by decide) (by decide)) (em 70 (by decide) (by decide) (by decide)) (em 71 (by decide) (by decide) (by decide)) (em 72 (by decide) (by decide) (by decide)) (em 73 (by decide) (by decide) (by decide)), by rw [lo 19 (by omega) (by omega), em 44 (by decide) (by decide) (by decide)]; exact h.sr, fun x hx => by rw [lo 26 (by omega) (by omega), em 74 (by decide) (by decide) (by decide)]; exact h.md hx⟩
  · have q := h.ty s hs
    by_cases zc : s = t
    · subst zc
      refine ⟨fun a ha => ?_, ?_, ?_, ?_⟩
      · unfold tyM
        rw [a_u_row (show 58 ≠ 60 by decide), a_u_row (show 58 ≠ 59 by decide), a_u_row (show 28 + 2 * s ≠ 27 + 2 * s by omega), a_u_row (show 28 + 2 * s ≠ 27 + 2 * s by omega)]
        rcases (show a = 0 ∨ a = 1 ∨ a = 2 by omega) with za | za | za <;> rw [za]
        · rw [a_u_ne (fun z => absurd z.2 (by decide)), a_u_ne (fun z => absurd z.2 (by decide)), a_u_self, a_u_ne (fun z => absurd z.2 (by omega)), a_u_ne (fun z => absurd z.2 (by omega)), Nat.add_zero, a_u_self]
        · rw [a_u_ne (fun z => absurd z.2 (by decide)), a_u_self, a_u_ne (fun z => absurd z.2 (by omega)), a_u_self]
        · rw [a_u_self, a_u_self]
      · unfold tyM
        rw [a_u_ne (fun z => absurd z.2 (by decide)), a_u_self, a_u_row (by decide), a_u_self]
      · unfold tyM
        rw [a_u_self, a_u_self]
      · rw [a_u_ne (fun z => absurd z.2 (by decide)), a_u_ne (fun z => absurd z.2 (by decide)), a_u_row (by omega), a_u_row (by omega), a_u_row (by omega), em 61 (by decide) (by decide) (by decide)]; exact q.2.2.2
    · rw [lo (28 + 2 * s) (by omega) (by omega), lo (27 + 2 * s) (by omega) (by omega), tyM_59 zc, tyM_60 zc, em 61 (by decide) (by decide) (by decide)]
      exact ⟨fun a ha => by rw [tyM_58 (by omega)]; exact q.1 a ha, q.2⟩
  · have q := h.rs
    unfold CRs at *
    rw [lo 19 (by omega) (by omega), lo 22 (by omega) (by omega), lo 23 (by omega) (by omega), lo 24 (by omega) (by omega), em 44 (by decide) (by decide) (by decide), em 66 (by decide) (by decide) (by decide), em 67 (by decide) (by decide) (by decide), em 68 (by decide) (by decide) (by decide)]
    exact q
theorem MEs.sty {m : aI} {g r t : Nat} {u v w d e : Int32} (h : MEs m g r) (hun : ∀ i, i < g → iN m 62 i ≠ t) : MEs (tyM m t u v w d e) g r := by
  have em : ∀ q, q ≠ 58 → q ≠ 59 → q ≠ 60 → tyM m t u v w d e q = m q := fun q a b zc => tyM_o a b zc
  obtain ⟨⟨i1, i2, i3, i4⟩, s1, s2, s3, s4⟩ := h
  have n62 : iN (tyM m t u v w d e) 62 = iN m 62 := by unfold iN; rw [em 62 (by decide) (by decide) (by decide)]
  refine ⟨⟨GW_cg (by rw [em 44 (by decide) (by decide) (by decide)]) (em 65 (by decide) (by decide) (by decide)) (em 62 (by decide) (by decide) (by decide)) (em 61 (by decide) (by decide) (by decide)) (em 63 (by decide) (by decide) (by decide)) (em 71 (by decide) (by decide) (by decide)) i1, ⟨fun i a hi ha hcc => ?_, by rw [em 69 (by decide) (by decide) (by decide)]; exact i2.2.1, (by have q9 := i2.2.2; unfold bsM iN at *; rw [em 72 (by decide) (by decide) (by decide), em 73 (by decide) (by decide) (by decide), em 61 (by decide) (by decide) (by decide), em 62 (by decide) (by decide) (by decide)]; exact q9)⟩, i3.cgm (em 61 (by decide) (by decide) (by decide)) (em 62 (by decide) (by decide) (by decide)) (em 66 (by decide) (by decide) (by decide)) (em 67 (by decide) (by decide) (by decide)) (em 68 (by decide) (by decide) (by decide)) (em 69 (by decide) (by decide) (by decide)) (em 70 (by decide) (by decide) (by decide)), fun x hx => ⟨fun z => ?_, fun z y => ?_⟩⟩, ⟨fun i a s hi ha hs h1 h2 => ?_, by rw [em 69 (by decide) (by decide) (by decide), em 70 (by decide) (by decide) (by decide)]; exact s1.2⟩, m74_cg s2 (em 74 (by decide) (by decide) (by decide)) (Nat.le_refl _), m69_cg s3 (em 69 (by decide) (by decide) (by decide)) (Nat.le_refl _), s4.cgm (em 63 (by decide) (by decide) (by decide)) (em 64 (by decide) (by decide) (by decide)) (em 65 (by decide) (by decide) (by decide)) (em 67 (by decide) (by decide) (by decide))⟩
  · have hne := hun i hi
    rw [n62, tyM_58 (by omega)] at hcc
    rw [em 65 (by decide) (by decide) (by decide)]; exact i2.1 i a hi ha hcc
  · rw [em 72 (by decide) (by decide) (by decide)]; exact (i4 x hx).1 z
  · have hne := hun (x / 16) (by omega)
    rw [n62, tyM_60 hne] at y
    rw [em 72 (by decide) (by decide) (by decide)]; exact (i4 x hx).2 z y
  · rw [em 65 (by decide) (by decide) (by decide)] at hs
    have hg4 := i1.1
    have z := i1.2.2.1 (3 * i + a) (by omega)
    have z2 : (s - 10) / 3 < g := by
      rcases z with z | z
      · rw [z] at hs; exact absurd hs.symm (nI_ne1 h1)
      · have e9 : iN m 65 (3 * i + a) = s := by unfold iN; rw [hs, nI_clamp (by omega)]
        have := z.2.2 (by omega); omega
    have hne := hun _ z2
    rw [n62, tyM_58 (by omega)]
    exact s1.1 i a s hi ha hs h1 h2
set_option maxRecDepth 100000 in
theorem m_X11_setType {T : List aT} {I : aI} {J : aJ} {R : aR} {m : aI} {c n : Nat} {sq : Nat → Nat} {g : Nat} {gq eq : Nat → Nat} {r p : Nat} {pq : Nat → Nat} {k : Nat} (h9 : G9 T I J R m c n sq g gq eq r p pq k) (t u v w d e : Int32) (hd9 : d = 0 ∨ d = 1) (he9 : e = 0 ∨ e = 1) : MX11_setType 3 200 [.ref 0, .int t, .int u, .int v, .int w, .int d, .int e] T I J R (CPv [exI, exA, exS] I J m c (fun k y m2 => ((0 ≤ t ∧ t ≤ 2) ∧ ((0 ≤ u ∧ u ≤ 7) ∧ (0 ≤ v ∧ v ≤ 7) ∧ (0 ≤ w ∧ w ≤ 7)) ∧ ¬ (anyB (fun j => decide (m 62 j = t)) g = true ∨ anyB (fun j => decide (m 66 j = t)) r = true) ∧ k = 0 ∧ m2 = tyM m t.toNatClampNeg u v w d e) ∨ ((0 ≤ t ∧ t ≤ 2) ∧ ((0 ≤ u ∧ u ≤ 7) ∧ (0 ≤ v ∧ v ≤ 7) ∧ (0 ≤ w ∧ w ≤ 7)) ∧ (anyB (fun j => decide (m 62 j = t)) g = true ∨ anyB (fun j => decide (m 66 j = t)) r = true) ∧ k = 3 ∧ m2 = m) ∨ ((0 ≤ t ∧ t ≤ 2) ∧ ¬ ((0 ≤ u ∧ u ≤ 7) ∧ (0 ≤ v ∧ v ≤ 7) ∧ (0 ≤ w ∧ w ≤ 7)) ∧ k = 2 ∧ m2 = m) ∨ (¬ (0 ≤ t ∧ t ≤ 2) ∧ k = 1 ∧ m2 = m))) := by
  refine a_met (by decide +kernel) a_le (fun X hC hq => ?_)
  show AW X 0 0 0 [some (.ref 0), some (.int t), some (.int u), some (.int v), some (.int w), some (.int d), some (.int e), none] [] T I J R
  have hT := h9.hT
  have hR := h9.hR
  have hG := h9.ces.gn
  have hg := h9.es.1.1
  have hg4 := hg.g4
  have hgn := hG.1
  have hE := h9.ces.en
  have hRs := h9.ces.rs
  have hr60 := hRs.r60
  have hY := h9.ces.ty
  refine aw_iload_n hC dX11_setType_0 rfl ?_
  refine aw_iconst (v := 3) hC dX11_setType_1 (by decide) ?_
  refine kX11_64 hC rfl (m_X11_isBelow t (3 : Int32)) dX11_setType_2 rfl a_le a_le a_le a_le a_le rfl aPure_x (aPure_k ?_)
  show AW X 0 0 5 [some (.ref 0), some (.int t), some (.int u), some (.int v), some (.int w), some (.int d), some (.int e), none] [.int (bI (decide (0 ≤ t ∧ t < (3 : Int32))))] T I J R
  by_cases hn1 : bI (decide (0 ≤ t ∧ t < (3 : Int32))) = 0
  · rw [hn1]
    exact kX11_68 hC rfl (m_X11_needIndexF (T := T) (I := I) (J := J) (R := R)) dX11_setType_5 rfl a_le a_le a_le a_le a_le rfl (aTh_x (ae_out hC hq a_le a_le (CPv.th (j := 0) rfl (Or.inr (Or.inr (Or.inr ⟨fun q => absurd (show 0 ≤ t ∧ t < 3 from ⟨q.1, i_lt3 q.2⟩) (of_decide_eq_false (bI_e0.mp (by assumption))), rfl, rfl⟩))) h9.gi))) aTh_k
  · refine kX11_68 hC rfl (m_X11_needIndexT (T := T) (I := I) (J := J) (R := R) (x := bI (decide (0 ≤ t ∧ t < (3 : Int32)))) hn1) dX11_setType_5 rfl a_le a_le a_le a_le a_le rfl aPure_x (aPure_k ?_)
    show AW X 0 0 8 [some (.ref 0), some (.int t), some (.int u), some (.int v), some (.int w), some (.int d), some (.int e), none] [] T I J R
    have hfct : 0 ≤ t ∧ t < 3 := of_decide_eq_true (bI_n0.mp (by assumption))
    obtain ⟨t1, ht1, et1⟩ := i_nat (x := t) (b := 3) hfct.1 hfct.2 rfl (by first | decide | omega)
    subst et1
    show AW X 0 0 8 [some (.ref 0), some (.int (nI t1)), some (.int u), some (.int v), some (.int w), some (.int d), some (.int e), none] [] T I J R
    refine aw_iload_n hC dX11_setType_8 rfl ?_
    refine aw_iconst (v := 0) hC dX11_setType_9 (by decide) ?_
    refine aw_bipush (v := 7) hC dX11_setType_10 (by decide) ?_
    refine kX11_126 hC rfl (m_X11_isWithin u (0 : Int32) (7 : Int32)) dX11_setType_12 rfl a_le a_le a_le a_le a_le rfl aPure_x (aPure_k ?_)
    show AW X 0 0 15 [some (.ref 0), some (.int (nI t1)), some (.int u), some (.int v), some (.int w), some (.int d), some (.int e), none] [.int (bI (decide ((0 : Int32) ≤ u ∧ u ≤ (7 : Int32))))] T I J R
    refine aw_if_eq (tgt := 43) hC dX11_setType_15 (by decide) (fun h2 => ?_) (fun h2 => ?_)
    · show AW X 0 0 43 [some (.ref 0), some (.int (nI t1)), some (.int u), some (.int v), some (.int w), some (.int d), some (.int e), none] [] T I J R
      refine aw_iconst (v := 0) hC dX11_setType_43 (by decide) ?_
      exact kX11_130 hC rfl (m_X11_needArgumentF (T := T) (I := I) (J := J) (R := R)) dX11_setType_44 rfl a_le a_le a_le a_le a_le rfl (aTh_x (ae_out hC hq a_le a_le (CPv.th (j := 1) rfl (Or.inr (Or.inr (Or.inl ⟨⟨hfct.1, i_le2 hfct.2⟩, by clear hC hq; (try simp only [bI_e0, bI_n0, decide_eq_false_iff_not, decide_eq_true_eq, Classical.not_not] at *); (simp only [i_lt, i_le, i_eq, Int32.reduceToInt] at *); omega, rfl, rfl⟩))) h9.gi))) aTh_k
    · show AW X 0 0 18 [some (.ref 0), some (.int (nI t1)), some (.int u), some (.int v), some (.int w), some (.int d), some (.int e), none] [] T I J R
      refine aw_iload_n hC dX11_setType_18 rfl ?_
      refine aw_iconst (v := 0) hC dX11_setType_19 (by decide) ?_
      refine aw_bipush (v := 7) hC dX11_setType_20 (by decide) ?_
      refine kX11_126 hC rfl (m_X11_isWithin v (0 : Int32) (7 : Int32)) dX11_setType_22 rfl a_le a_le a_le a_le a_le rfl aPure_x (aPure_k ?_)
      show AW X 0 0 25 [some (.ref 0), some (.int (nI t1)), some (.int u), some (.int v), some (.int w), some (.int d), some (.int e), none] [.int (bI (decide ((0 : Int32) ≤ v ∧ v ≤ (7 : Int32))))] T I J R
      refine aw_if_eq (tgt := 43) hC dX11_setType_25 (by decide) (fun h3 => ?_) (fun h3 => ?_)
      · show AW X 0 0 43 [some (.ref 0), some (.int (nI t1)), some (.int u), some (.int v), some (.int w), some (.int d), some (.int e), none] [] T I J R
        refine aw_iconst (v := 0) hC dX11_setType_43 (by decide) ?_
        exact kX11_130 hC rfl (m_X11_needArgumentF (T := T) (I := I) (J := J) (R := R)) dX11_setType_44 rfl a_le a_le a_le a_le a_le rfl (aTh_x (ae_out hC hq a_le a_le (CPv.th (j := 1) rfl (Or.inr (Or.inr (Or.inl ⟨⟨hfct.1, i_le2 hfct.2⟩, by clear hC hq; (try simp only [bI_e0, bI_n0, decide_eq_false_iff_not, decide_eq_true_eq, Classical.not_not] at *); (simp only [i_lt, i_le, i_eq, Int32.reduceToInt] at *); omega, rfl, rfl⟩))) h9.gi))) aTh_k
      · show AW X 0 0 28 [some (.ref 0), some (.int (nI t1)), some (.int u), some (.int v), some (.int w), some (.int d), some (.int e), none] [] T I J R
        refine aw_iload hC dX11_setType_28 rfl ?_
        refine aw_iconst (v := 0) hC dX11_setType_30 (by decide) ?_
        refine aw_bipush (v := 7) hC dX11_setType_31 (by decide) ?_
        refine kX11_126 hC rfl (m_X11_isWithin w (0 : Int32) (7 : Int32)) dX11_setType_33 rfl a_le a_le a_le a_le a_le rfl aPure_x (aPure_k ?_)
        show AW X 0 0 36 [some (.ref 0), some (.int (nI t1)), some (.int u), some (.int v), some (.int w), some (.int d), some (.int e), none] [.int (bI (decide ((0 : Int32) ≤ w ∧ w ≤ (7 : Int32))))] T I J R
        refine aw_if_eq (tgt := 43) hC dX11_setType_36 (by decide) (fun h4 => ?_) (fun h4 => ?_)
        · show AW X 0 0 43 [some (.ref 0), some (.int (nI t1)), some (.int u), some (.int v), some (.int w), some (.int d), some (.int e), none] [] T I J R
          refine aw_iconst (v := 0) hC dX11_setType_43 (by decide) ?_
          exact kX11_130 hC rfl (m_X11_needArgumentF (T := T) (I := I) (J := J) (R := R)) dX11_setType_44 rfl a_le a_le a_le a_le a_le rfl (aTh_x (ae_out hC hq a_le a_le (CPv.th (j := 1) rfl (Or.inr (Or.inr (Or.inl ⟨⟨hfct.1, i_le2 hfct.2⟩, by clear hC hq; (try simp only [bI_e0, bI_n0, decide_eq_false_iff_not, decide_eq_true_eq, Classical.not_not] at *); (simp only [i_lt, i_le, i_eq, Int32.reduceToInt] at *); omega, rfl, rfl⟩))) h9.gi))) aTh_k
        · show AW X 0 0 39 [some (.ref 0), some (.int (nI t1)), some (.int u), some (.int v), some (.int w), some (.int d), some (.int e), none] [] T I J R
          refine aw_iconst (v := 1) hC dX11_setType_39 (by decide) ?_
          refine aw_goto (tgt := 44) hC dX11_setType_40 (by decide) ?_
          have huc : ((0 ≤ u ∧ u ≤ 7) ∧ (0 ≤ v ∧ v ≤ 7) ∧ (0 ≤ w ∧ w ≤ 7)) := by clear hC hq; (try simp only [bI_e0, bI_n0, decide_eq_false_iff_not, decide_eq_true_eq, Classical.not_not] at *); (simp only [i_lt, i_le, i_eq, Int32.reduceToInt] at *); omega
          refine kX11_130 hC rfl (m_X11_needArgumentT (T := T) (I := I) (J := J) (R := R) (x := 1) (by decide)) dX11_setType_44 rfl a_le a_le a_le a_le a_le rfl aPure_x (aPure_k ?_)
          show AW X 0 0 47 [some (.ref 0), some (.int (nI t1)), some (.int u), some (.int v), some (.int w), some (.int d), some (.int e), none] [] T I J R
          refine aw_aload_n hC dX11_setType_47 rfl ?_
          refine aw_getR hC dX11_setType_48 aF_X11_28 rfl (tg_0 hT) (pr_0_2 hR) ?_
          refine aw_iload_n hC dX11_setType_51 rfl ?_
          refine kX11_194 hC rfl (m_X4_isInUse (I := I) hT hR hG hg hRs (nI t1)) dX11_setType_52 (tg_19 hT) rfl a_le a_le a_le a_le a_le rfl aPure_x (aPure_k ?_)
          show AW X 0 0 55 [some (.ref 0), some (.int (nI t1)), some (.int u), some (.int v), some (.int w), some (.int d), some (.int e), none] [.int (bI (anyB (fun j => decide (m 62 j = nI t1)) g || anyB (fun j => decide (m 66 j = nI t1)) r))] T I J R
          refine aw_if_ne (tgt := 62) hC dX11_setType_55 (by decide) (fun h5 => ?_) (fun h5 => ?_)
          · show AW X 0 0 62 [some (.ref 0), some (.int (nI t1)), some (.int u), some (.int v), some (.int w), some (.int d), some (.int e), none] [] T I J R
            refine aw_iconst (v := 0) hC dX11_setType_62 (by decide) ?_
            exact kX11_88 hC rfl (m_X11_needStateF (T := T) (I := I) (J := J) (R := R)) dX11_setType_63 rfl a_le a_le a_le a_le a_le rfl (aTh_x (ae_out hC hq a_le a_le (CPv.th (j := 2) rfl (Or.inr (Or.inl ⟨⟨hfct.1, i_le2 hfct.2⟩, huc, by have q9 := bI_n0.mp (by assumption : ¬ bI (anyB (fun j => decide (m 62 j = nI t1)) g || anyB (fun j => decide (m 66 j = nI t1)) r) = 0); rw [Bool.or_eq_true] at q9; exact q9, rfl, rfl⟩)) h9.gi))) aTh_k
          · show AW X 0 0 58 [some (.ref 0), some (.int (nI t1)), some (.int u), some (.int v), some (.int w), some (.int d), some (.int e), none] [] T I J R
            refine aw_iconst (v := 1) hC dX11_setType_58 (by decide) ?_
            refine aw_goto (tgt := 63) hC dX11_setType_59 (by decide) ?_
            refine kX11_88 hC rfl (m_X11_needStateT (T := T) (I := I) (J := J) (R := R) (x := 1) (by decide)) dX11_setType_63 rfl a_le a_le a_le a_le a_le rfl aPure_x (aPure_k ?_)
            show AW X 0 0 66 [some (.ref 0), some (.int (nI t1)), some (.int u), some (.int v), some (.int w), some (.int d), some (.int e), none] [] T I J R
            have hnu : ¬ (anyB (fun j => decide (m 62 j = nI t1)) g = true ∨ anyB (fun j => decide (m 66 j = nI t1)) r = true) := fun q => by have q9 := bI_e0.mp (by assumption : bI (anyB (fun j => decide (m 62 j = nI t1)) g || anyB (fun j => decide (m 66 j = nI t1)) r) = 0); rw [← Bool.or_eq_true, q9] at q; cases q
            have hun : ∀ i, i < g → iN m 62 i ≠ t1 := fun i hi e => hnu (Or.inl (anyB_iff.mpr ⟨i, hi, decide_eq_true (by rw [← e]; exact (hg.2.2.2.1 i (by omega)).1)⟩))
            rcases (show t1 = 0 ∨ t1 = 1 ∨ t1 = 2 by omega) with et | et | et
            · subst et
              show AW X 0 0 66 [some (.ref 0), some (.int 0), some (.int u), some (.int v), some (.int w), some (.int d), some (.int e), none] [] T I J R
              refine aw_aload_n hC dX11_setType_66 rfl ?_
              refine aw_getR hC dX11_setType_67 aF_X11_28 rfl (tg_0 hT) (pr_0_2 hR) ?_
              refine aw_getR hC dX11_setType_70 aF_X11_198 rfl (tg_19 hT) (pr_19_0 hR) ?_
              refine aw_iload_n hC dX11_setType_73 rfl ?_
              refine aw_aaloadR_k (j := 0) hC dX11_setType_74 (tg_20 hT) (by decide) (by unfold vp_in; decide) (pr_20_0 hR) ?_
              refine aw_astore (L2 := [some (.ref 0), some (.int 0), some (.int u), some (.int v), some (.int w), some (.int d), some (.int e), some (.ref 27)]) hC dX11_setType_75 (by decide) rfl ?_
              refine aw_aload hC dX11_setType_77 rfl ?_
              refine aw_getR hC dX11_setType_79 aF_X11_202 rfl (tg_27 hT) (pr_27_0 hR) ?_
              refine aw_iconst (v := 0) hC dX11_setType_82 (by decide) ?_
              refine aw_iload_n hC dX11_setType_83 rfl ?_
              refine aw_iastore_k (j := 0) hC dX11_setType_84 (tg_28 hT) (by decide) (by unfold vp_in; decide) ?_
              refine aw_aload hC dX11_setType_85 rfl ?_
              refine aw_getR hC dX11_setType_87 aF_X11_202 rfl (tg_27 hT) (pr_27_0 hR) ?_
              refine aw_iconst (v := 1) hC dX11_setType_90 (by decide) ?_
              refine aw_iload_n hC dX11_setType_91 rfl ?_
              refine aw_iastore_k (j := 1) hC dX11_setType_92 (tg_28 hT) (by decide) (by unfold vp_in; decide) ?_
              refine aw_aload hC dX11_setType_93 rfl ?_
              refine aw_getR hC dX11_setType_95 aF_X11_202 rfl (tg_27 hT) (pr_27_0 hR) ?_
              refine aw_iconst (v := 2) hC dX11_setType_98 (by decide) ?_
              refine aw_iload hC dX11_setType_99 rfl ?_
              refine aw_iastore_k (j := 2) hC dX11_setType_101 (tg_28 hT) (by decide) (by unfold vp_in; decide) ?_
              refine aw_aload hC dX11_setType_102 rfl ?_
              refine aw_iload hC dX11_setType_104 rfl ?_
              refine aw_putZ hC dX11_setType_106 aF_X11_207 rfl rfl (tg_27 hT) (by first | assumption | exact bI_01 _) ?_
              refine aw_aload hC dX11_setType_109 rfl ?_
              refine aw_iload hC dX11_setType_111 rfl ?_
              refine aw_putZ hC dX11_setType_113 aF_X11_210 rfl rfl (tg_27 hT) (by first | assumption | exact bI_01 _) ?_
              exact aw_return hC hq rfl dX11_setType_116 a_le a_le (CPv.ok (Or.inl ⟨⟨hfct.1, i_le2 hfct.2⟩, huc, hnu, rfl, by rw [nI_clamp (by decide)]⟩) (fun o x y => ⟨by rw [a_u_row (by omega), a_u_row (by omega), a_u_row (by omega), a_u_row (by omega), a_u_row (by omega)], rfl⟩) (h9.est (S := fun o => o = 27 ∨ o = 28) (List.prefix_refl _) (fun o _ _ z => by rw [a_u_row (fun y => z (Or.inl y)), a_u_row (fun y => z (Or.inl y)), a_u_row (fun y => z (Or.inr y)), a_u_row (fun y => z (Or.inr y)), a_u_row (fun y => z (Or.inr y))]) (fun _ _ _ _ => rfl) (fun o z => Or.inl (by omega)) h9.hR (h9.ces.sty (t := 0) hT (by decide)) (h9.es.sty hun) (Nat.le_refl _) (Nat.le_refl _) (fun o z => tyM_o (by omega) (by omega) (by omega)) (fun k _ _ _ => by rw [tyM_o (by decide) (by decide) (by decide)]) (fun _ x _ z => by rw [tyM_o (by decide) (by decide) (by decide)]; exact z)).gi)
            · subst et
              show AW X 0 0 66 [some (.ref 0), some (.int 1), some (.int u), some (.int v), some (.int w), some (.int d), some (.int e), none] [] T I J R
              refine aw_aload_n hC dX11_setType_66 rfl ?_
              refine aw_getR hC dX11_setType_67 aF_X11_28 rfl (tg_0 hT) (pr_0_2 hR) ?_
              refine aw_getR hC dX11_setType_70 aF_X11_198 rfl (tg_19 hT) (pr_19_0 hR) ?_
              refine aw_iload_n hC dX11_setType_73 rfl ?_
              refine aw_aaloadR_k (j := 1) hC dX11_setType_74 (tg_20 hT) (by decide) (by unfold vp_in; decide) (pr_20_1 hR) ?_
              refine aw_astore (L2 := [some (.ref 0), some (.int 1), some (.int u), some (.int v), some (.int w), some (.int d), some (.int e), some (.ref 29)]) hC dX11_setType_75 (by decide) rfl ?_
              refine aw_aload hC dX11_setType_77 rfl ?_
              refine aw_getR hC dX11_setType_79 aF_X11_202 rfl (tg_29 hT) (pr_29_0 hR) ?_
              refine aw_iconst (v := 0) hC dX11_setType_82 (by decide) ?_
              refine aw_iload_n hC dX11_setType_83 rfl ?_
              refine aw_iastore_k (j := 0) hC dX11_setType_84 (tg_30 hT) (by decide) (by unfold vp_in; decide) ?_
              refine aw_aload hC dX11_setType_85 rfl ?_
              refine aw_getR hC dX11_setType_87 aF_X11_202 rfl (tg_29 hT) (pr_29_0 hR) ?_
              refine aw_iconst (v := 1) hC dX11_setType_90 (by decide) ?_
              refine aw_iload_n hC dX11_setType_91 rfl ?_
              refine aw_iastore_k (j := 1) hC dX11_setType_92 (tg_30 hT) (by decide) (by unfold vp_in; decide) ?_
              refine aw_aload hC dX11_setType_93 rfl ?_
              refine aw_getR hC dX11_setType_95 aF_X11_202 rfl (tg_29 hT) (pr_29_0 hR) ?_
              refine aw_iconst (v := 2) hC dX11_setType_98 (by decide) ?_
              refine aw_iload hC dX11_setType_99 rfl ?_
              refine aw_iastore_k (j := 2) hC dX11_setType_101 (tg_30 hT) (by decide) (by unfold vp_in; decide) ?_
              refine aw_aload hC dX11_setType_102 rfl ?_
              refine aw_iload hC dX11_setType_104 rfl ?_
              refine aw_putZ hC dX11_setType_106 aF_X11_207 rfl rfl (tg_29 hT) (by first | assumption | exact bI_01 _) ?_
              refine aw_aload hC dX11_setType_109 rfl ?_
              refine aw_iload hC dX11_setType_111 rfl ?_
              refine aw_putZ hC dX11_setType_113 aF_X11_210 rfl rfl (tg_29 hT) (by first | assumption | exact bI_01 _) ?_
              exact aw_return hC hq rfl dX11_setType_116 a_le a_le (CPv.ok (Or.inl ⟨⟨hfct.1, i_le2 hfct.2⟩, huc, hnu, rfl, by rw [nI_clamp (by decide)]⟩) (fun o x y => ⟨by rw [a_u_row (by omega), a_u_row (by omega), a_u_row (by omega), a_u_row (by omega), a_u_row (by omega)], rfl⟩) (h9.est (S := fun o => o = 29 ∨ o = 30) (List.prefix_refl _) (fun o _ _ z => by rw [a_u_row (fun y => z (Or.inl y)), a_u_row (fun y => z (Or.inl y)), a_u_row (fun y => z (Or.inr y)), a_u_row (fun y => z (Or.inr y)), a_u_row (fun y => z (Or.inr y))]) (fun _ _ _ _ => rfl) (fun o z => Or.inl (by omega)) h9.hR (h9.ces.sty (t := 1) hT (by decide)) (h9.es.sty hun) (Nat.le_refl _) (Nat.le_refl _) (fun o z => tyM_o (by omega) (by omega) (by omega)) (fun k _ _ _ => by rw [tyM_o (by decide) (by decide) (by decide)]) (fun _ x _ z => by rw [tyM_o (by decide) (by decide) (by decide)]; exact z)).gi)
            · subst et
              show AW X 0 0 66 [some (.ref 0), some (.int 2), some (.int u), some (.int v), some (.int w), some (.int d), some (.int e), none] [] T I J R
              refine aw_aload_n hC dX11_setType_66 rfl ?_
              refine aw_getR hC dX11_setType_67 aF_X11_28 rfl (tg_0 hT) (pr_0_2 hR) ?_
              refine aw_getR hC dX11_setType_70 aF_X11_198 rfl (tg_19 hT) (pr_19_0 hR) ?_
              refine aw_iload_n hC dX11_setType_73 rfl ?_
              refine aw_aaloadR_k (j := 2) hC dX11_setType_74 (tg_20 hT) (by decide) (by unfold vp_in; decide) (pr_20_2 hR) ?_
              refine aw_astore (L2 := [some (.ref 0), some (.int 2), some (.int u), some (.int v), some (.int w), some (.int d), some (.int e), some (.ref 31)]) hC dX11_setType_75 (by decide) rfl ?_
              refine aw_aload hC dX11_setType_77 rfl ?_
              refine aw_getR hC dX11_setType_79 aF_X11_202 rfl (tg_31 hT) (pr_31_0 hR) ?_
              refine aw_iconst (v := 0) hC dX11_setType_82 (by decide) ?_
              refine aw_iload_n hC dX11_setType_83 rfl ?_
              refine aw_iastore_k (j := 0) hC dX11_setType_84 (tg_32 hT) (by decide) (by unfold vp_in; decide) ?_
              refine aw_aload hC dX11_setType_85 rfl ?_
              refine aw_getR hC dX11_setType_87 aF_X11_202 rfl (tg_31 hT) (pr_31_0 hR) ?_
              refine aw_iconst (v := 1) hC dX11_setType_90 (by decide) ?_
              refine aw_iload_n hC dX11_setType_91 rfl ?_
              refine aw_iastore_k (j := 1) hC dX11_setType_92 (tg_32 hT) (by decide) (by unfold vp_in; decide) ?_
              refine aw_aload hC dX11_setType_93 rfl ?_
              refine aw_getR hC dX11_setType_95 aF_X11_202 rfl (tg_31 hT) (pr_31_0 hR) ?_
              refine aw_iconst (v := 2) hC dX11_setType_98 (by decide) ?_
              refine aw_iload hC dX11_setType_99 rfl ?_
              refine aw_iastore_k (j := 2) hC dX11_setType_101 (tg_32 hT) (by decide) (by unfold vp_in; decide) ?_
              refine aw_aload hC dX11_setType_102 rfl ?_
              refine aw_iload hC dX11_setType_104 rfl ?_
              refine aw_putZ hC dX11_setType_106 aF_X11_207 rfl rfl (tg_31 hT) (by first | assumption | exact bI_01 _) ?_
              refine aw_aload hC dX11_setType_109 rfl ?_
              refine aw_iload hC dX11_setType_111 rfl ?_
              refine aw_putZ hC dX11_setType_113 aF_X11_210 rfl rfl (tg_31 hT) (by first | assumption | exact bI_01 _) ?_
              exact aw_return hC hq rfl dX11_setType_116 a_le a_le (CPv.ok (Or.inl ⟨⟨hfct.1, i_le2 hfct.2⟩, huc, hnu, rfl, by rw [nI_clamp (by decide)]⟩) (fun o x y => ⟨by rw [a_u_row (by omega), a_u_row (by omega), a_u_row (by omega), a_u_row (by omega), a_u_row (by omega)], rfl⟩) (h9.est (S := fun o => o = 31 ∨ o = 32) (List.prefix_refl _) (fun o _ _ z => by rw [a_u_row (fun y => z (Or.inl y)), a_u_row (fun y => z (Or.inl y)), a_u_row (fun y => z (Or.inr y)), a_u_row (fun y => z (Or.inr y)), a_u_row (fun y => z (Or.inr y))]) (fun _ _ _ _ => rfl) (fun o z => Or.inl (by omega)) h9.hR (h9.ces.sty (t := 2) hT (by decide)) (h9.es.sty hun) (Nat.le_refl _) (Nat.le_refl _) (fun o z => tyM_o (by omega) (by omega) (by omega)) (fun k _ _ _ => by rw [tyM_o (by decide) (by decide) (by decide)]) (fun _ x _ z => by rw [tyM_o (by decide) (by decide) (by decide)]; exact z)).gi)
