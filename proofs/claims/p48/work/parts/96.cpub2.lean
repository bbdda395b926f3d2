theorem ison_g9 {T : List aT} {I : aI} {J : aJ} {R : aR} {m : aI} {c n : Nat} {sq : Nat → Nat} {g : Nat} {gq eq : Nat → Nat} {r p : Nat} {pq : Nat → Nat} {k : Nat} (h9 : G9 T I J R m c n sq g gq eq r p pq k) : bI (decide (R 38 3 ≠ none)) = bI (decide (0 ≤ m 44 43)) := by
  refine bI_cg ?_
  rcases h9.pl.2.2.2.2.2.2.2 with e | ⟨i, a, e, hi, _⟩
  · rw [h9.cap.1 (by rw [e]; decide), e]; exact ⟨fun q => absurd rfl q, fun q => absurd q (by decide)⟩
  · have h40 := h9.pl.2.1
    rw [(h9.cap.2.1 i (by omega) e).1, e]
    exact ⟨fun _ => nI_pos' (by omega), fun _ q => by cases q⟩
set_option maxRecDepth 100000 in
theorem m_X11_isApplying {T : List aT} {I : aI} {J : aJ} {R : aR} {m : aI} {c n : Nat} {sq : Nat → Nat} {g : Nat} {gq eq : Nat → Nat} {r p : Nat} {pq : Nat → Nat} {k : Nat} (h9 : G9 T I J R m c n sq g gq eq r p pq k)  : MX11_isApplying 3 200 [.ref 0] T I J R (CP [] I J m c (fun k v m2 => k = 0 ∧ v = bI (decide (0 ≤ m 44 43)) ∧ m2 = m)) := by
  refine a_met (by decide +kernel) a_le (fun X hC hq => ?_)
  show AW X 0 0 0 [some (.ref 0)] [] T I J R
  have hT := h9.hT
  have hR := h9.hR
  refine aw_aload_n hC dX11_isApplying_0 rfl ?_
  refine aw_getR hC dX11_isApplying_1 aF_X11_46 rfl (tg_0 hT) (pr_0_4 hR) ?_
  refine kX11_312 hC rfl (m_X0_isOn (I := I) hT hR rfl) dX11_isApplying_4 (tg_38 hT) rfl a_le a_le a_le a_le a_le rfl aPure_x (aPure_k ?_)
  show AW X 0 0 7 [some (.ref 0)] [.int (bI (decide (R 38 3 ≠ none)))] T I J R
  rw [(ison_g9 h9)]
  exact aw_zreturn hC hq rfl (bI_01 _) dX11_isApplying_7 a_le a_le (CP.ok ⟨rfl, rfl, rfl⟩ (fun _ _ _ => ⟨rfl, rfl⟩) h9.gi)
set_option maxRecDepth 100000 in
theorem m_X11_entry {T : List aT} {I : aI} {J : aJ} {R : aR} {m : aI} {c n : Nat} {sq : Nat → Nat} {g : Nat} {gq eq : Nat → Nat} {r p : Nat} {pq : Nat → Nat} {k : Nat} (h9 : G9 T I J R m c n sq g gq eq r p pq k) (x : Int32) : MX11_entry 3 200 [.ref 0, .int x] T I J R (CP [exI] I J m c (fun k v m2 => ((0 ≤ x ∧ x < nI (16 * g)) ∧ k = 0 ∧ v = (if m 69 x.toNatClampNeg = 0 then -1 else 100 * (m 69 x.toNatClampNeg - 1) + 10 * m 72 x.toNatClampNeg + (if m 71 x.toNatClampNeg = 0 then 0 else 1)) ∧ m2 = m) ∨ (¬ (0 ≤ x ∧ x < nI (16 * g)) ∧ k = 1 ∧ m2 = m))) := by
  refine a_met (by decide +kernel) a_le (fun X hC hq => ?_)
  show AW X 0 0 0 [some (.ref 0), some (.int x), none] [] T I J R
  have hT := h9.hT
  have hR := h9.hR
  have hG := h9.ces.gn
  have hg := h9.es.1.1
  have hg4 := hg.g4
  have hgn := hG.1
  have hE := h9.ces.en
  have hRs := h9.ces.rs
  have hr60 := hRs.r60
  have hY := h9.ces.ty
  refine aw_aload_n hC dX11_entry_0 rfl ?_
  refine aw_getR hC dX11_entry_1 aF_X11_28 rfl (tg_0 hT) (pr_0_2 hR) ?_
  refine aw_iload_n hC dX11_entry_4 rfl ?_
  refine kX11_260 hC rfl (m_X4_isName (I := I) hT hR hgn x) dX11_entry_5 (tg_19 hT) rfl a_le a_le a_le a_le a_le rfl aPure_x (aPure_k ?_)
  show AW X 0 0 8 [some (.ref 0), some (.int x), none] [.int (bI (decide (0 ≤ x ∧ x < nI (16 * g))))] T I J R
  by_cases hn1 : bI (decide (0 ≤ x ∧ x < nI (16 * g))) = 0
  · rw [hn1]
    exact kX11_68 hC rfl (m_X11_needIndexF (T := T) (I := I) (J := J) (R := R)) dX11_entry_8 rfl a_le a_le a_le a_le a_le rfl (aTh_x (ae_out hC hq a_le a_le (CP.th (j := 0) rfl (Or.inr ⟨of_decide_eq_false (bI_e0.mp (by assumption)), rfl, rfl⟩) h9.gi))) aTh_k
  · refine kX11_68 hC rfl (m_X11_needIndexT (T := T) (I := I) (J := J) (R := R) (x := bI (decide (0 ≤ x ∧ x < nI (16 * g)))) hn1) dX11_entry_8 rfl a_le a_le a_le a_le a_le rfl aPure_x (aPure_k ?_)
    show AW X 0 0 11 [some (.ref 0), some (.int x), none] [] T I J R
    have hfcx : 0 ≤ x ∧ x < nI (16 * g) := of_decide_eq_true (bI_n0.mp (by assumption))
    obtain ⟨x1, hx1, ex1⟩ := i_nat (x := x) (b := 16 * g) hfcx.1 hfcx.2 rfl (by first | decide | omega)
    subst ex1
    show AW X 0 0 11 [some (.ref 0), some (.int (nI x1)), none] [] T I J R
    refine aw_aload_n hC dX11_entry_11 rfl ?_
    refine aw_getR hC dX11_entry_12 aF_X11_28 rfl (tg_0 hT) (pr_0_2 hR) ?_
    refine aw_getR hC dX11_entry_15 aF_X11_318 rfl (tg_19 hT) (pr_19_7 hR) ?_
    refine aw_iload_n hC dX11_entry_18 rfl ?_
    by_cases h69 : m 69 x1 = 0
    · show AW X 0 0 19 [some (.ref 0), some (.int (nI x1)), none] [.int (nI x1), .ref 25] T I J R
      refine aw_aaloadN_k (j := x1) hC dX11_entry_19 (tg_25 hT) (nI_clamp (by omega)) (vp_in_nI (by omega) (by decide)) (hE.no (by omega) h69) ?_
      refine aw_astore_nN (L2 := [some (.ref 0), some (.int (nI x1)), some (.null)]) hC dX11_entry_20 rfl (by decide) rfl ?_
      refine aw_aload_nN hC dX11_entry_21 rfl ?_
      refine aw_ifnonnullN hC dX11_entry_22 ?_
      refine aw_iconst (v := (-1)) hC dX11_entry_25 (by decide) ?_
      exact aw_ireturn hC hq rfl dX11_entry_26 a_le a_le (CP.ok (Or.inl ⟨hfcx, rfl, by rw [nI_clamp (by omega), if_pos h69], rfl⟩) (fun _ _ _ => ⟨rfl, rfl⟩) h9.gi)
    · show AW X 0 0 19 [some (.ref 0), some (.int (nI x1)), none] [.int (nI x1), .ref 25] T I J R
      refine aw_aaloadR_k (j := x1) hC dX11_entry_19 (tg_25 hT) (nI_clamp (by omega)) (vp_in_nI (by omega) (by decide)) (hE.rf (by omega) h69) ?_
      refine aw_astore_n (L2 := [some (.ref 0), some (.int (nI x1)), some (.ref (eq x1))]) hC dX11_entry_20 rfl (by decide) rfl ?_
      refine aw_aload_n hC dX11_entry_21 rfl ?_
      refine aw_ifnonnull (tgt := 27) hC dX11_entry_22 (by decide) ?_
      refine aw_bipush (v := 100) hC dX11_entry_27 (by decide) ?_
      refine aw_aload_n hC dX11_entry_29 rfl ?_
      refine aw_getI hC dX11_entry_30 aF_X11_322 rfl (hE.tg (by omega) h69) ?_
      rw [(hE.rs (by omega) h69)]
      refine aw_imul hC dX11_entry_33 ?_
      refine aw_bipush (v := 10) hC dX11_entry_34 (by decide) ?_
      refine aw_aload_n hC dX11_entry_36 rfl ?_
      refine aw_getI hC dX11_entry_37 aF_X11_327 rfl (hE.tg (by omega) h69) ?_
      rw [(hE.ad (by omega) h69)]
      refine aw_imul hC dX11_entry_40 ?_
      refine aw_iadd hC dX11_entry_41 ?_
      refine aw_aload_n hC dX11_entry_42 rfl ?_
      refine aw_getI hC dX11_entry_43 aF_X11_330 rfl (hE.tg (by omega) h69) ?_
      rw [(hE.bd (by omega) h69)]
      refine aw_if_eq (tgt := 53) hC dX11_entry_46 (by decide) (fun h2 => ?_) (fun h2 => ?_)
      · show AW X 0 0 53 [some (.ref 0), some (.int (nI x1)), some (.ref (eq x1))] [.int ((100 * (m 69 x1 - 1)) + (10 * (m 72 x1)))] T I J R
        refine aw_iconst (v := 0) hC dX11_entry_53 (by decide) ?_
        refine aw_iadd hC dX11_entry_54 ?_
        exact aw_ireturn hC hq rfl dX11_entry_55 a_le a_le (CP.ok (Or.inl ⟨hfcx, rfl, by rw [nI_clamp (by omega), if_neg h69, if_pos (by assumption)], rfl⟩) (fun _ _ _ => ⟨rfl, rfl⟩) h9.gi)
      · show AW X 0 0 49 [some (.ref 0), some (.int (nI x1)), some (.ref (eq x1))] [.int ((100 * (m 69 x1 - 1)) + (10 * (m 72 x1)))] T I J R
        refine aw_iconst (v := 1) hC dX11_entry_49 (by decide) ?_
        refine aw_goto (tgt := 54) hC dX11_entry_50 (by decide) ?_
        refine aw_iadd hC dX11_entry_54 ?_
        exact aw_ireturn hC hq rfl dX11_entry_55 a_le a_le (CP.ok (Or.inl ⟨hfcx, rfl, by rw [nI_clamp (by omega), if_neg h69, if_neg (by assumption)], rfl⟩) (fun _ _ _ => ⟨rfl, rfl⟩) h9.gi)
theorem at3 {x a : Nat} (hx : x < 10000) (ha : a < 3) : (3 * nI x + nI a).toNatClampNeg = 3 * x + a := by
  rw [show (3 * nI x + nI a : Int32) = nI (3 * x + a) from by rw [← nI_add, ← pk_mul, show nI 3 = 3 from rfl], nI_clamp (by omega)]
theorem i_le2 {a : Int32} (h : a < 3) : a ≤ 2 := by simp only [i_lt, i_le, Int32.reduceToInt] at *; omega
theorem i_lt3 {a : Int32} (h : a ≤ 2) : a < 3 := by simp only [i_lt, i_le, Int32.reduceToInt] at *; omega
set_option maxRecDepth 100000 in
theorem m_X11_stored {T : List aT} {I : aI} {J : aJ} {R : aR} {m : aI} {c n : Nat} {sq : Nat → Nat} {g : Nat} {gq eq : Nat → Nat} {r p : Nat} {pq : Nat → Nat} {k : Nat} (h9 : G9 T I J R m c n sq g gq eq r p pq k) (x a : Int32) : MX11_stored 3 200 [.ref 0, .int x, .int a] T I J R (CP [exI] I J m c (fun k v m2 => (((0 ≤ x ∧ x < nI (16 * g)) ∧ m 69 x.toNatClampNeg ≠ 0 ∧ (0 ≤ a ∧ a ≤ 2)) ∧ k = 0 ∧ v = m 70 (3 * x + a).toNatClampNeg ∧ m2 = m) ∨ (¬ ((0 ≤ x ∧ x < nI (16 * g)) ∧ m 69 x.toNatClampNeg ≠ 0 ∧ (0 ≤ a ∧ a ≤ 2)) ∧ k = 1 ∧ m2 = m))) := by
  refine a_met (by decide +kernel) a_le (fun X hC hq => ?_)
  show AW X 0 0 0 [some (.ref 0), some (.int x), some (.int a), none] [] T I J R
  have hT := h9.hT
  have hR := h9.hR
  have hG := h9.ces.gn
  have hg := h9.es.1.1
  have hg4 := hg.g4
  have hgn := hG.1
  have hE := h9.ces.en
  have hRs := h9.ces.rs
  have hr60 := hRs.r60
  have hY := h9.ces.ty
  refine aw_aload_n hC dX11_stored_0 rfl ?_
  refine aw_getR hC dX11_stored_1 aF_X11_28 rfl (tg_0 hT) (pr_0_2 hR) ?_
  refine aw_iload_n hC dX11_stored_4 rfl ?_
  refine kX11_260 hC rfl (m_X4_isName (I := I) hT hR hgn x) dX11_stored_5 (tg_19 hT) rfl a_le a_le a_le a_le a_le rfl aPure_x (aPure_k ?_)
  show AW X 0 0 8 [some (.ref 0), some (.int x), some (.int a), none] [.int (bI (decide (0 ≤ x ∧ x < nI (16 * g))))] T I J R
  refine aw_if_eq (tgt := 23) hC dX11_stored_8 (by decide) (fun h1 => ?_) (fun h1 => ?_)
  · show AW X 0 0 23 [some (.ref 0), some (.int x), some (.int a), none] [] T I J R
    refine aw_iconst (v := 0) hC dX11_stored_23 (by decide) ?_
    exact kX11_68 hC rfl (m_X11_needIndexF (T := T) (I := I) (J := J) (R := R)) dX11_stored_24 rfl a_le a_le a_le a_le a_le rfl (aTh_x (ae_out hC hq a_le a_le (CP.th (j := 0) rfl (Or.inr ⟨fun q => by first | exact absurd q.1 (of_decide_eq_false (bI_e0.mp (by assumption))) | exact absurd (show 0 ≤ a ∧ a < 3 from ⟨q.2.2.1, i_lt3 q.2.2.2⟩) (of_decide_eq_false (bI_e0.mp (by assumption))), rfl, rfl⟩) h9.gi))) aTh_k
  · show AW X 0 0 11 [some (.ref 0), some (.int x), some (.int a), none] [] T I J R
    refine aw_iload_n hC dX11_stored_11 rfl ?_
    refine aw_iconst (v := 3) hC dX11_stored_12 (by decide) ?_
    refine kX11_64 hC rfl (m_X11_isBelow a (3 : Int32)) dX11_stored_13 rfl a_le a_le a_le a_le a_le rfl aPure_x (aPure_k ?_)
    show AW X 0 0 16 [some (.ref 0), some (.int x), some (.int a), none] [.int (bI (decide (0 ≤ a ∧ a < (3 : Int32))))] T I J R
    refine aw_if_eq (tgt := 23) hC dX11_stored_16 (by decide) (fun h2 => ?_) (fun h2 => ?_)
    · show AW X 0 0 23 [some (.ref 0), some (.int x), some (.int a), none] [] T I J R
      refine aw_iconst (v := 0) hC dX11_stored_23 (by decide) ?_
      exact kX11_68 hC rfl (m_X11_needIndexF (T := T) (I := I) (J := J) (R := R)) dX11_stored_24 rfl a_le a_le a_le a_le a_le rfl (aTh_x (ae_out hC hq a_le a_le (CP.th (j := 0) rfl (Or.inr ⟨fun q => by first | exact absurd q.1 (of_decide_eq_false (bI_e0.mp (by assumption))) | exact absurd (show 0 ≤ a ∧ a < 3 from ⟨q.2.2.1, i_lt3 q.2.2.2⟩) (of_decide_eq_false (bI_e0.mp (by assumption))), rfl, rfl⟩) h9.gi))) aTh_k
    · show AW X 0 0 19 [some (.ref 0), some (.int x), some (.int a), none] [] T I J R
      refine aw_iconst (v := 1) hC dX11_stored_19 (by decide) ?_
      refine aw_goto (tgt := 24) hC dX11_stored_20 (by decide) ?_
      refine kX11_68 hC rfl (m_X11_needIndexT (T := T) (I := I) (J := J) (R := R) (x := 1) (by decide)) dX11_stored_24 rfl a_le a_le a_le a_le a_le rfl aPure_x (aPure_k ?_)
      show AW X 0 0 27 [some (.ref 0), some (.int x), some (.int a), none] [] T I J R
      have hfcx : 0 ≤ x ∧ x < nI (16 * g) := of_decide_eq_true (bI_n0.mp (by assumption))
      obtain ⟨x1, hx1, ex1⟩ := i_nat (x := x) (b := 16 * g) hfcx.1 hfcx.2 rfl (by first | decide | omega)
      subst ex1
      have hfca : 0 ≤ a ∧ a < 3 := of_decide_eq_true (bI_n0.mp (by assumption))
      obtain ⟨a1, ha1, ea1⟩ := i_nat (x := a) (b := 3) hfca.1 hfca.2 rfl (by first | decide | omega)
      subst ea1
      show AW X 0 0 27 [some (.ref 0), some (.int (nI x1)), some (.int (nI a1)), none] [] T I J R
      refine aw_aload_n hC dX11_stored_27 rfl ?_
      refine aw_getR hC dX11_stored_28 aF_X11_28 rfl (tg_0 hT) (pr_0_2 hR) ?_
      refine aw_getR hC dX11_stored_31 aF_X11_318 rfl (tg_19 hT) (pr_19_7 hR) ?_
      refine aw_iload_n hC dX11_stored_34 rfl ?_
      by_cases h69 : m 69 x1 = 0
      · show AW X 0 0 35 [some (.ref 0), some (.int (nI x1)), some (.int (nI a1)), none] [.int (nI x1), .ref 25] T I J R
        refine aw_aaloadN_k (j := x1) hC dX11_stored_35 (tg_25 hT) (nI_clamp (by omega)) (vp_in_nI (by omega) (by decide)) (hE.no (by omega) h69) ?_
        refine aw_astore_nN (L2 := [some (.ref 0), some (.int (nI x1)), some (.int (nI a1)), some (.null)]) hC dX11_stored_36 rfl (by decide) rfl ?_
        refine aw_aload_nN hC dX11_stored_37 rfl ?_
        refine aw_ifnullN (tgt := 45) hC dX11_stored_38 (by decide) ?_
        refine aw_iconst (v := 0) hC dX11_stored_45 (by decide) ?_
        exact kX11_68 hC rfl (m_X11_needIndexF (T := T) (I := I) (J := J) (R := R)) dX11_stored_46 rfl a_le a_le a_le a_le a_le rfl (aTh_x (ae_out hC hq a_le a_le (CP.th (j := 0) rfl (Or.inr ⟨fun q => q.2.1 (by rw [nI_clamp (by omega)]; exact h69), rfl, rfl⟩) h9.gi))) aTh_k
      · show AW X 0 0 35 [some (.ref 0), some (.int (nI x1)), some (.int (nI a1)), none] [.int (nI x1), .ref 25] T I J R
        refine aw_aaloadR_k (j := x1) hC dX11_stored_35 (tg_25 hT) (nI_clamp (by omega)) (vp_in_nI (by omega) (by decide)) (hE.rf (by omega) h69) ?_
        refine aw_astore_n (L2 := [some (.ref 0), some (.int (nI x1)), some (.int (nI a1)), some (.ref (eq x1))]) hC dX11_stored_36 rfl (by decide) rfl ?_
        refine aw_aload_n hC dX11_stored_37 rfl ?_
        refine aw_ifnull hC dX11_stored_38 ?_
        refine aw_iconst (v := 1) hC dX11_stored_41 (by decide) ?_
        refine aw_goto (tgt := 46) hC dX11_stored_42 (by decide) ?_
        refine kX11_68 hC rfl (m_X11_needIndexT (T := T) (I := I) (J := J) (R := R) (x := 1) (by decide)) dX11_stored_46 rfl a_le a_le a_le a_le a_le rfl aPure_x (aPure_k ?_)
        show AW X 0 0 49 [some (.ref 0), some (.int (nI x1)), some (.int (nI a1)), some (.ref (eq x1))] [] T I J R
        refine aw_aload_n hC dX11_stored_49 rfl ?_
        refine aw_getR hC dX11_stored_50 aF_X11_333 rfl (hE.tg (by omega) h69) (hE.r1 (by omega) h69) ?_
        refine aw_iload_n hC dX11_stored_53 rfl ?_
        refine aw_iaload_k (j := a1) hC dX11_stored_54 (hE.t1 (by omega) h69) (nI_clamp (by omega)) (vp_in_nI (by omega) (by decide)) ?_
        rw [(hE.vl (by omega) h69 (by omega))]
        exact aw_ireturn hC hq rfl dX11_stored_55 a_le a_le (CP.ok (Or.inl ⟨⟨hfcx, by rw [nI_clamp (by omega)]; exact h69, hfca.1, i_le2 hfca.2⟩, rfl, by rw [at3 (by omega) (by omega)], rfl⟩) (fun _ _ _ => ⟨rfl, rfl⟩) h9.gi)
set_option maxRecDepth 100000 in
theorem m_X11_real {T : List aT} {I : aI} {J : aJ} {R : aR} {m : aI} {c n : Nat} {sq : Nat → Nat} {g : Nat} {gq eq : Nat → Nat} {r p : Nat} {pq : Nat → Nat} {k : Nat} (h9 : G9 T I J R m c n sq g gq eq r p pq k) (x a : Int32) : MX11_real 3 200 [.ref 0, .int x, .int a] T I J R (CP [exI] I J m c (fun k v m2 => (((0 ≤ x ∧ x < nI r) ∧ (0 ≤ a ∧ a ≤ 2)) ∧ k = 0 ∧ v = (if m 68 x.toNatClampNeg = 0 then m 67 (3 * x + a).toNatClampNeg else -1) ∧ m2 = m) ∨ (¬ ((0 ≤ x ∧ x < nI r) ∧ (0 ≤ a ∧ a ≤ 2)) ∧ k = 1 ∧ m2 = m))) := by
  refine a_met (by decide +kernel) a_le (fun X hC hq => ?_)
  show AW X 0 0 0 [some (.ref 0), some (.int x), some (.int a)] [] T I J R
  have hT := h9.hT
  have hR := h9.hR
  have hG := h9.ces.gn
  have hg := h9.es.1.1
  have hg4 := hg.g4
  have hgn := hG.1
  have hE := h9.ces.en
  have hRs := h9.ces.rs
  have hr60 := hRs.r60
  have hY := h9.ces.ty
  refine aw_iload_n hC dX11_real_0 rfl ?_
  refine aw_aload_n hC dX11_real_1 rfl ?_
  refine aw_getR hC dX11_real_2 aF_X11_28 rfl (tg_0 hT) (pr_0_2 hR) ?_
  refine aw_getI hC dX11_real_5 aF_X11_335 rfl (tg_19 hT) ?_
  rw [hRs.1]
  refine kX11_64 hC rfl (m_X11_isBelow x (nI r)) dX11_real_8 rfl a_le a_le a_le a_le a_le rfl aPure_x (aPure_k ?_)
  show AW X 0 0 11 [some (.ref 0), some (.int x), some (.int a)] [.int (bI (decide (0 ≤ x ∧ x < (nI r))))] T I J R
  refine aw_if_eq (tgt := 26) hC dX11_real_11 (by decide) (fun h1 => ?_) (fun h1 => ?_)
  · show AW X 0 0 26 [some (.ref 0), some (.int x), some (.int a)] [] T I J R
    refine aw_iconst (v := 0) hC dX11_real_26 (by decide) ?_
    exact kX11_68 hC rfl (m_X11_needIndexF (T := T) (I := I) (J := J) (R := R)) dX11_real_27 rfl a_le a_le a_le a_le a_le rfl (aTh_x (ae_out hC hq a_le a_le (CP.th (j := 0) rfl (Or.inr ⟨fun q => by first | exact absurd q.1 (of_decide_eq_false (bI_e0.mp (by assumption))) | exact absurd (show 0 ≤ a ∧ a < 3 from ⟨q.2.1, i_lt3 q.2.2⟩) (of_decide_eq_false (bI_e0.mp (by assumption))), rfl, rfl⟩) h9.gi))) aTh_k
  · show AW X 0 0 14 [some (.ref 0), some (.int x), some (.int a)] [] T I J R
    refine aw_iload_n hC dX11_real_14 rfl ?_
    refine aw_iconst (v := 3) hC dX11_real_15 (by decide) ?_
    refine kX11_64 hC rfl (m_X11_isBelow a (3 : Int32)) dX11_real_16 rfl a_le a_le a_le a_le a_le rfl aPure_x (aPure_k ?_)
    show AW X 0 0 19 [some (.ref 0), some (.int x), some (.int a)] [.int (bI (decide (0 ≤ a ∧ a < (3 : Int32))))] T I J R
    refine aw_if_eq (tgt := 26) hC dX11_real_19 (by decide) (fun h2 => ?_) (fun h2 => ?_)
    · show AW X 0 0 26 [some (.ref 0), some (.int x), some (.int a)] [] T I J R
      refine aw_iconst (v := 0) hC dX11_real_26 (by decide) ?_
      exact kX11_68 hC rfl (m_X11_needIndexF (T := T) (I := I) (J := J) (R := R)) dX11_real_27 rfl a_le a_le a_le a_le a_le rfl (aTh_x (ae_out hC hq a_le a_le (CP.th (j := 0) rfl (Or.inr ⟨fun q => by first | exact absurd q.1 (of_decide_eq_false (bI_e0.mp (by assumption))) | exact absurd (show 0 ≤ a ∧ a < 3 from ⟨q.2.1, i_lt3 q.2.2⟩) (of_decide_eq_false (bI_e0.mp (by assumption))), rfl, rfl⟩) h9.gi))) aTh_k
    · show AW X 0 0 22 [some (.ref 0), some (.int x), some (.int a)] [] T I J R
      refine aw_iconst (v := 1) hC dX11_real_22 (by decide) ?_
      refine aw_goto (tgt := 27) hC dX11_real_23 (by decide) ?_
      refine kX11_68 hC rfl (m_X11_needIndexT (T := T) (I := I) (J := J) (R := R) (x := 1) (by decide)) dX11_real_27 rfl a_le a_le a_le a_le a_le rfl aPure_x (aPure_k ?_)
      show AW X 0 0 30 [some (.ref 0), some (.int x), some (.int a)] [] T I J R
      have hfcx : 0 ≤ x ∧ x < nI (r) := of_decide_eq_true (bI_n0.mp (by assumption))
      obtain ⟨x1, hx1, ex1⟩ := i_nat (x := x) (b := r) hfcx.1 hfcx.2 rfl (by first | decide | omega)
      subst ex1
      have hfca : 0 ≤ a ∧ a < 3 := of_decide_eq_true (bI_n0.mp (by assumption))
      obtain ⟨a1, ha1, ea1⟩ := i_nat (x := a) (b := 3) hfca.1 hfca.2 rfl (by first | decide | omega)
      subst ea1
      show AW X 0 0 30 [some (.ref 0), some (.int (nI x1)), some (.int (nI a1))] [] T I J R
      refine aw_aload_n hC dX11_real_30 rfl ?_
      refine aw_getR hC dX11_real_31 aF_X11_28 rfl (tg_0 hT) (pr_0_2 hR) ?_
      refine aw_getR hC dX11_real_34 aF_X11_338 rfl (tg_19 hT) (pr_19_5 hR) ?_
      refine aw_iload_n hC dX11_real_37 rfl ?_
      refine aw_baload_k (j := x1) hC dX11_real_38 (tg_24 hT) (nI_clamp (by omega)) (vp_in_nI (by omega) (by decide)) ?_
      rw [(hRs.2.2.2.1 x1 (by omega)).2.1]
      refine aw_if_eq (tgt := 46) hC dX11_real_39 (by decide) (fun h3 => ?_) (fun h3 => ?_)
      · show AW X 0 0 46 [some (.ref 0), some (.int (nI x1)), some (.int (nI a1))] [] T I J R
        refine aw_aload_n hC dX11_real_46 rfl ?_
        refine aw_getR hC dX11_real_47 aF_X11_28 rfl (tg_0 hT) (pr_0_2 hR) ?_
        refine aw_getR hC dX11_real_50 aF_X11_342 rfl (tg_19 hT) (pr_19_4 hR) ?_
        refine aw_iload_n hC dX11_real_53 rfl ?_
        refine aw_iconst (v := 3) hC dX11_real_54 (by decide) ?_
        refine aw_imul hC dX11_real_55 ?_
        rw [show (nI x1) * 3 = nI (x1 * 3) from pk_mul x1 3]
        refine aw_iload_n hC dX11_real_56 rfl ?_
        refine aw_iadd hC dX11_real_57 ?_
        rw [show (nI (x1 * 3)) + (nI a1) = nI ((x1 * 3) + a1) from nI_add (x1 * 3) a1]
        refine aw_iaload_k (j := ((x1 * 3) + a1)) hC dX11_real_58 (tg_23 hT) (nI_clamp (by omega)) (vp_in_nI (by omega) (by decide)) ?_
        exact aw_ireturn hC hq rfl dX11_real_59 a_le a_le (CP.ok (Or.inl ⟨⟨hfcx, hfca.1, i_le2 hfca.2⟩, rfl, by rw [at3 (by omega) (by omega), nI_clamp (by omega), if_pos (by assumption), ← (hRs.2.2.2.1 x1 (by omega)).2.2 (by assumption) a1 (by omega), Nat.mul_comm], rfl⟩) (fun _ _ _ => ⟨rfl, rfl⟩) h9.gi)
      · show AW X 0 0 42 [some (.ref 0), some (.int (nI x1)), some (.int (nI a1))] [] T I J R
        refine aw_iconst (v := (-1)) hC dX11_real_42 (by decide) ?_
        refine aw_goto (tgt := 59) hC dX11_real_43 (by decide) ?_
        exact aw_ireturn hC hq rfl dX11_real_59 a_le a_le (CP.ok (Or.inl ⟨⟨hfcx, hfca.1, i_le2 hfca.2⟩, rfl, by rw [nI_clamp (by omega), if_neg (by assumption)], rfl⟩) (fun _ _ _ => ⟨rfl, rfl⟩) h9.gi)
