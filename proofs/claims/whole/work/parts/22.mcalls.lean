set_option maxRecDepth 100000 in
theorem m_X12_setLayer {T : List aT} {I : aI} {J : aJ} {R : aR} (hT : aPT T) (hR : aPR R) (f l : Int32) : MX12_setLayer 0 0 [.ref 44, .int f, .int l] T I J R (aPure (some (.int (if (0 ≤ f ∧ f ≤ 5) ∧ (0 ≤ l ∧ l ≤ 3) then I 54 f.toNatClampNeg else 0))) T (if (0 ≤ f ∧ f ≤ 5) ∧ (0 ≤ l ∧ l ≤ 3) then a_u (a_u I 44 61 0) 54 f.toNatClampNeg l else a_u I 44 61 1) J R) := by
  refine a_met (by decide +kernel) a_le (fun X hC hq => ?_)
  show AW X 0 0 0 [some (.ref 44), some (.int f), some (.int l), none] [] T I J R
  refine aw_aload_n hC dX12_setLayer_0 rfl ?_
  refine aw_iload_n hC dX12_setLayer_1 rfl ?_
  refine aw_iconst (v := 0) hC dX12_setLayer_2 (by decide) ?_
  refine aw_iconst (v := 5) hC dX12_setLayer_3 (by decide) ?_
  refine kX12_169 hC rfl (m_X12_isIn f (0 : Int32) (5 : Int32)) dX12_setLayer_4 rfl a_le a_le a_le a_le a_le rfl aPure_x (aPure_k ?_)
  show AW X 0 0 7 [some (.ref 44), some (.int f), some (.int l), none] [.int (bI (decide ((0 : Int32) ≤ f ∧ f ≤ (5 : Int32)))), .ref 44] T I J R
  refine aw_if_eq (tgt := 23) hC dX12_setLayer_7 (by decide) (fun h1 => ?_) (fun h1 => ?_)
  · show AW X 0 0 23 [some (.ref 44), some (.int f), some (.int l), none] [.ref 44] T I J R
    refine aw_iconst (v := 1) hC dX12_setLayer_23 (by decide) ?_
    refine aw_putI hC dX12_setLayer_24 aF_X12_166 rfl rfl (tg_44 hT) ?_
    refine aw_aload_n hC dX12_setLayer_27 rfl ?_
    refine aw_getI hC dX12_setLayer_28 aF_X12_166 rfl (tg_44 hT) ?_
    rw [a_u_self (f := I) (o := 44) (k := 61) (v := 1)]
    refine aw_if_le (tgt := 36) hC dX12_setLayer_31 (by decide) (fun h2 => absurd h2 (by decide)) (fun _ => ?_)
    show AW X 0 0 34 [some (.ref 44), some (.int f), some (.int l), none] [] T (a_u I 44 61 1) J R
    refine aw_iconst (v := 0) hC dX12_setLayer_34 (by decide) ?_
    exact aw_ireturn hC hq rfl dX12_setLayer_35 a_le a_le (aPure_e (by clear hC hq; (try simp only [bI_e0, bI_n0, decide_eq_false_iff_not, decide_eq_true_eq, Classical.not_not] at *); grind) (by clear hC hq; (try simp only [bI_e0, bI_n0, decide_eq_false_iff_not, decide_eq_true_eq, Classical.not_not] at *); grind) rfl rfl)
  · show AW X 0 0 10 [some (.ref 44), some (.int f), some (.int l), none] [.ref 44] T I J R
    refine aw_iload_n hC dX12_setLayer_10 rfl ?_
    refine aw_iconst (v := 0) hC dX12_setLayer_11 (by decide) ?_
    refine aw_iconst (v := 3) hC dX12_setLayer_12 (by decide) ?_
    refine kX12_169 hC rfl (m_X12_isIn l (0 : Int32) (3 : Int32)) dX12_setLayer_13 rfl a_le a_le a_le a_le a_le rfl aPure_x (aPure_k ?_)
    show AW X 0 0 16 [some (.ref 44), some (.int f), some (.int l), none] [.int (bI (decide ((0 : Int32) ≤ l ∧ l ≤ (3 : Int32)))), .ref 44] T I J R
    refine aw_if_eq (tgt := 23) hC dX12_setLayer_16 (by decide) (fun h3 => ?_) (fun h3 => ?_)
    · show AW X 0 0 23 [some (.ref 44), some (.int f), some (.int l), none] [.ref 44] T I J R
      refine aw_iconst (v := 1) hC dX12_setLayer_23 (by decide) ?_
      refine aw_putI hC dX12_setLayer_24 aF_X12_166 rfl rfl (tg_44 hT) ?_
      refine aw_aload_n hC dX12_setLayer_27 rfl ?_
      refine aw_getI hC dX12_setLayer_28 aF_X12_166 rfl (tg_44 hT) ?_
      rw [a_u_self (f := I) (o := 44) (k := 61) (v := 1)]
      refine aw_if_le (tgt := 36) hC dX12_setLayer_31 (by decide) (fun h4 => absurd h4 (by decide)) (fun _ => ?_)
      show AW X 0 0 34 [some (.ref 44), some (.int f), some (.int l), none] [] T (a_u I 44 61 1) J R
      refine aw_iconst (v := 0) hC dX12_setLayer_34 (by decide) ?_
      exact aw_ireturn hC hq rfl dX12_setLayer_35 a_le a_le (aPure_e (by clear hC hq; (try simp only [bI_e0, bI_n0, decide_eq_false_iff_not, decide_eq_true_eq, Classical.not_not] at *); grind) (by clear hC hq; (try simp only [bI_e0, bI_n0, decide_eq_false_iff_not, decide_eq_true_eq, Classical.not_not] at *); grind) rfl rfl)
    · show AW X 0 0 19 [some (.ref 44), some (.int f), some (.int l), none] [.ref 44] T I J R
      refine aw_iconst (v := 0) hC dX12_setLayer_19 (by decide) ?_
      refine aw_goto (tgt := 24) hC dX12_setLayer_20 (by decide) ?_
      refine aw_putI hC dX12_setLayer_24 aF_X12_166 rfl rfl (tg_44 hT) ?_
      refine aw_aload_n hC dX12_setLayer_27 rfl ?_
      refine aw_getI hC dX12_setLayer_28 aF_X12_166 rfl (tg_44 hT) ?_
      rw [a_u_self (f := I) (o := 44) (k := 61) (v := 0)]
      refine aw_if_le (tgt := 36) hC dX12_setLayer_31 (by decide) (fun _ => ?_) (fun h5 => absurd h5 (by decide))
      show AW X 0 0 36 [some (.ref 44), some (.int f), some (.int l), none] [] T (a_u I 44 61 0) J R
      refine aw_aload_n hC dX12_setLayer_36 rfl ?_
      refine aw_getR hC dX12_setLayer_37 aF_X12_38 rfl (tg_44 hT) (pr_44_10 hR) ?_
      refine aw_iload_n hC dX12_setLayer_40 rfl ?_
      refine aw_iaload_k (j := f.toNatClampNeg) hC dX12_setLayer_41 (tg_54 hT) rfl (vp_in_iff.mpr (by clear hC hq; (try simp only [bI_e0, bI_n0, decide_eq_false_iff_not, decide_eq_true_eq, Classical.not_not] at *); (simp only [i_le, i_lt, i_eq, Int32.reduceToInt] at *); omega)) ?_
      rw [a_u_ne (f := I) (o := 44) (k := 61) (a := 54) (b := f.toNatClampNeg) (v := 0) (fun q => absurd q.1 (by decide))]
      refine aw_istore_n (L2 := [some (.ref 44), some (.int f), some (.int l), some (.int (I 54 f.toNatClampNeg))]) hC dX12_setLayer_42 rfl (by decide) rfl ?_
      refine aw_aload_n hC dX12_setLayer_43 rfl ?_
      refine aw_getR hC dX12_setLayer_44 aF_X12_38 rfl (tg_44 hT) (pr_44_10 hR) ?_
      refine aw_iload_n hC dX12_setLayer_47 rfl ?_
      refine aw_iload_n hC dX12_setLayer_48 rfl ?_
      refine aw_iastore_k (j := f.toNatClampNeg) hC dX12_setLayer_49 (tg_54 hT) rfl (vp_in_iff.mpr (by clear hC hq; (try simp only [bI_e0, bI_n0, decide_eq_false_iff_not, decide_eq_true_eq, Classical.not_not] at *); (simp only [i_le, i_lt, i_eq, Int32.reduceToInt] at *); omega)) ?_
      refine aw_iload_n hC dX12_setLayer_50 rfl ?_
      exact aw_ireturn hC hq rfl dX12_setLayer_51 a_le a_le (aPure_e (by clear hC hq; (try simp only [bI_e0, bI_n0, decide_eq_false_iff_not, decide_eq_true_eq, Classical.not_not] at *); grind) (by clear hC hq; (try simp only [bI_e0, bI_n0, decide_eq_false_iff_not, decide_eq_true_eq, Classical.not_not] at *); grind) rfl rfl)
