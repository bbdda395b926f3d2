theorem mPl_iff {its f a : Int32} : mPlaces its f a ↔ ((its = 12 ∧ 0 ≤ f ∧ f ≤ 2) ∨ (¬ its = 12 ∧ 0 ≤ f ∧ f ≤ 9)) ∧ (¬ (its = 5 ∨ its = 6) ∨ (0 ≤ a ∧ a ≤ 9)) := by
  unfold mPlaces
  by_cases h : its = 12
  · rw [if_pos h]; simp [h]
  · rw [if_neg h]; simp [h]
/-- what needStatement leaves -/
def NsP (its f a b : Int32) (n : Nat) (T : List aT) (I : aI) (J : aJ) (R : aR) : aP := fun o T2 I2 J2 R2 => T2 = T ∧ I2 = I ∧ J2 = J ∧ R2 = R ∧ ((o = .inl none ∧ mCode its f a b n = 0) ∨ (o = .inr exI ∧ mCode its f a b n = 1) ∨ (o = .inr exA ∧ mCode its f a b n = 2) ∨ (o = .inr exS ∧ mCode its f a b n = 3))
theorem mC_1 {its f a b : Int32} {n : Nat} (h : ¬ mPlaces its f a) : mCode its f a b n = 1 := if_pos h
theorem mC_2 {its f a b : Int32} {n : Nat} (h : mPlaces its f a) (h2 : ¬ mRange its a b) : mCode its f a b n = 2 := by unfold mCode; rw [if_neg (not_not_intro h), if_pos h2]
theorem mC_3 {its f a b : Int32} {n : Nat} (h : mPlaces its f a) (h2 : mRange its a b) (h3 : n = 30) : mCode its f a b n = 3 := by unfold mCode; rw [if_neg (not_not_intro h), if_neg (not_not_intro h2), if_pos h3]
theorem mC_0 {its f a b : Int32} {n : Nat} (h : mPlaces its f a) (h2 : mRange its a b) (h3 : ¬ n = 30) : mCode its f a b n = 0 := by unfold mCode; rw [if_neg (not_not_intro h), if_neg (not_not_intro h2), if_neg h3]
set_option maxRecDepth 100000 in
theorem m_X11_needStatement {T : List aT} {I : aI} {J : aJ} {R : aR} (hT : aPT T) (hR : aPR R) (its f a b : Int32) {n : Nat} (hn : I 1 1 = nI n) (hn30 : n ≤ 30) : MX11_needStatement 1 6 [.ref 0, .int its, .int f, .int a, .int b] T I J R (NsP its f a b n T I J R) := by
  refine a_met (by decide +kernel) a_le (fun X hC hq => ?_)
  show AW X 0 0 0 [some (.ref 0), some (.int its), some (.int f), some (.int a), some (.int b)] [] T I J R
  have join83 : mPlaces its f a → mRange its a b → AW X 0 0 83 [some (.ref 0), some (.int its), some (.int f), some (.int a), some (.int b)] [] T I J R := by
    intro hmp hmr
    refine aw_aload_n hC dX11_needStatement_83 rfl ?_
    refine aw_getR hC dX11_needStatement_84 aF_X11_10 rfl (tg_0 hT) (pr_0_0 hR) ?_
    refine aw_getI hC dX11_needStatement_87 aF_X11_98 rfl (tg_1 hT) ?_
    rw [hn]
    refine aw_bipush (v := 30) hC dX11_needStatement_90 (by decide) ?_
    refine aw_icmp_ge (tgt := 99) hC dX11_needStatement_92 (by decide) (fun h1 => ?_) (fun h1 => ?_)
    · show AW X 0 0 99 [some (.ref 0), some (.int its), some (.int f), some (.int a), some (.int b)] [] T I J R
      have h1n : 30 ≤ n := (nI_leI (a := 30) (b := n) (by omega) (by omega)).mp h1
      refine aw_iconst (v := 0) hC dX11_needStatement_99 (by decide) ?_
      exact kX11_88 hC rfl (m_X11_needStateF (T := T) (I := I) (J := J) (R := R)) dX11_needStatement_100 rfl a_le a_le a_le a_le a_le rfl (aTh_x (ae_out hC hq a_le a_le ⟨rfl, rfl, rfl, rfl, Or.inr (Or.inr (Or.inr ⟨rfl, mC_3 hmp hmr (by omega)⟩))⟩)) aTh_k
    · show AW X 0 0 95 [some (.ref 0), some (.int its), some (.int f), some (.int a), some (.int b)] [] T I J R
      have h1n : ¬ 30 ≤ n := fun q9 => h1 ((nI_leI (a := 30) (b := n) (by omega) (by omega)).mpr q9)
      refine aw_iconst (v := 1) hC dX11_needStatement_95 (by decide) ?_
      refine aw_goto (tgt := 100) hC dX11_needStatement_96 (by decide) ?_
      refine kX11_88 hC rfl (m_X11_needStateT (T := T) (I := I) (J := J) (R := R) (x := 1) (by decide)) dX11_needStatement_100 rfl a_le a_le a_le a_le a_le rfl aPure_x (aPure_k ?_)
      show AW X 0 0 103 [some (.ref 0), some (.int its), some (.int f), some (.int a), some (.int b)] [] T I J R
      exact aw_return hC hq rfl dX11_needStatement_103 a_le a_le ⟨rfl, rfl, rfl, rfl, Or.inl ⟨rfl, mC_0 hmp hmr (by omega)⟩⟩
  have join47 : mPlaces its f a → AW X 0 0 47 [some (.ref 0), some (.int its), some (.int f), some (.int a), some (.int b)] [] T I J R := by
    intro hmp
    refine aw_iload_n hC dX11_needStatement_47 rfl ?_
    refine aw_iconst (v := 0) hC dX11_needStatement_48 (by decide) ?_
    refine aw_bipush (v := 12) hC dX11_needStatement_49 (by decide) ?_
    refine kX11_126 hC rfl (m_X11_isWithin its (0 : Int32) (12 : Int32)) dX11_needStatement_51 rfl a_le a_le a_le a_le a_le rfl aPure_x (aPure_k ?_)
    show AW X 0 0 54 [some (.ref 0), some (.int its), some (.int f), some (.int a), some (.int b)] [.int (bI (decide ((0 : Int32) ≤ its ∧ its ≤ (12 : Int32))))] T I J R
    by_cases hn2 : bI (decide ((0 : Int32) ≤ its ∧ its ≤ (12 : Int32))) = 0
    · rw [hn2]
      exact kX11_130 hC rfl (m_X11_needArgumentF (T := T) (I := I) (J := J) (R := R)) dX11_needStatement_54 rfl a_le a_le a_le a_le a_le rfl (aTh_x (ae_out hC hq a_le a_le ⟨rfl, rfl, rfl, rfl, Or.inr (Or.inr (Or.inl ⟨rfl, mC_2 hmp (by clear hC hq; (try simp only [bI_e0, bI_n0, decide_eq_false_iff_not, decide_eq_true_eq, Classical.not_not] at *); (simp only [mRange, fsN, snN, i_lt, i_le, i_eq, ne_eq, Int32.reduceToInt] at *); omega)⟩))⟩)) aTh_k
    · refine kX11_130 hC rfl (m_X11_needArgumentT (T := T) (I := I) (J := J) (R := R) (x := bI (decide ((0 : Int32) ≤ its ∧ its ≤ (12 : Int32)))) hn2) dX11_needStatement_54 rfl a_le a_le a_le a_le a_le rfl aPure_x (aPure_k ?_)
      show AW X 0 0 57 [some (.ref 0), some (.int its), some (.int f), some (.int a), some (.int b)] [] T I J R
      refine aw_iload_n hC dX11_needStatement_57 rfl ?_
      refine aw_iload_n hC dX11_needStatement_58 rfl ?_
      refine kX11_372 hC rfl (m_X11_isFirstNumber (I := I) its a) dX11_needStatement_59 rfl a_le a_le a_le a_le a_le rfl aPure_x (aPure_k ?_)
      show AW X 0 0 62 [some (.ref 0), some (.int its), some (.int f), some (.int a), some (.int b)] [.int (bI (decide (fsN its a)))] T I J R
      refine aw_if_eq (tgt := 79) hC dX11_needStatement_62 (by decide) (fun h3 => ?_) (fun h3 => ?_)
      · show AW X 0 0 79 [some (.ref 0), some (.int its), some (.int f), some (.int a), some (.int b)] [] T I J R
        refine aw_iconst (v := 0) hC dX11_needStatement_79 (by decide) ?_
        exact kX11_130 hC rfl (m_X11_needArgumentF (T := T) (I := I) (J := J) (R := R)) dX11_needStatement_80 rfl a_le a_le a_le a_le a_le rfl (aTh_x (ae_out hC hq a_le a_le ⟨rfl, rfl, rfl, rfl, Or.inr (Or.inr (Or.inl ⟨rfl, mC_2 hmp (by have hmp2 := mPl_iff.mp hmp; clear hmp; clear hC hq; (try simp only [bI_e0, bI_n0, decide_eq_false_iff_not, decide_eq_true_eq, Classical.not_not] at *); (simp only [mRange, fsN, snN, i_lt, i_le, i_eq, ne_eq, Int32.reduceToInt] at *); omega)⟩))⟩)) aTh_k
      · show AW X 0 0 65 [some (.ref 0), some (.int its), some (.int f), some (.int a), some (.int b)] [] T I J R
        refine aw_iload_n hC dX11_needStatement_65 rfl ?_
        refine aw_iload_n hC dX11_needStatement_66 rfl ?_
        refine aw_iload hC dX11_needStatement_67 rfl ?_
        refine kX11_375 hC rfl (m_X11_isSecondNumber (I := I) its a b) dX11_needStatement_69 rfl a_le a_le a_le a_le a_le rfl aPure_x (aPure_k ?_)
        show AW X 0 0 72 [some (.ref 0), some (.int its), some (.int f), some (.int a), some (.int b)] [.int (bI (decide (snN its a b)))] T I J R
        refine aw_if_eq (tgt := 79) hC dX11_needStatement_72 (by decide) (fun h4 => ?_) (fun h4 => ?_)
        · show AW X 0 0 79 [some (.ref 0), some (.int its), some (.int f), some (.int a), some (.int b)] [] T I J R
          refine aw_iconst (v := 0) hC dX11_needStatement_79 (by decide) ?_
          exact kX11_130 hC rfl (m_X11_needArgumentF (T := T) (I := I) (J := J) (R := R)) dX11_needStatement_80 rfl a_le a_le a_le a_le a_le rfl (aTh_x (ae_out hC hq a_le a_le ⟨rfl, rfl, rfl, rfl, Or.inr (Or.inr (Or.inl ⟨rfl, mC_2 hmp (by have hmp2 := mPl_iff.mp hmp; clear hmp; clear hC hq; (try simp only [bI_e0, bI_n0, decide_eq_false_iff_not, decide_eq_true_eq, Classical.not_not] at *); (simp only [mRange, fsN, snN, i_lt, i_le, i_eq, ne_eq, Int32.reduceToInt] at *); omega)⟩))⟩)) aTh_k
        · show AW X 0 0 75 [some (.ref 0), some (.int its), some (.int f), some (.int a), some (.int b)] [] T I J R
          refine aw_iconst (v := 1) hC dX11_needStatement_75 (by decide) ?_
          refine aw_goto (tgt := 80) hC dX11_needStatement_76 (by decide) ?_
          refine kX11_130 hC rfl (m_X11_needArgumentT (T := T) (I := I) (J := J) (R := R) (x := 1) (by decide)) dX11_needStatement_80 rfl a_le a_le a_le a_le a_le rfl aPure_x (aPure_k ?_)
          show AW X 0 0 83 [some (.ref 0), some (.int its), some (.int f), some (.int a), some (.int b)] [] T I J R
          exact join83 hmp (by clear hC hq; (try simp only [bI_e0, bI_n0, decide_eq_false_iff_not, decide_eq_true_eq, Classical.not_not] at *); (simp only [mRange, fsN, snN, i_lt, i_le, i_eq, ne_eq, Int32.reduceToInt] at *); omega)
  refine aw_iload_n hC dX11_needStatement_0 rfl ?_
  refine aw_iload_n hC dX11_needStatement_1 rfl ?_
  refine aw_bipush (v := 12) hC dX11_needStatement_2 (by decide) ?_
  refine aw_icmp_ne (tgt := 11) hC dX11_needStatement_4 (by decide) (fun h5 => ?_) (fun h5 => ?_)
  · show AW X 0 0 11 [some (.ref 0), some (.int its), some (.int f), some (.int a), some (.int b)] [.int f] T I J R
    refine aw_bipush (v := 10) hC dX11_needStatement_11 (by decide) ?_
    refine kX11_64 hC rfl (m_X11_isBelow f (10 : Int32)) dX11_needStatement_13 rfl a_le a_le a_le a_le a_le rfl aPure_x (aPure_k ?_)
    show AW X 0 0 16 [some (.ref 0), some (.int its), some (.int f), some (.int a), some (.int b)] [.int (bI (decide (0 ≤ f ∧ f < (10 : Int32))))] T I J R
    by_cases hn6 : bI (decide (0 ≤ f ∧ f < (10 : Int32))) = 0
    · rw [hn6]
      exact kX11_68 hC rfl (m_X11_needIndexF (T := T) (I := I) (J := J) (R := R)) dX11_needStatement_16 rfl a_le a_le a_le a_le a_le rfl (aTh_x (ae_out hC hq a_le a_le ⟨rfl, rfl, rfl, rfl, Or.inr (Or.inl ⟨rfl, mC_1 (fun q => by have q9 := mPl_iff.mp q; clear q; clear hC hq; (try simp only [bI_e0, bI_n0, decide_eq_false_iff_not, decide_eq_true_eq, Classical.not_not] at *); (simp only [mRange, fsN, snN, i_lt, i_le, i_eq, ne_eq, Int32.reduceToInt] at *); omega)⟩)⟩)) aTh_k
    · refine kX11_68 hC rfl (m_X11_needIndexT (T := T) (I := I) (J := J) (R := R) (x := bI (decide (0 ≤ f ∧ f < (10 : Int32)))) hn6) dX11_needStatement_16 rfl a_le a_le a_le a_le a_le rfl aPure_x (aPure_k ?_)
      show AW X 0 0 19 [some (.ref 0), some (.int its), some (.int f), some (.int a), some (.int b)] [] T I J R
      refine aw_iload_n hC dX11_needStatement_19 rfl ?_
      refine aw_iconst (v := 5) hC dX11_needStatement_20 (by decide) ?_
      refine aw_icmp_eq (tgt := 30) hC dX11_needStatement_21 (by decide) (fun h7 => ?_) (fun h7 => ?_)
      · show AW X 0 0 30 [some (.ref 0), some (.int its), some (.int f), some (.int a), some (.int b)] [] T I J R
        refine aw_iload_n hC dX11_needStatement_30 rfl ?_
        refine aw_bipush (v := 10) hC dX11_needStatement_31 (by decide) ?_
        refine kX11_64 hC rfl (m_X11_isBelow a (10 : Int32)) dX11_needStatement_33 rfl a_le a_le a_le a_le a_le rfl aPure_x (aPure_k ?_)
        show AW X 0 0 36 [some (.ref 0), some (.int its), some (.int f), some (.int a), some (.int b)] [.int (bI (decide (0 ≤ a ∧ a < (10 : Int32))))] T I J R
        refine aw_if_eq (tgt := 43) hC dX11_needStatement_36 (by decide) (fun h8 => ?_) (fun h8 => ?_)
        · show AW X 0 0 43 [some (.ref 0), some (.int its), some (.int f), some (.int a), some (.int b)] [] T I J R
          refine aw_iconst (v := 0) hC dX11_needStatement_43 (by decide) ?_
          exact kX11_68 hC rfl (m_X11_needIndexF (T := T) (I := I) (J := J) (R := R)) dX11_needStatement_44 rfl a_le a_le a_le a_le a_le rfl (aTh_x (ae_out hC hq a_le a_le ⟨rfl, rfl, rfl, rfl, Or.inr (Or.inl ⟨rfl, mC_1 (fun q => by have q9 := mPl_iff.mp q; clear q; clear hC hq; (try simp only [bI_e0, bI_n0, decide_eq_false_iff_not, decide_eq_true_eq, Classical.not_not] at *); (simp only [mRange, fsN, snN, i_lt, i_le, i_eq, ne_eq, Int32.reduceToInt] at *); omega)⟩)⟩)) aTh_k
        · show AW X 0 0 39 [some (.ref 0), some (.int its), some (.int f), some (.int a), some (.int b)] [] T I J R
          refine aw_iconst (v := 1) hC dX11_needStatement_39 (by decide) ?_
          refine aw_goto (tgt := 44) hC dX11_needStatement_40 (by decide) ?_
          refine kX11_68 hC rfl (m_X11_needIndexT (T := T) (I := I) (J := J) (R := R) (x := 1) (by decide)) dX11_needStatement_44 rfl a_le a_le a_le a_le a_le rfl aPure_x (aPure_k ?_)
          show AW X 0 0 47 [some (.ref 0), some (.int its), some (.int f), some (.int a), some (.int b)] [] T I J R
          exact join47 (mPl_iff.mpr (by clear hC hq; (try simp only [bI_e0, bI_n0, decide_eq_false_iff_not, decide_eq_true_eq, Classical.not_not] at *); (simp only [mRange, fsN, snN, i_lt, i_le, i_eq, ne_eq, Int32.reduceToInt] at *); omega))
      · show AW X 0 0 24 [some (.ref 0), some (.int its), some (.int f), some (.int a), some (.int b)] [] T I J R
        refine aw_iload_n hC dX11_needStatement_24 rfl ?_
        refine aw_bipush (v := 6) hC dX11_needStatement_25 (by decide) ?_
        refine aw_icmp_ne (tgt := 39) hC dX11_needStatement_27 (by decide) (fun h9 => ?_) (fun h9 => ?_)
        · show AW X 0 0 39 [some (.ref 0), some (.int its), some (.int f), some (.int a), some (.int b)] [] T I J R
          refine aw_iconst (v := 1) hC dX11_needStatement_39 (by decide) ?_
          refine aw_goto (tgt := 44) hC dX11_needStatement_40 (by decide) ?_
          refine kX11_68 hC rfl (m_X11_needIndexT (T := T) (I := I) (J := J) (R := R) (x := 1) (by decide)) dX11_needStatement_44 rfl a_le a_le a_le a_le a_le rfl aPure_x (aPure_k ?_)
          show AW X 0 0 47 [some (.ref 0), some (.int its), some (.int f), some (.int a), some (.int b)] [] T I J R
          exact join47 (mPl_iff.mpr (by clear hC hq; (try simp only [bI_e0, bI_n0, decide_eq_false_iff_not, decide_eq_true_eq, Classical.not_not] at *); (simp only [mRange, fsN, snN, i_lt, i_le, i_eq, ne_eq, Int32.reduceToInt] at *); omega))
        · show AW X 0 0 30 [some (.ref 0), some (.int its), some (.int f), some (.int a), some (.int b)] [] T I J R
          refine aw_iload_n hC dX11_needStatement_30 rfl ?_
          refine aw_bipush (v := 10) hC dX11_needStatement_31 (by decide) ?_
          refine kX11_64 hC rfl (m_X11_isBelow a (10 : Int32)) dX11_needStatement_33 rfl a_le a_le a_le a_le a_le rfl aPure_x (aPure_k ?_)
          show AW X 0 0 36 [some (.ref 0), some (.int its), some (.int f), some (.int a), some (.int b)] [.int (bI (decide (0 ≤ a ∧ a < (10 : Int32))))] T I J R
          refine aw_if_eq (tgt := 43) hC dX11_needStatement_36 (by decide) (fun h10 => ?_) (fun h10 => ?_)
          · show AW X 0 0 43 [some (.ref 0), some (.int its), some (.int f), some (.int a), some (.int b)] [] T I J R
            refine aw_iconst (v := 0) hC dX11_needStatement_43 (by decide) ?_
            exact kX11_68 hC rfl (m_X11_needIndexF (T := T) (I := I) (J := J) (R := R)) dX11_needStatement_44 rfl a_le a_le a_le a_le a_le rfl (aTh_x (ae_out hC hq a_le a_le ⟨rfl, rfl, rfl, rfl, Or.inr (Or.inl ⟨rfl, mC_1 (fun q => by have q9 := mPl_iff.mp q; clear q; clear hC hq; (try simp only [bI_e0, bI_n0, decide_eq_false_iff_not, decide_eq_true_eq, Classical.not_not] at *); (simp only [mRange, fsN, snN, i_lt, i_le, i_eq, ne_eq, Int32.reduceToInt] at *); omega)⟩)⟩)) aTh_k
          · show AW X 0 0 39 [some (.ref 0), some (.int its), some (.int f), some (.int a), some (.int b)] [] T I J R
            refine aw_iconst (v := 1) hC dX11_needStatement_39 (by decide) ?_
            refine aw_goto (tgt := 44) hC dX11_needStatement_40 (by decide) ?_
            refine kX11_68 hC rfl (m_X11_needIndexT (T := T) (I := I) (J := J) (R := R) (x := 1) (by decide)) dX11_needStatement_44 rfl a_le a_le a_le a_le a_le rfl aPure_x (aPure_k ?_)
            show AW X 0 0 47 [some (.ref 0), some (.int its), some (.int f), some (.int a), some (.int b)] [] T I J R
            exact join47 (mPl_iff.mpr (by clear hC hq; (try simp only [bI_e0, bI_n0, decide_eq_false_iff_not, decide_eq_true_eq, Classical.not_not] at *); (simp only [mRange, fsN, snN, i_lt, i_le, i_eq, ne_eq, Int32.reduceToInt] at *); omega))
  · show AW X 0 0 7 [some (.ref 0), some (.int its), some (.int f), some (.int a), some (.int b)] [.int f] T I J R
    refine aw_iconst (v := 3) hC dX11_needStatement_7 (by decide) ?_
    refine aw_goto (tgt := 13) hC dX11_needStatement_8 (by decide) ?_
    refine kX11_64 hC rfl (m_X11_isBelow f (3 : Int32)) dX11_needStatement_13 rfl a_le a_le a_le a_le a_le rfl aPure_x (aPure_k ?_)
    show AW X 0 0 16 [some (.ref 0), some (.int its), some (.int f), some (.int a), some (.int b)] [.int (bI (decide (0 ≤ f ∧ f < (3 : Int32))))] T I J R
    by_cases hn11 : bI (decide (0 ≤ f ∧ f < (3 : Int32))) = 0
    · rw [hn11]
      exact kX11_68 hC rfl (m_X11_needIndexF (T := T) (I := I) (J := J) (R := R)) dX11_needStatement_16 rfl a_le a_le a_le a_le a_le rfl (aTh_x (ae_out hC hq a_le a_le ⟨rfl, rfl, rfl, rfl, Or.inr (Or.inl ⟨rfl, mC_1 (fun q => by have q9 := mPl_iff.mp q; clear q; clear hC hq; (try simp only [bI_e0, bI_n0, decide_eq_false_iff_not, decide_eq_true_eq, Classical.not_not] at *); (simp only [mRange, fsN, snN, i_lt, i_le, i_eq, ne_eq, Int32.reduceToInt] at *); omega)⟩)⟩)) aTh_k
    · refine kX11_68 hC rfl (m_X11_needIndexT (T := T) (I := I) (J := J) (R := R) (x := bI (decide (0 ≤ f ∧ f < (3 : Int32)))) hn11) dX11_needStatement_16 rfl a_le a_le a_le a_le a_le rfl aPure_x (aPure_k ?_)
      show AW X 0 0 19 [some (.ref 0), some (.int its), some (.int f), some (.int a), some (.int b)] [] T I J R
      refine aw_iload_n hC dX11_needStatement_19 rfl ?_
      refine aw_iconst (v := 5) hC dX11_needStatement_20 (by decide) ?_
      refine aw_icmp_eq (tgt := 30) hC dX11_needStatement_21 (by decide) (fun h12 => ?_) (fun h12 => ?_)
      · show AW X 0 0 30 [some (.ref 0), some (.int its), some (.int f), some (.int a), some (.int b)] [] T I J R
        refine aw_iload_n hC dX11_needStatement_30 rfl ?_
        refine aw_bipush (v := 10) hC dX11_needStatement_31 (by decide) ?_
        refine kX11_64 hC rfl (m_X11_isBelow a (10 : Int32)) dX11_needStatement_33 rfl a_le a_le a_le a_le a_le rfl aPure_x (aPure_k ?_)
        show AW X 0 0 36 [some (.ref 0), some (.int its), some (.int f), some (.int a), some (.int b)] [.int (bI (decide (0 ≤ a ∧ a < (10 : Int32))))] T I J R
        refine aw_if_eq (tgt := 43) hC dX11_needStatement_36 (by decide) (fun h13 => ?_) (fun h13 => ?_)
        · show AW X 0 0 43 [some (.ref 0), some (.int its), some (.int f), some (.int a), some (.int b)] [] T I J R
          refine aw_iconst (v := 0) hC dX11_needStatement_43 (by decide) ?_
          exact kX11_68 hC rfl (m_X11_needIndexF (T := T) (I := I) (J := J) (R := R)) dX11_needStatement_44 rfl a_le a_le a_le a_le a_le rfl (aTh_x (ae_out hC hq a_le a_le ⟨rfl, rfl, rfl, rfl, Or.inr (Or.inl ⟨rfl, mC_1 (fun q => by have q9 := mPl_iff.mp q; clear q; clear hC hq; (try simp only [bI_e0, bI_n0, decide_eq_false_iff_not, decide_eq_true_eq, Classical.not_not] at *); (simp only [mRange, fsN, snN, i_lt, i_le, i_eq, ne_eq, Int32.reduceToInt] at *); omega)⟩)⟩)) aTh_k
        · show AW X 0 0 39 [some (.ref 0), some (.int its), some (.int f), some (.int a), some (.int b)] [] T I J R
          refine aw_iconst (v := 1) hC dX11_needStatement_39 (by decide) ?_
          refine aw_goto (tgt := 44) hC dX11_needStatement_40 (by decide) ?_
          refine kX11_68 hC rfl (m_X11_needIndexT (T := T) (I := I) (J := J) (R := R) (x := 1) (by decide)) dX11_needStatement_44 rfl a_le a_le a_le a_le a_le rfl aPure_x (aPure_k ?_)
          show AW X 0 0 47 [some (.ref 0), some (.int its), some (.int f), some (.int a), some (.int b)] [] T I J R
          exact join47 (mPl_iff.mpr (by clear hC hq; (try simp only [bI_e0, bI_n0, decide_eq_false_iff_not, decide_eq_true_eq, Classical.not_not] at *); (simp only [mRange, fsN, snN, i_lt, i_le, i_eq, ne_eq, Int32.reduceToInt] at *); omega))
      · show AW X 0 0 24 [some (.ref 0), some (.int its), some (.int f), some (.int a), some (.int b)] [] T I J R
        refine aw_iload_n hC dX11_needStatement_24 rfl ?_
        refine aw_bipush (v := 6) hC dX11_needStatement_25 (by decide) ?_
        refine aw_icmp_ne (tgt := 39) hC dX11_needStatement_27 (by decide) (fun h14 => ?_) (fun h14 => ?_)
        · show AW X 0 0 39 [some (.ref 0), some (.int its), some (.int f), some (.int a), some (.int b)] [] T I J R
          refine aw_iconst (v := 1) hC dX11_needStatement_39 (by decide) ?_
          refine aw_goto (tgt := 44) hC dX11_needStatement_40 (by decide) ?_
          refine kX11_68 hC rfl (m_X11_needIndexT (T := T) (I := I) (J := J) (R := R) (x := 1) (by decide)) dX11_needStatement_44 rfl a_le a_le a_le a_le a_le rfl aPure_x (aPure_k ?_)
          show AW X 0 0 47 [some (.ref 0), some (.int its), some (.int f), some (.int a), some (.int b)] [] T I J R
          exact join47 (mPl_iff.mpr (by clear hC hq; (try simp only [bI_e0, bI_n0, decide_eq_false_iff_not, decide_eq_true_eq, Classical.not_not] at *); (simp only [mRange, fsN, snN, i_lt, i_le, i_eq, ne_eq, Int32.reduceToInt] at *); omega))
        · show AW X 0 0 30 [some (.ref 0), some (.int its), some (.int f), some (.int a), some (.int b)] [] T I J R
          refine aw_iload_n hC dX11_needStatement_30 rfl ?_
          refine aw_bipush (v := 10) hC dX11_needStatement_31 (by decide) ?_
          refine kX11_64 hC rfl (m_X11_isBelow a (10 : Int32)) dX11_needStatement_33 rfl a_le a_le a_le a_le a_le rfl aPure_x (aPure_k ?_)
          show AW X 0 0 36 [some (.ref 0), some (.int its), some (.int f), some (.int a), some (.int b)] [.int (bI (decide (0 ≤ a ∧ a < (10 : Int32))))] T I J R
          refine aw_if_eq (tgt := 43) hC dX11_needStatement_36 (by decide) (fun h15 => ?_) (fun h15 => ?_)
          · show AW X 0 0 43 [some (.ref 0), some (.int its), some (.int f), some (.int a), some (.int b)] [] T I J R
            refine aw_iconst (v := 0) hC dX11_needStatement_43 (by decide) ?_
            exact kX11_68 hC rfl (m_X11_needIndexF (T := T) (I := I) (J := J) (R := R)) dX11_needStatement_44 rfl a_le a_le a_le a_le a_le rfl (aTh_x (ae_out hC hq a_le a_le ⟨rfl, rfl, rfl, rfl, Or.inr (Or.inl ⟨rfl, mC_1 (fun q => by have q9 := mPl_iff.mp q; clear q; clear hC hq; (try simp only [bI_e0, bI_n0, decide_eq_false_iff_not, decide_eq_true_eq, Classical.not_not] at *); (simp only [mRange, fsN, snN, i_lt, i_le, i_eq, ne_eq, Int32.reduceToInt] at *); omega)⟩)⟩)) aTh_k
          · show AW X 0 0 39 [some (.ref 0), some (.int its), some (.int f), some (.int a), some (.int b)] [] T I J R
            refine aw_iconst (v := 1) hC dX11_needStatement_39 (by decide) ?_
            refine aw_goto (tgt := 44) hC dX11_needStatement_40 (by decide) ?_
            refine kX11_68 hC rfl (m_X11_needIndexT (T := T) (I := I) (J := J) (R := R) (x := 1) (by decide)) dX11_needStatement_44 rfl a_le a_le a_le a_le a_le rfl aPure_x (aPure_k ?_)
            show AW X 0 0 47 [some (.ref 0), some (.int its), some (.int f), some (.int a), some (.int b)] [] T I J R
            exact join47 (mPl_iff.mpr (by clear hC hq; (try simp only [bI_e0, bI_n0, decide_eq_false_iff_not, decide_eq_true_eq, Classical.not_not] at *); (simp only [mRange, fsN, snN, i_lt, i_le, i_eq, ne_eq, Int32.reduceToInt] at *); omega))
