/-- the numbers of a statement -/
abbrev fsN (its a : Int32) : Prop := (its ≤ 7 ∧ 0 ≤ a ∧ a ≤ 63) ∨ (7 < its ∧ its = 12 ∧ 1 ≤ a ∧ a ≤ 3) ∨ (7 < its ∧ its ≠ 12 ∧ a = 0)
abbrev snN (its a b : Int32) : Prop := (its = 1 ∧ a ≤ b ∧ b ≤ 63) ∨ (its = 2 ∧ 0 ≤ b ∧ b ≤ 63) ∨ (its = 5 ∧ -63 ≤ b ∧ b ≤ 63) ∨ (its ≠ 1 ∧ its ≠ 2 ∧ its ≠ 5 ∧ b = 0)
set_option maxRecDepth 100000 in
theorem m_X11_isFirstNumber {T : List aT} {I : aI} {J : aJ} {R : aR} (its a : Int32) : MX11_isFirstNumber 0 0 [.int its, .int a] T I J R (aPure (some (.int (bI (decide (fsN its a))))) T I J R) := by
  refine a_met (by decide +kernel) a_le (fun X hC hq => ?_)
  show AW X 0 0 0 [some (.int its), some (.int a)] [] T I J R
  refine aw_iload_n hC dX11_isFirstNumber_0 rfl ?_
  refine aw_bipush (v := 7) hC dX11_isFirstNumber_1 (by decide) ?_
  refine aw_icmp_gt (tgt := 14) hC dX11_isFirstNumber_3 (by decide) (fun h1 => ?_) (fun h1 => ?_)
  · show AW X 0 0 14 [some (.int its), some (.int a)] [] T I J R
    refine aw_iload_n hC dX11_isFirstNumber_14 rfl ?_
    refine aw_bipush (v := 12) hC dX11_isFirstNumber_15 (by decide) ?_
    refine aw_icmp_ne (tgt := 29) hC dX11_isFirstNumber_17 (by decide) (fun h2 => ?_) (fun h2 => ?_)
    · show AW X 0 0 29 [some (.int its), some (.int a)] [] T I J R
      refine aw_iload_n hC dX11_isFirstNumber_29 rfl ?_
      refine aw_if_ne (tgt := 37) hC dX11_isFirstNumber_30 (by decide) (fun h3 => ?_) (fun h3 => ?_)
      · show AW X 0 0 37 [some (.int its), some (.int a)] [] T I J R
        refine aw_iconst (v := 0) hC dX11_isFirstNumber_37 (by decide) ?_
        exact aw_zreturn hC hq rfl (Or.inl rfl) dX11_isFirstNumber_38 a_le a_le (aPure_i (bI_no (by clear hC hq; (try simp only [bI_e0, bI_n0, decide_eq_false_iff_not, decide_eq_true_eq, Classical.not_not] at *); (simp only [fsN, snN, i_lt, i_le, i_eq, ne_eq, Int32.reduceToInt] at *); omega)))
      · show AW X 0 0 33 [some (.int its), some (.int a)] [] T I J R
        refine aw_iconst (v := 1) hC dX11_isFirstNumber_33 (by decide) ?_
        refine aw_goto (tgt := 38) hC dX11_isFirstNumber_34 (by decide) ?_
        exact aw_zreturn hC hq rfl (Or.inr rfl) dX11_isFirstNumber_38 a_le a_le (aPure_i (bI_yes (by clear hC hq; (try simp only [bI_e0, bI_n0, decide_eq_false_iff_not, decide_eq_true_eq, Classical.not_not] at *); (simp only [fsN, snN, i_lt, i_le, i_eq, ne_eq, Int32.reduceToInt] at *); omega)))
    · show AW X 0 0 20 [some (.int its), some (.int a)] [] T I J R
      refine aw_iload_n hC dX11_isFirstNumber_20 rfl ?_
      refine aw_iconst (v := 1) hC dX11_isFirstNumber_21 (by decide) ?_
      refine aw_iconst (v := 3) hC dX11_isFirstNumber_22 (by decide) ?_
      refine kX11_126 hC rfl (m_X11_isWithin a (1 : Int32) (3 : Int32)) dX11_isFirstNumber_23 rfl a_le a_le a_le a_le a_le rfl aPure_x (aPure_k ?_)
      show AW X 0 0 26 [some (.int its), some (.int a)] [.int (bI (decide ((1 : Int32) ≤ a ∧ a ≤ (3 : Int32))))] T I J R
      refine aw_goto (tgt := 38) hC dX11_isFirstNumber_26 (by decide) ?_
      exact aw_zreturn hC hq rfl (bI_01 _) dX11_isFirstNumber_38 a_le a_le (aPure_i (congrArg bI (decide_eq_decide.mpr (by clear hC hq; (try simp only [bI_e0, bI_n0, decide_eq_false_iff_not, decide_eq_true_eq, Classical.not_not] at *); (simp only [fsN, snN, i_lt, i_le, i_eq, ne_eq, Int32.reduceToInt] at *); constructor <;> intro h9 <;> omega))))
  · show AW X 0 0 6 [some (.int its), some (.int a)] [] T I J R
    refine aw_iload_n hC dX11_isFirstNumber_6 rfl ?_
    refine aw_iconst (v := 0) hC dX11_isFirstNumber_7 (by decide) ?_
    refine aw_bipush (v := 63) hC dX11_isFirstNumber_8 (by decide) ?_
    refine kX11_126 hC rfl (m_X11_isWithin a (0 : Int32) (63 : Int32)) dX11_isFirstNumber_10 rfl a_le a_le a_le a_le a_le rfl aPure_x (aPure_k ?_)
    show AW X 0 0 13 [some (.int its), some (.int a)] [.int (bI (decide ((0 : Int32) ≤ a ∧ a ≤ (63 : Int32))))] T I J R
    exact aw_zreturn hC hq rfl (bI_01 _) dX11_isFirstNumber_13 a_le a_le (aPure_i (congrArg bI (decide_eq_decide.mpr (by clear hC hq; (try simp only [bI_e0, bI_n0, decide_eq_false_iff_not, decide_eq_true_eq, Classical.not_not] at *); (simp only [fsN, snN, i_lt, i_le, i_eq, ne_eq, Int32.reduceToInt] at *); constructor <;> intro h9 <;> omega))))
set_option maxRecDepth 100000 in
theorem m_X11_isSecondNumber {T : List aT} {I : aI} {J : aJ} {R : aR} (its a b : Int32) : MX11_isSecondNumber 0 0 [.int its, .int a, .int b] T I J R (aPure (some (.int (bI (decide (snN its a b))))) T I J R) := by
  refine a_met (by decide +kernel) a_le (fun X hC hq => ?_)
  show AW X 0 0 0 [some (.int its), some (.int a), some (.int b)] [] T I J R
  refine aw_iload_n hC dX11_isSecondNumber_0 rfl ?_
  rcases sw_cases its with hs1 | hs1 | hs1 | hs1 | hs1 | hs1 | hs1 | hs1 | hs1 | hs1 | hs1 | hs1 | hs1 | hs1
  · refine aw_tableOut (tgt := 61) hC dX11_isSecondNumber_1 (by rw [hs1]; decide) (by decide) ?_
    refine aw_iload_n hC dX11_isSecondNumber_61 rfl ?_
    refine aw_if_ne (tgt := 69) hC dX11_isSecondNumber_62 (by decide) (fun h2 => ?_) (fun h2 => ?_)
    · show AW X 0 0 69 [some (.int its), some (.int a), some (.int b)] [] T I J R
      refine aw_iconst (v := 0) hC dX11_isSecondNumber_69 (by decide) ?_
      exact aw_zreturn hC hq rfl (Or.inl rfl) dX11_isSecondNumber_70 a_le a_le (aPure_i (bI_no (by clear hC hq; (try simp only [bI_e0, bI_n0, decide_eq_false_iff_not, decide_eq_true_eq, Classical.not_not] at *); (simp only [fsN, snN, i_lt, i_le, i_eq, ne_eq, Int32.reduceToInt] at *); omega)))
    · show AW X 0 0 65 [some (.int its), some (.int a), some (.int b)] [] T I J R
      refine aw_iconst (v := 1) hC dX11_isSecondNumber_65 (by decide) ?_
      refine aw_goto (tgt := 70) hC dX11_isSecondNumber_66 (by decide) ?_
      exact aw_zreturn hC hq rfl (Or.inr rfl) dX11_isSecondNumber_70 a_le a_le (aPure_i (bI_yes (by clear hC hq; (try simp only [bI_e0, bI_n0, decide_eq_false_iff_not, decide_eq_true_eq, Classical.not_not] at *); (simp only [fsN, snN, i_lt, i_le, i_eq, ne_eq, Int32.reduceToInt] at *); omega)))
  · refine aw_tableIn (off := 35) (tgt := 36) hC dX11_isSecondNumber_1 (by rw [hs1]; decide) (by rw [hs1]; decide) (by rw [hs1]; rfl) (by decide) ?_
    refine aw_iload_n hC dX11_isSecondNumber_36 rfl ?_
    refine aw_iload_n hC dX11_isSecondNumber_37 rfl ?_
    refine aw_bipush (v := 63) hC dX11_isSecondNumber_38 (by decide) ?_
    refine kX11_126 hC rfl (m_X11_isWithin b a (63 : Int32)) dX11_isSecondNumber_40 rfl a_le a_le a_le a_le a_le rfl aPure_x (aPure_k ?_)
    show AW X 0 0 43 [some (.int its), some (.int a), some (.int b)] [.int (bI (decide (a ≤ b ∧ b ≤ (63 : Int32))))] T I J R
    exact aw_zreturn hC hq rfl (bI_01 _) dX11_isSecondNumber_43 a_le a_le (aPure_i (congrArg bI (decide_eq_decide.mpr (by clear hC hq; (try simp only [bI_e0, bI_n0, decide_eq_false_iff_not, decide_eq_true_eq, Classical.not_not] at *); (simp only [fsN, snN, i_lt, i_le, i_eq, ne_eq, Int32.reduceToInt] at *); constructor <;> intro h9 <;> omega))))
  · refine aw_tableIn (off := 43) (tgt := 44) hC dX11_isSecondNumber_1 (by rw [hs1]; decide) (by rw [hs1]; decide) (by rw [hs1]; rfl) (by decide) ?_
    refine aw_iload_n hC dX11_isSecondNumber_44 rfl ?_
    refine aw_iconst (v := 0) hC dX11_isSecondNumber_45 (by decide) ?_
    refine aw_bipush (v := 63) hC dX11_isSecondNumber_46 (by decide) ?_
    refine kX11_126 hC rfl (m_X11_isWithin b (0 : Int32) (63 : Int32)) dX11_isSecondNumber_48 rfl a_le a_le a_le a_le a_le rfl aPure_x (aPure_k ?_)
    show AW X 0 0 51 [some (.int its), some (.int a), some (.int b)] [.int (bI (decide ((0 : Int32) ≤ b ∧ b ≤ (63 : Int32))))] T I J R
    exact aw_zreturn hC hq rfl (bI_01 _) dX11_isSecondNumber_51 a_le a_le (aPure_i (congrArg bI (decide_eq_decide.mpr (by clear hC hq; (try simp only [bI_e0, bI_n0, decide_eq_false_iff_not, decide_eq_true_eq, Classical.not_not] at *); (simp only [fsN, snN, i_lt, i_le, i_eq, ne_eq, Int32.reduceToInt] at *); constructor <;> intro h9 <;> omega))))
  · refine aw_tableIn (off := 60) (tgt := 61) hC dX11_isSecondNumber_1 (by rw [hs1]; decide) (by rw [hs1]; decide) (by rw [hs1]; rfl) (by decide) ?_
    refine aw_iload_n hC dX11_isSecondNumber_61 rfl ?_
    refine aw_if_ne (tgt := 69) hC dX11_isSecondNumber_62 (by decide) (fun h3 => ?_) (fun h3 => ?_)
    · show AW X 0 0 69 [some (.int its), some (.int a), some (.int b)] [] T I J R
      refine aw_iconst (v := 0) hC dX11_isSecondNumber_69 (by decide) ?_
      exact aw_zreturn hC hq rfl (Or.inl rfl) dX11_isSecondNumber_70 a_le a_le (aPure_i (bI_no (by clear hC hq; (try simp only [bI_e0, bI_n0, decide_eq_false_iff_not, decide_eq_true_eq, Classical.not_not] at *); (simp only [fsN, snN, i_lt, i_le, i_eq, ne_eq, Int32.reduceToInt] at *); omega)))
    · show AW X 0 0 65 [some (.int its), some (.int a), some (.int b)] [] T I J R
      refine aw_iconst (v := 1) hC dX11_isSecondNumber_65 (by decide) ?_
      refine aw_goto (tgt := 70) hC dX11_isSecondNumber_66 (by decide) ?_
      exact aw_zreturn hC hq rfl (Or.inr rfl) dX11_isSecondNumber_70 a_le a_le (aPure_i (bI_yes (by clear hC hq; (try simp only [bI_e0, bI_n0, decide_eq_false_iff_not, decide_eq_true_eq, Classical.not_not] at *); (simp only [fsN, snN, i_lt, i_le, i_eq, ne_eq, Int32.reduceToInt] at *); omega)))
  · refine aw_tableIn (off := 60) (tgt := 61) hC dX11_isSecondNumber_1 (by rw [hs1]; decide) (by rw [hs1]; decide) (by rw [hs1]; rfl) (by decide) ?_
    refine aw_iload_n hC dX11_isSecondNumber_61 rfl ?_
    refine aw_if_ne (tgt := 69) hC dX11_isSecondNumber_62 (by decide) (fun h4 => ?_) (fun h4 => ?_)
    · show AW X 0 0 69 [some (.int its), some (.int a), some (.int b)] [] T I J R
      refine aw_iconst (v := 0) hC dX11_isSecondNumber_69 (by decide) ?_
      exact aw_zreturn hC hq rfl (Or.inl rfl) dX11_isSecondNumber_70 a_le a_le (aPure_i (bI_no (by clear hC hq; (try simp only [bI_e0, bI_n0, decide_eq_false_iff_not, decide_eq_true_eq, Classical.not_not] at *); (simp only [fsN, snN, i_lt, i_le, i_eq, ne_eq, Int32.reduceToInt] at *); omega)))
    · show AW X 0 0 65 [some (.int its), some (.int a), some (.int b)] [] T I J R
      refine aw_iconst (v := 1) hC dX11_isSecondNumber_65 (by decide) ?_
      refine aw_goto (tgt := 70) hC dX11_isSecondNumber_66 (by decide) ?_
      exact aw_zreturn hC hq rfl (Or.inr rfl) dX11_isSecondNumber_70 a_le a_le (aPure_i (bI_yes (by clear hC hq; (try simp only [bI_e0, bI_n0, decide_eq_false_iff_not, decide_eq_true_eq, Classical.not_not] at *); (simp only [fsN, snN, i_lt, i_le, i_eq, ne_eq, Int32.reduceToInt] at *); omega)))
  · refine aw_tableIn (off := 51) (tgt := 52) hC dX11_isSecondNumber_1 (by rw [hs1]; decide) (by rw [hs1]; decide) (by rw [hs1]; rfl) (by decide) ?_
    refine aw_iload_n hC dX11_isSecondNumber_52 rfl ?_
    refine aw_bipush (v := (-63)) hC dX11_isSecondNumber_53 (by decide) ?_
    refine aw_bipush (v := 63) hC dX11_isSecondNumber_55 (by decide) ?_
    refine kX11_126 hC rfl (m_X11_isWithin b ((-63) : Int32) (63 : Int32)) dX11_isSecondNumber_57 rfl a_le a_le a_le a_le a_le rfl aPure_x (aPure_k ?_)
    show AW X 0 0 60 [some (.int its), some (.int a), some (.int b)] [.int (bI (decide (((-63) : Int32) ≤ b ∧ b ≤ (63 : Int32))))] T I J R
    exact aw_zreturn hC hq rfl (bI_01 _) dX11_isSecondNumber_60 a_le a_le (aPure_i (congrArg bI (decide_eq_decide.mpr (by clear hC hq; (try simp only [bI_e0, bI_n0, decide_eq_false_iff_not, decide_eq_true_eq, Classical.not_not] at *); (simp only [fsN, snN, i_lt, i_le, i_eq, ne_eq, Int32.reduceToInt] at *); constructor <;> intro h9 <;> omega))))
  · refine aw_tableOut (tgt := 61) hC dX11_isSecondNumber_1 (by rw [hs1]; decide) (by decide) ?_
    refine aw_iload_n hC dX11_isSecondNumber_61 rfl ?_
    refine aw_if_ne (tgt := 69) hC dX11_isSecondNumber_62 (by decide) (fun h5 => ?_) (fun h5 => ?_)
    · show AW X 0 0 69 [some (.int its), some (.int a), some (.int b)] [] T I J R
      refine aw_iconst (v := 0) hC dX11_isSecondNumber_69 (by decide) ?_
      exact aw_zreturn hC hq rfl (Or.inl rfl) dX11_isSecondNumber_70 a_le a_le (aPure_i (bI_no (by clear hC hq; (try simp only [bI_e0, bI_n0, decide_eq_false_iff_not, decide_eq_true_eq, Classical.not_not] at *); (simp only [fsN, snN, i_lt, i_le, i_eq, ne_eq, Int32.reduceToInt] at *); omega)))
    · show AW X 0 0 65 [some (.int its), some (.int a), some (.int b)] [] T I J R
      refine aw_iconst (v := 1) hC dX11_isSecondNumber_65 (by decide) ?_
      refine aw_goto (tgt := 70) hC dX11_isSecondNumber_66 (by decide) ?_
      exact aw_zreturn hC hq rfl (Or.inr rfl) dX11_isSecondNumber_70 a_le a_le (aPure_i (bI_yes (by clear hC hq; (try simp only [bI_e0, bI_n0, decide_eq_false_iff_not, decide_eq_true_eq, Classical.not_not] at *); (simp only [fsN, snN, i_lt, i_le, i_eq, ne_eq, Int32.reduceToInt] at *); omega)))
  · refine aw_tableOut (tgt := 61) hC dX11_isSecondNumber_1 (by rw [hs1]; decide) (by decide) ?_
    refine aw_iload_n hC dX11_isSecondNumber_61 rfl ?_
    refine aw_if_ne (tgt := 69) hC dX11_isSecondNumber_62 (by decide) (fun h6 => ?_) (fun h6 => ?_)
    · show AW X 0 0 69 [some (.int its), some (.int a), some (.int b)] [] T I J R
      refine aw_iconst (v := 0) hC dX11_isSecondNumber_69 (by decide) ?_
      exact aw_zreturn hC hq rfl (Or.inl rfl) dX11_isSecondNumber_70 a_le a_le (aPure_i (bI_no (by clear hC hq; (try simp only [bI_e0, bI_n0, decide_eq_false_iff_not, decide_eq_true_eq, Classical.not_not] at *); (simp only [fsN, snN, i_lt, i_le, i_eq, ne_eq, Int32.reduceToInt] at *); omega)))
    · show AW X 0 0 65 [some (.int its), some (.int a), some (.int b)] [] T I J R
      refine aw_iconst (v := 1) hC dX11_isSecondNumber_65 (by decide) ?_
      refine aw_goto (tgt := 70) hC dX11_isSecondNumber_66 (by decide) ?_
      exact aw_zreturn hC hq rfl (Or.inr rfl) dX11_isSecondNumber_70 a_le a_le (aPure_i (bI_yes (by clear hC hq; (try simp only [bI_e0, bI_n0, decide_eq_false_iff_not, decide_eq_true_eq, Classical.not_not] at *); (simp only [fsN, snN, i_lt, i_le, i_eq, ne_eq, Int32.reduceToInt] at *); omega)))
  · refine aw_tableOut (tgt := 61) hC dX11_isSecondNumber_1 (by rw [hs1]; decide) (by decide) ?_
    refine aw_iload_n hC dX11_isSecondNumber_61 rfl ?_
    refine aw_if_ne (tgt := 69) hC dX11_isSecondNumber_62 (by decide) (fun h7 => ?_) (fun h7 => ?_)
    · show AW X 0 0 69 [some (.int its), some (.int a), some (.int b)] [] T I J R
      refine aw_iconst (v := 0) hC dX11_isSecondNumber_69 (by decide) ?_
      exact aw_zreturn hC hq rfl (Or.inl rfl) dX11_isSecondNumber_70 a_le a_le (aPure_i (bI_no (by clear hC hq; (try simp only [bI_e0, bI_n0, decide_eq_false_iff_not, decide_eq_true_eq, Classical.not_not] at *); (simp only [fsN, snN, i_lt, i_le, i_eq, ne_eq, Int32.reduceToInt] at *); omega)))
    · show AW X 0 0 65 [some (.int its), some (.int a), some (.int b)] [] T I J R
      refine aw_iconst (v := 1) hC dX11_isSecondNumber_65 (by decide) ?_
      refine aw_goto (tgt := 70) hC dX11_isSecondNumber_66 (by decide) ?_
      exact aw_zreturn hC hq rfl (Or.inr rfl) dX11_isSecondNumber_70 a_le a_le (aPure_i (bI_yes (by clear hC hq; (try simp only [bI_e0, bI_n0, decide_eq_false_iff_not, decide_eq_true_eq, Classical.not_not] at *); (simp only [fsN, snN, i_lt, i_le, i_eq, ne_eq, Int32.reduceToInt] at *); omega)))
  · refine aw_tableOut (tgt := 61) hC dX11_isSecondNumber_1 (by rw [hs1]; decide) (by decide) ?_
    refine aw_iload_n hC dX11_isSecondNumber_61 rfl ?_
    refine aw_if_ne (tgt := 69) hC dX11_isSecondNumber_62 (by decide) (fun h8 => ?_) (fun h8 => ?_)
    · show AW X 0 0 69 [some (.int its), some (.int a), some (.int b)] [] T I J R
      refine aw_iconst (v := 0) hC dX11_isSecondNumber_69 (by decide) ?_
      exact aw_zreturn hC hq rfl (Or.inl rfl) dX11_isSecondNumber_70 a_le a_le (aPure_i (bI_no (by clear hC hq; (try simp only [bI_e0, bI_n0, decide_eq_false_iff_not, decide_eq_true_eq, Classical.not_not] at *); (simp only [fsN, snN, i_lt, i_le, i_eq, ne_eq, Int32.reduceToInt] at *); omega)))
    · show AW X 0 0 65 [some (.int its), some (.int a), some (.int b)] [] T I J R
      refine aw_iconst (v := 1) hC dX11_isSecondNumber_65 (by decide) ?_
      refine aw_goto (tgt := 70) hC dX11_isSecondNumber_66 (by decide) ?_
      exact aw_zreturn hC hq rfl (Or.inr rfl) dX11_isSecondNumber_70 a_le a_le (aPure_i (bI_yes (by clear hC hq; (try simp only [bI_e0, bI_n0, decide_eq_false_iff_not, decide_eq_true_eq, Classical.not_not] at *); (simp only [fsN, snN, i_lt, i_le, i_eq, ne_eq, Int32.reduceToInt] at *); omega)))
  · refine aw_tableOut (tgt := 61) hC dX11_isSecondNumber_1 (by rw [hs1]; decide) (by decide) ?_
    refine aw_iload_n hC dX11_isSecondNumber_61 rfl ?_
    refine aw_if_ne (tgt := 69) hC dX11_isSecondNumber_62 (by decide) (fun h9 => ?_) (fun h9 => ?_)
    · show AW X 0 0 69 [some (.int its), some (.int a), some (.int b)] [] T I J R
      refine aw_iconst (v := 0) hC dX11_isSecondNumber_69 (by decide) ?_
      exact aw_zreturn hC hq rfl (Or.inl rfl) dX11_isSecondNumber_70 a_le a_le (aPure_i (bI_no (by clear hC hq; (try simp only [bI_e0, bI_n0, decide_eq_false_iff_not, decide_eq_true_eq, Classical.not_not] at *); (simp only [fsN, snN, i_lt, i_le, i_eq, ne_eq, Int32.reduceToInt] at *); omega)))
    · show AW X 0 0 65 [some (.int its), some (.int a), some (.int b)] [] T I J R
      refine aw_iconst (v := 1) hC dX11_isSecondNumber_65 (by decide) ?_
      refine aw_goto (tgt := 70) hC dX11_isSecondNumber_66 (by decide) ?_
      exact aw_zreturn hC hq rfl (Or.inr rfl) dX11_isSecondNumber_70 a_le a_le (aPure_i (bI_yes (by clear hC hq; (try simp only [bI_e0, bI_n0, decide_eq_false_iff_not, decide_eq_true_eq, Classical.not_not] at *); (simp only [fsN, snN, i_lt, i_le, i_eq, ne_eq, Int32.reduceToInt] at *); omega)))
  · refine aw_tableOut (tgt := 61) hC dX11_isSecondNumber_1 (by rw [hs1]; decide) (by decide) ?_
    refine aw_iload_n hC dX11_isSecondNumber_61 rfl ?_
    refine aw_if_ne (tgt := 69) hC dX11_isSecondNumber_62 (by decide) (fun h10 => ?_) (fun h10 => ?_)
    · show AW X 0 0 69 [some (.int its), some (.int a), some (.int b)] [] T I J R
      refine aw_iconst (v := 0) hC dX11_isSecondNumber_69 (by decide) ?_
      exact aw_zreturn hC hq rfl (Or.inl rfl) dX11_isSecondNumber_70 a_le a_le (aPure_i (bI_no (by clear hC hq; (try simp only [bI_e0, bI_n0, decide_eq_false_iff_not, decide_eq_true_eq, Classical.not_not] at *); (simp only [fsN, snN, i_lt, i_le, i_eq, ne_eq, Int32.reduceToInt] at *); omega)))
    · show AW X 0 0 65 [some (.int its), some (.int a), some (.int b)] [] T I J R
      refine aw_iconst (v := 1) hC dX11_isSecondNumber_65 (by decide) ?_
      refine aw_goto (tgt := 70) hC dX11_isSecondNumber_66 (by decide) ?_
      exact aw_zreturn hC hq rfl (Or.inr rfl) dX11_isSecondNumber_70 a_le a_le (aPure_i (bI_yes (by clear hC hq; (try simp only [bI_e0, bI_n0, decide_eq_false_iff_not, decide_eq_true_eq, Classical.not_not] at *); (simp only [fsN, snN, i_lt, i_le, i_eq, ne_eq, Int32.reduceToInt] at *); omega)))
  · refine aw_tableOut (tgt := 61) hC dX11_isSecondNumber_1 (by rw [hs1]; decide) (by decide) ?_
    refine aw_iload_n hC dX11_isSecondNumber_61 rfl ?_
    refine aw_if_ne (tgt := 69) hC dX11_isSecondNumber_62 (by decide) (fun h11 => ?_) (fun h11 => ?_)
    · show AW X 0 0 69 [some (.int its), some (.int a), some (.int b)] [] T I J R
      refine aw_iconst (v := 0) hC dX11_isSecondNumber_69 (by decide) ?_
      exact aw_zreturn hC hq rfl (Or.inl rfl) dX11_isSecondNumber_70 a_le a_le (aPure_i (bI_no (by clear hC hq; (try simp only [bI_e0, bI_n0, decide_eq_false_iff_not, decide_eq_true_eq, Classical.not_not] at *); (simp only [fsN, snN, i_lt, i_le, i_eq, ne_eq, Int32.reduceToInt] at *); omega)))
    · show AW X 0 0 65 [some (.int its), some (.int a), some (.int b)] [] T I J R
      refine aw_iconst (v := 1) hC dX11_isSecondNumber_65 (by decide) ?_
      refine aw_goto (tgt := 70) hC dX11_isSecondNumber_66 (by decide) ?_
      exact aw_zreturn hC hq rfl (Or.inr rfl) dX11_isSecondNumber_70 a_le a_le (aPure_i (bI_yes (by clear hC hq; (try simp only [bI_e0, bI_n0, decide_eq_false_iff_not, decide_eq_true_eq, Classical.not_not] at *); (simp only [fsN, snN, i_lt, i_le, i_eq, ne_eq, Int32.reduceToInt] at *); omega)))
  · refine aw_tableOut (tgt := 61) hC dX11_isSecondNumber_1 (by omega) (by decide) ?_
    refine aw_iload_n hC dX11_isSecondNumber_61 rfl ?_
    refine aw_if_ne (tgt := 69) hC dX11_isSecondNumber_62 (by decide) (fun h12 => ?_) (fun h12 => ?_)
    · show AW X 0 0 69 [some (.int its), some (.int a), some (.int b)] [] T I J R
      refine aw_iconst (v := 0) hC dX11_isSecondNumber_69 (by decide) ?_
      exact aw_zreturn hC hq rfl (Or.inl rfl) dX11_isSecondNumber_70 a_le a_le (aPure_i (bI_no (by clear hC hq; (try simp only [bI_e0, bI_n0, decide_eq_false_iff_not, decide_eq_true_eq, Classical.not_not] at *); (simp only [fsN, snN, i_lt, i_le, i_eq, ne_eq, Int32.reduceToInt] at *); omega)))
    · show AW X 0 0 65 [some (.int its), some (.int a), some (.int b)] [] T I J R
      refine aw_iconst (v := 1) hC dX11_isSecondNumber_65 (by decide) ?_
      refine aw_goto (tgt := 70) hC dX11_isSecondNumber_66 (by decide) ?_
      exact aw_zreturn hC hq rfl (Or.inr rfl) dX11_isSecondNumber_70 a_le a_le (aPure_i (bI_yes (by clear hC hq; (try simp only [bI_e0, bI_n0, decide_eq_false_iff_not, decide_eq_true_eq, Classical.not_not] at *); (simp only [fsN, snN, i_lt, i_le, i_eq, ne_eq, Int32.reduceToInt] at *); omega)))
