set_option maxRecDepth 100000 in
theorem m_X12_isIn {T : List aT} {I : aI} {J : aJ} {R : aR} (a b c : Int32) : MX12_isIn 0 0 [.int a, .int b, .int c] T I J R (aPure (some (.int (bI (decide (b ≤ a ∧ a ≤ c))))) T I J R) := by
  refine a_met (by decide +kernel) a_le (fun X hC hq => ?_)
  show AW X 0 0 0 [some (.int a), some (.int b), some (.int c)] [] T I J R
  refine aw_iload_n hC dX12_isIn_0 rfl ?_
  refine aw_iload_n hC dX12_isIn_1 rfl ?_
  refine aw_icmp_lt (tgt := 14) hC dX12_isIn_2 (by decide) (fun h1 => ?_) (fun h1 => ?_)
  · show AW X 0 0 14 [some (.int a), some (.int b), some (.int c)] [] T I J R
    refine aw_iconst (v := 0) hC dX12_isIn_14 (by decide) ?_
    exact aw_zreturn hC hq rfl (Or.inl rfl) dX12_isIn_15 a_le a_le (aPure_i (bI_no (by clear hC hq; (try simp only [bI_e0, bI_n0, decide_eq_false_iff_not, decide_eq_true_eq, Classical.not_not] at *); (simp only [i_lt, i_le, i_eq, Int32.reduceToInt] at *); omega)))
  · show AW X 0 0 5 [some (.int a), some (.int b), some (.int c)] [] T I J R
    refine aw_iload_n hC dX12_isIn_5 rfl ?_
    refine aw_iload_n hC dX12_isIn_6 rfl ?_
    refine aw_icmp_gt (tgt := 14) hC dX12_isIn_7 (by decide) (fun h2 => ?_) (fun h2 => ?_)
    · show AW X 0 0 14 [some (.int a), some (.int b), some (.int c)] [] T I J R
      refine aw_iconst (v := 0) hC dX12_isIn_14 (by decide) ?_
      exact aw_zreturn hC hq rfl (Or.inl rfl) dX12_isIn_15 a_le a_le (aPure_i (bI_no (by clear hC hq; (try simp only [bI_e0, bI_n0, decide_eq_false_iff_not, decide_eq_true_eq, Classical.not_not] at *); (simp only [i_lt, i_le, i_eq, Int32.reduceToInt] at *); omega)))
    · show AW X 0 0 10 [some (.int a), some (.int b), some (.int c)] [] T I J R
      refine aw_iconst (v := 1) hC dX12_isIn_10 (by decide) ?_
      refine aw_goto (tgt := 15) hC dX12_isIn_11 (by decide) ?_
      exact aw_zreturn hC hq rfl (Or.inr rfl) dX12_isIn_15 a_le a_le (aPure_i (bI_yes (by clear hC hq; (try simp only [bI_e0, bI_n0, decide_eq_false_iff_not, decide_eq_true_eq, Classical.not_not] at *); (simp only [i_lt, i_le, i_eq, Int32.reduceToInt] at *); omega)))
set_option maxRecDepth 100000 in
theorem m_X11_isWithin {T : List aT} {I : aI} {J : aJ} {R : aR} (a b c : Int32) : MX11_isWithin 0 0 [.int a, .int b, .int c] T I J R (aPure (some (.int (bI (decide (b ≤ a ∧ a ≤ c))))) T I J R) := by
  refine a_met (by decide +kernel) a_le (fun X hC hq => ?_)
  show AW X 0 0 0 [some (.int a), some (.int b), some (.int c)] [] T I J R
  refine aw_iload_n hC dX11_isWithin_0 rfl ?_
  refine aw_iload_n hC dX11_isWithin_1 rfl ?_
  refine aw_icmp_lt (tgt := 14) hC dX11_isWithin_2 (by decide) (fun h1 => ?_) (fun h1 => ?_)
  · show AW X 0 0 14 [some (.int a), some (.int b), some (.int c)] [] T I J R
    refine aw_iconst (v := 0) hC dX11_isWithin_14 (by decide) ?_
    exact aw_zreturn hC hq rfl (Or.inl rfl) dX11_isWithin_15 a_le a_le (aPure_i (bI_no (by clear hC hq; (try simp only [bI_e0, bI_n0, decide_eq_false_iff_not, decide_eq_true_eq, Classical.not_not] at *); (simp only [i_lt, i_le, i_eq, Int32.reduceToInt] at *); omega)))
  · show AW X 0 0 5 [some (.int a), some (.int b), some (.int c)] [] T I J R
    refine aw_iload_n hC dX11_isWithin_5 rfl ?_
    refine aw_iload_n hC dX11_isWithin_6 rfl ?_
    refine aw_icmp_gt (tgt := 14) hC dX11_isWithin_7 (by decide) (fun h2 => ?_) (fun h2 => ?_)
    · show AW X 0 0 14 [some (.int a), some (.int b), some (.int c)] [] T I J R
      refine aw_iconst (v := 0) hC dX11_isWithin_14 (by decide) ?_
      exact aw_zreturn hC hq rfl (Or.inl rfl) dX11_isWithin_15 a_le a_le (aPure_i (bI_no (by clear hC hq; (try simp only [bI_e0, bI_n0, decide_eq_false_iff_not, decide_eq_true_eq, Classical.not_not] at *); (simp only [i_lt, i_le, i_eq, Int32.reduceToInt] at *); omega)))
    · show AW X 0 0 10 [some (.int a), some (.int b), some (.int c)] [] T I J R
      refine aw_iconst (v := 1) hC dX11_isWithin_10 (by decide) ?_
      refine aw_goto (tgt := 15) hC dX11_isWithin_11 (by decide) ?_
      exact aw_zreturn hC hq rfl (Or.inr rfl) dX11_isWithin_15 a_le a_le (aPure_i (bI_yes (by clear hC hq; (try simp only [bI_e0, bI_n0, decide_eq_false_iff_not, decide_eq_true_eq, Classical.not_not] at *); (simp only [i_lt, i_le, i_eq, Int32.reduceToInt] at *); omega)))
set_option maxRecDepth 100000 in
theorem m_X11_isBelow {T : List aT} {I : aI} {J : aJ} {R : aR} (a b : Int32) : MX11_isBelow 0 0 [.int a, .int b] T I J R (aPure (some (.int (bI (decide (0 ≤ a ∧ a < b))))) T I J R) := by
  refine a_met (by decide +kernel) a_le (fun X hC hq => ?_)
  show AW X 0 0 0 [some (.int a), some (.int b)] [] T I J R
  refine aw_iload_n hC dX11_isBelow_0 rfl ?_
  refine aw_if_lt (tgt := 13) hC dX11_isBelow_1 (by decide) (fun h1 => ?_) (fun h1 => ?_)
  · show AW X 0 0 13 [some (.int a), some (.int b)] [] T I J R
    refine aw_iconst (v := 0) hC dX11_isBelow_13 (by decide) ?_
    exact aw_zreturn hC hq rfl (Or.inl rfl) dX11_isBelow_14 a_le a_le (aPure_i (bI_no (by clear hC hq; (try simp only [bI_e0, bI_n0, decide_eq_false_iff_not, decide_eq_true_eq, Classical.not_not] at *); (simp only [i_lt, i_le, i_eq, Int32.reduceToInt] at *); omega)))
  · show AW X 0 0 4 [some (.int a), some (.int b)] [] T I J R
    refine aw_iload_n hC dX11_isBelow_4 rfl ?_
    refine aw_iload_n hC dX11_isBelow_5 rfl ?_
    refine aw_icmp_ge (tgt := 13) hC dX11_isBelow_6 (by decide) (fun h2 => ?_) (fun h2 => ?_)
    · show AW X 0 0 13 [some (.int a), some (.int b)] [] T I J R
      refine aw_iconst (v := 0) hC dX11_isBelow_13 (by decide) ?_
      exact aw_zreturn hC hq rfl (Or.inl rfl) dX11_isBelow_14 a_le a_le (aPure_i (bI_no (by clear hC hq; (try simp only [bI_e0, bI_n0, decide_eq_false_iff_not, decide_eq_true_eq, Classical.not_not] at *); (simp only [i_lt, i_le, i_eq, Int32.reduceToInt] at *); omega)))
    · show AW X 0 0 9 [some (.int a), some (.int b)] [] T I J R
      refine aw_iconst (v := 1) hC dX11_isBelow_9 (by decide) ?_
      refine aw_goto (tgt := 14) hC dX11_isBelow_10 (by decide) ?_
      exact aw_zreturn hC hq rfl (Or.inr rfl) dX11_isBelow_14 a_le a_le (aPure_i (bI_yes (by clear hC hq; (try simp only [bI_e0, bI_n0, decide_eq_false_iff_not, decide_eq_true_eq, Classical.not_not] at *); (simp only [i_lt, i_le, i_eq, Int32.reduceToInt] at *); omega)))
set_option maxRecDepth 100000 in
theorem m_X12_isField {T : List aT} {I : aI} {J : aJ} {R : aR} (a : Int32) : MX12_isField 0 0 [.int a] T I J R (aPure (some (.int (bI (decide (0 ≤ a ∧ a ≤ 9))))) T I J R) := by
  refine a_met (by decide +kernel) a_le (fun X hC hq => ?_)
  show AW X 0 0 0 [some (.int a)] [] T I J R
  refine aw_iload_n hC dX12_isField_0 rfl ?_
  refine aw_iconst (v := 0) hC dX12_isField_1 (by decide) ?_
  refine aw_bipush (v := 9) hC dX12_isField_2 (by decide) ?_
  refine kX12_169 hC rfl (m_X12_isIn a (0 : Int32) (9 : Int32)) dX12_isField_4 rfl a_le a_le a_le a_le a_le rfl aPure_x (aPure_k ?_)
  show AW X 0 0 7 [some (.int a)] [.int (bI (decide ((0 : Int32) ≤ a ∧ a ≤ (9 : Int32))))] T I J R
  exact aw_zreturn hC hq rfl (bI_01 _) dX12_isField_7 a_le a_le (aPure_i (by rfl))
set_option maxRecDepth 100000 in
theorem m_X12_isType {T : List aT} {I : aI} {J : aJ} {R : aR} (a : Int32) : MX12_isType 0 0 [.int a] T I J R (aPure (some (.int (bI (decide (0 ≤ a ∧ a ≤ 2))))) T I J R) := by
  refine a_met (by decide +kernel) a_le (fun X hC hq => ?_)
  show AW X 0 0 0 [some (.int a)] [] T I J R
  refine aw_iload_n hC dX12_isType_0 rfl ?_
  refine aw_iconst (v := 0) hC dX12_isType_1 (by decide) ?_
  refine aw_iconst (v := 2) hC dX12_isType_2 (by decide) ?_
  refine kX12_169 hC rfl (m_X12_isIn a (0 : Int32) (2 : Int32)) dX12_isType_3 rfl a_le a_le a_le a_le a_le rfl aPure_x (aPure_k ?_)
  show AW X 0 0 6 [some (.int a)] [.int (bI (decide ((0 : Int32) ≤ a ∧ a ≤ (2 : Int32))))] T I J R
  exact aw_zreturn hC hq rfl (bI_01 _) dX12_isType_6 a_le a_le (aPure_i (by rfl))
set_option maxRecDepth 100000 in
theorem m_X12_isTeam {T : List aT} {I : aI} {J : aJ} {R : aR} (a : Int32) : MX12_isTeam 0 0 [.int a] T I J R (aPure (some (.int (bI (decide (0 ≤ a ∧ a ≤ 2))))) T I J R) := by
  refine a_met (by decide +kernel) a_le (fun X hC hq => ?_)
  show AW X 0 0 0 [some (.int a)] [] T I J R
  refine aw_iload_n hC dX12_isTeam_0 rfl ?_
  refine aw_iconst (v := 0) hC dX12_isTeam_1 (by decide) ?_
  refine aw_iconst (v := 2) hC dX12_isTeam_2 (by decide) ?_
  refine kX12_169 hC rfl (m_X12_isIn a (0 : Int32) (2 : Int32)) dX12_isTeam_3 rfl a_le a_le a_le a_le a_le rfl aPure_x (aPure_k ?_)
  show AW X 0 0 6 [some (.int a)] [.int (bI (decide ((0 : Int32) ≤ a ∧ a ≤ (2 : Int32))))] T I J R
  exact aw_zreturn hC hq rfl (bI_01 _) dX12_isTeam_6 a_le a_le (aPure_i (by rfl))
set_option maxRecDepth 100000 in
theorem m_X12_isPair {T : List aT} {I : aI} {J : aJ} {R : aR} (a : Int32) : MX12_isPair 0 0 [.int a] T I J R (aPure (some (.int (bI (decide (a = 5 ∨ a = 6))))) T I J R) := by
  refine a_met (by decide +kernel) a_le (fun X hC hq => ?_)
  show AW X 0 0 0 [some (.int a)] [] T I J R
  refine aw_iload_n hC dX12_isPair_0 rfl ?_
  refine aw_iconst (v := 5) hC dX12_isPair_1 (by decide) ?_
  refine aw_icmp_eq (tgt := 11) hC dX12_isPair_2 (by decide) (fun h1 => ?_) (fun h1 => ?_)
  · show AW X 0 0 11 [some (.int a)] [] T I J R
    refine aw_iconst (v := 1) hC dX12_isPair_11 (by decide) ?_
    refine aw_goto (tgt := 16) hC dX12_isPair_12 (by decide) ?_
    exact aw_zreturn hC hq rfl (Or.inr rfl) dX12_isPair_16 a_le a_le (aPure_i (bI_yes (by clear hC hq; (try simp only [bI_e0, bI_n0, decide_eq_false_iff_not, decide_eq_true_eq, Classical.not_not] at *); (simp only [i_lt, i_le, i_eq, Int32.reduceToInt] at *); omega)))
  · show AW X 0 0 5 [some (.int a)] [] T I J R
    refine aw_iload_n hC dX12_isPair_5 rfl ?_
    refine aw_bipush (v := 6) hC dX12_isPair_6 (by decide) ?_
    refine aw_icmp_ne (tgt := 15) hC dX12_isPair_8 (by decide) (fun h2 => ?_) (fun h2 => ?_)
    · show AW X 0 0 15 [some (.int a)] [] T I J R
      refine aw_iconst (v := 0) hC dX12_isPair_15 (by decide) ?_
      exact aw_zreturn hC hq rfl (Or.inl rfl) dX12_isPair_16 a_le a_le (aPure_i (bI_no (by clear hC hq; (try simp only [bI_e0, bI_n0, decide_eq_false_iff_not, decide_eq_true_eq, Classical.not_not] at *); (simp only [i_lt, i_le, i_eq, Int32.reduceToInt] at *); omega)))
    · show AW X 0 0 11 [some (.int a)] [] T I J R
      refine aw_iconst (v := 1) hC dX12_isPair_11 (by decide) ?_
      refine aw_goto (tgt := 16) hC dX12_isPair_12 (by decide) ?_
      exact aw_zreturn hC hq rfl (Or.inr rfl) dX12_isPair_16 a_le a_le (aPure_i (bI_yes (by clear hC hq; (try simp only [bI_e0, bI_n0, decide_eq_false_iff_not, decide_eq_true_eq, Classical.not_not] at *); (simp only [i_lt, i_le, i_eq, Int32.reduceToInt] at *); omega)))
set_option maxRecDepth 100000 in
theorem m_X12_sourceOf {T : List aT} {I : aI} {J : aJ} {R : aR} (a : Int32) : MX12_sourceOf 0 0 [.int a] T I J R (aPure (some (.int ((a - 10) / 3))) T I J R) := by
  refine a_met (by decide +kernel) a_le (fun X hC hq => ?_)
  show AW X 0 0 0 [some (.int a)] [] T I J R
  refine aw_iload_n hC dX12_sourceOf_0 rfl ?_
  refine aw_bipush (v := 10) hC dX12_sourceOf_1 (by decide) ?_
  refine aw_isub hC dX12_sourceOf_3 ?_
  refine aw_iconst (v := 3) hC dX12_sourceOf_4 (by decide) ?_
  refine aw_idiv hC dX12_sourceOf_5 (by decide) ?_
  exact aw_ireturn hC hq rfl dX12_sourceOf_6 a_le a_le (aPure_i (by rfl))
set_option maxRecDepth 100000 in
theorem m_X4_generatorOfSource {T : List aT} {I : aI} {J : aJ} {R : aR} (a : Int32) : MX4_generatorOfSource 0 0 [.int a] T I J R (aPure (some (.int ((a - 10) / 3))) T I J R) := by
  refine a_met (by decide +kernel) a_le (fun X hC hq => ?_)
  show AW X 0 0 0 [some (.int a)] [] T I J R
  refine aw_iload_n hC dX4_generatorOfSource_0 rfl ?_
  refine aw_bipush (v := 10) hC dX4_generatorOfSource_1 (by decide) ?_
  refine aw_isub hC dX4_generatorOfSource_3 ?_
  refine aw_iconst (v := 3) hC dX4_generatorOfSource_4 (by decide) ?_
  refine aw_idiv hC dX4_generatorOfSource_5 (by decide) ?_
  exact aw_ireturn hC hq rfl dX4_generatorOfSource_6 a_le a_le (aPure_i (by rfl))
set_option maxRecDepth 100000 in
theorem m_X4_attributeOfSource {T : List aT} {I : aI} {J : aJ} {R : aR} (a : Int32) : MX4_attributeOfSource 0 0 [.int a] T I J R (aPure (some (.int ((a - 10) - (a - 10) / 3 * 3))) T I J R) := by
  refine a_met (by decide +kernel) a_le (fun X hC hq => ?_)
  show AW X 0 0 0 [some (.int a)] [] T I J R
  refine aw_iload_n hC dX4_attributeOfSource_0 rfl ?_
  refine aw_bipush (v := 10) hC dX4_attributeOfSource_1 (by decide) ?_
  refine aw_isub hC dX4_attributeOfSource_3 ?_
  refine aw_iconst (v := 3) hC dX4_attributeOfSource_4 (by decide) ?_
  refine aw_irem hC dX4_attributeOfSource_5 (by decide) ?_
  exact aw_ireturn hC hq rfl dX4_attributeOfSource_6 a_le a_le (aPure_i (by rfl))
def sShift (s : Int64) (b : Int32) : Int64 := if 0 ≤ b then s <<< (b.toInt64 &&& 63) else (s.toUInt64 >>> ((-b).toInt64.toUInt64 &&& Int64.toUInt64 63)).toInt64
set_option maxRecDepth 100000 in
theorem m_X12_shifted {T : List aT} {I : aI} {J : aJ} {R : aR} (x : Int64) (b : Int32) : MX12_shifted 0 0 [.long x, .int b] T I J R (aPure (some (.long (sShift x b))) T I J R) := by
  refine a_met (by decide +kernel) a_le (fun X hC hq => ?_)
  show AW X 0 0 0 [some (.long x), none, some (.int b)] [] T I J R
  refine aw_iload_n hC dX12_shifted_0 rfl ?_
  refine aw_if_lt (tgt := 10) hC dX12_shifted_1 (by decide) (fun h1 => ?_) (fun h1 => ?_)
  · show AW X 0 0 10 [some (.long x), none, some (.int b)] [] T I J R
    refine aw_lload_n hC dX12_shifted_10 rfl ?_
    refine aw_iload_n hC dX12_shifted_11 rfl ?_
    refine aw_ineg hC dX12_shifted_12 ?_
    refine aw_lushr hC dX12_shifted_13 ?_
    exact aw_lreturn hC hq rfl dX12_shifted_14 a_le a_le (aPure_l (by unfold sShift; first | rw [if_pos (by clear hC hq; (try simp only [bI_e0, bI_n0, decide_eq_false_iff_not, decide_eq_true_eq, Classical.not_not] at *); (simp only [i_lt, i_le, i_eq, Int32.reduceToInt] at *); omega)] | rw [if_neg (by clear hC hq; (try simp only [bI_e0, bI_n0, decide_eq_false_iff_not, decide_eq_true_eq, Classical.not_not] at *); (simp only [i_lt, i_le, i_eq, Int32.reduceToInt] at *); omega)]))
  · show AW X 0 0 4 [some (.long x), none, some (.int b)] [] T I J R
    refine aw_lload_n hC dX12_shifted_4 rfl ?_
    refine aw_iload_n hC dX12_shifted_5 rfl ?_
    refine aw_lshl hC dX12_shifted_6 ?_
    refine aw_goto (tgt := 14) hC dX12_shifted_7 (by decide) ?_
    exact aw_lreturn hC hq rfl dX12_shifted_14 a_le a_le (aPure_l (by unfold sShift; first | rw [if_pos (by clear hC hq; (try simp only [bI_e0, bI_n0, decide_eq_false_iff_not, decide_eq_true_eq, Classical.not_not] at *); (simp only [i_lt, i_le, i_eq, Int32.reduceToInt] at *); omega)] | rw [if_neg (by clear hC hq; (try simp only [bI_e0, bI_n0, decide_eq_false_iff_not, decide_eq_true_eq, Classical.not_not] at *); (simp only [i_lt, i_le, i_eq, Int32.reduceToInt] at *); omega)]))
set_option maxRecDepth 100000 in
theorem m_X7_moved {T : List aT} {I : aI} {J : aJ} {R : aR} (x : Int64) (b : Int32) : MX7_moved 0 0 [.long x, .int b] T I J R (aPure (some (.long (sShift x b))) T I J R) := by
  refine a_met (by decide +kernel) a_le (fun X hC hq => ?_)
  show AW X 0 0 0 [some (.long x), none, some (.int b)] [] T I J R
  refine aw_iload_n hC dX7_moved_0 rfl ?_
  refine aw_if_lt (tgt := 10) hC dX7_moved_1 (by decide) (fun h1 => ?_) (fun h1 => ?_)
  · show AW X 0 0 10 [some (.long x), none, some (.int b)] [] T I J R
    refine aw_lload_n hC dX7_moved_10 rfl ?_
    refine aw_iload_n hC dX7_moved_11 rfl ?_
    refine aw_ineg hC dX7_moved_12 ?_
    refine aw_lushr hC dX7_moved_13 ?_
    exact aw_lreturn hC hq rfl dX7_moved_14 a_le a_le (aPure_l (by unfold sShift; first | rw [if_pos (by clear hC hq; (try simp only [bI_e0, bI_n0, decide_eq_false_iff_not, decide_eq_true_eq, Classical.not_not] at *); (simp only [i_lt, i_le, i_eq, Int32.reduceToInt] at *); omega)] | rw [if_neg (by clear hC hq; (try simp only [bI_e0, bI_n0, decide_eq_false_iff_not, decide_eq_true_eq, Classical.not_not] at *); (simp only [i_lt, i_le, i_eq, Int32.reduceToInt] at *); omega)]))
  · show AW X 0 0 4 [some (.long x), none, some (.int b)] [] T I J R
    refine aw_lload_n hC dX7_moved_4 rfl ?_
    refine aw_iload_n hC dX7_moved_5 rfl ?_
    refine aw_lshl hC dX7_moved_6 ?_
    refine aw_goto (tgt := 14) hC dX7_moved_7 (by decide) ?_
    exact aw_lreturn hC hq rfl dX7_moved_14 a_le a_le (aPure_l (by unfold sShift; first | rw [if_pos (by clear hC hq; (try simp only [bI_e0, bI_n0, decide_eq_false_iff_not, decide_eq_true_eq, Classical.not_not] at *); (simp only [i_lt, i_le, i_eq, Int32.reduceToInt] at *); omega)] | rw [if_neg (by clear hC hq; (try simp only [bI_e0, bI_n0, decide_eq_false_iff_not, decide_eq_true_eq, Classical.not_not] at *); (simp only [i_lt, i_le, i_eq, Int32.reduceToInt] at *); omega)]))
set_option maxRecDepth 100000 in
theorem m_X12_thrown {T : List aT} {I : aI} {J : aJ} {R : aR} (hT : aPT T) (hR : aPR R)  : MX12_thrown 0 0 [.ref 44] T I J R (aPure (some (.int (I 44 61))) T I J R) := by
  refine a_met (by decide +kernel) a_le (fun X hC hq => ?_)
  show AW X 0 0 0 [some (.ref 44)] [] T I J R
  refine aw_aload_n hC dX12_thrown_0 rfl ?_
  refine aw_getI hC dX12_thrown_1 aF_X12_166 rfl (tg_44 hT) ?_
  exact aw_ireturn hC hq rfl dX12_thrown_4 a_le a_le (aPure_i (by rfl))
set_option maxRecDepth 100000 in
theorem m_X8_isNarrowing {T : List aT} {I : aI} {J : aJ} {R : aR} {s : Nat} (hs : T[s]? = some (.inr 8)) : MX8_isNarrowing 0 0 [.ref s] T I J R (aPure (some (.int (bI (decide (I s 2 ≤ 6))))) T I J R) := by
  refine a_met (by decide +kernel) a_le (fun X hC hq => ?_)
  show AW X 0 0 0 [some (.ref s)] [] T I J R
  refine aw_aload_n hC dX8_isNarrowing_0 rfl ?_
  refine aw_getI hC dX8_isNarrowing_1 aF_X8_18 rfl (by assumption) ?_
  refine aw_bipush (v := 6) hC dX8_isNarrowing_4 (by decide) ?_
  refine aw_icmp_gt (tgt := 13) hC dX8_isNarrowing_6 (by decide) (fun h1 => ?_) (fun h1 => ?_)
  · show AW X 0 0 13 [some (.ref s)] [] T I J R
    refine aw_iconst (v := 0) hC dX8_isNarrowing_13 (by decide) ?_
    exact aw_zreturn hC hq rfl (Or.inl rfl) dX8_isNarrowing_14 a_le a_le (aPure_i (bI_no (by clear hC hq; (try simp only [bI_e0, bI_n0, decide_eq_false_iff_not, decide_eq_true_eq, Classical.not_not] at *); (simp only [i_lt, i_le, i_eq, Int32.reduceToInt] at *); omega)))
  · show AW X 0 0 9 [some (.ref s)] [] T I J R
    refine aw_iconst (v := 1) hC dX8_isNarrowing_9 (by decide) ?_
    refine aw_goto (tgt := 14) hC dX8_isNarrowing_10 (by decide) ?_
    exact aw_zreturn hC hq rfl (Or.inr rfl) dX8_isNarrowing_14 a_le a_le (aPure_i (bI_yes (by clear hC hq; (try simp only [bI_e0, bI_n0, decide_eq_false_iff_not, decide_eq_true_eq, Classical.not_not] at *); (simp only [i_lt, i_le, i_eq, Int32.reduceToInt] at *); omega)))
set_option maxRecDepth 100000 in
theorem m_X8_isJoining {T : List aT} {I : aI} {J : aJ} {R : aR} {s : Nat} (hs : T[s]? = some (.inr 8)) : MX8_isJoining 0 0 [.ref s] T I J R (aPure (some (.int (bI (decide (I s 2 = 5 ∨ I s 2 = 6))))) T I J R) := by
  refine a_met (by decide +kernel) a_le (fun X hC hq => ?_)
  show AW X 0 0 0 [some (.ref s)] [] T I J R
  refine aw_aload_n hC dX8_isJoining_0 rfl ?_
  refine aw_getI hC dX8_isJoining_1 aF_X8_18 rfl (by assumption) ?_
  refine aw_iconst (v := 5) hC dX8_isJoining_4 (by decide) ?_
  refine aw_icmp_eq (tgt := 17) hC dX8_isJoining_5 (by decide) (fun h1 => ?_) (fun h1 => ?_)
  · show AW X 0 0 17 [some (.ref s)] [] T I J R
    refine aw_iconst (v := 1) hC dX8_isJoining_17 (by decide) ?_
    refine aw_goto (tgt := 22) hC dX8_isJoining_18 (by decide) ?_
    exact aw_zreturn hC hq rfl (Or.inr rfl) dX8_isJoining_22 a_le a_le (aPure_i (bI_yes (by clear hC hq; (try simp only [bI_e0, bI_n0, decide_eq_false_iff_not, decide_eq_true_eq, Classical.not_not] at *); (simp only [i_lt, i_le, i_eq, Int32.reduceToInt] at *); omega)))
  · show AW X 0 0 8 [some (.ref s)] [] T I J R
    refine aw_aload_n hC dX8_isJoining_8 rfl ?_
    refine aw_getI hC dX8_isJoining_9 aF_X8_18 rfl (by assumption) ?_
    refine aw_bipush (v := 6) hC dX8_isJoining_12 (by decide) ?_
    refine aw_icmp_ne (tgt := 21) hC dX8_isJoining_14 (by decide) (fun h2 => ?_) (fun h2 => ?_)
    · show AW X 0 0 21 [some (.ref s)] [] T I J R
      refine aw_iconst (v := 0) hC dX8_isJoining_21 (by decide) ?_
      exact aw_zreturn hC hq rfl (Or.inl rfl) dX8_isJoining_22 a_le a_le (aPure_i (bI_no (by clear hC hq; (try simp only [bI_e0, bI_n0, decide_eq_false_iff_not, decide_eq_true_eq, Classical.not_not] at *); (simp only [i_lt, i_le, i_eq, Int32.reduceToInt] at *); omega)))
    · show AW X 0 0 17 [some (.ref s)] [] T I J R
      refine aw_iconst (v := 1) hC dX8_isJoining_17 (by decide) ?_
      refine aw_goto (tgt := 22) hC dX8_isJoining_18 (by decide) ?_
      exact aw_zreturn hC hq rfl (Or.inr rfl) dX8_isJoining_22 a_le a_le (aPure_i (bI_yes (by clear hC hq; (try simp only [bI_e0, bI_n0, decide_eq_false_iff_not, decide_eq_true_eq, Classical.not_not] at *); (simp only [i_lt, i_le, i_eq, Int32.reduceToInt] at *); omega)))
set_option maxRecDepth 100000 in
theorem m_X8_isTogetherWith {T : List aT} {I : aI} {J : aJ} {R : aR} {s t : Nat} (hs : T[s]? = some (.inr 8)) (ht : T[t]? = some (.inr 8)) : MX8_isTogetherWith 0 0 [.ref s, .ref t] T I J R (aPure (some (.int (bI (decide (I s 0 = I t 0 ∧ I s 1 = I t 1))))) T I J R) := by
  refine a_met (by decide +kernel) a_le (fun X hC hq => ?_)
  show AW X 0 0 0 [some (.ref s), some (.ref t)] [] T I J R
  refine aw_aload_n hC dX8_isTogetherWith_0 rfl ?_
  refine aw_getI hC dX8_isTogetherWith_1 aF_X8_9 rfl (by assumption) ?_
  refine aw_aload_n hC dX8_isTogetherWith_4 rfl ?_
  refine aw_getI hC dX8_isTogetherWith_5 aF_X8_9 rfl (by assumption) ?_
  refine aw_icmp_ne (tgt := 26) hC dX8_isTogetherWith_8 (by decide) (fun h1 => ?_) (fun h1 => ?_)
  · show AW X 0 0 26 [some (.ref s), some (.ref t)] [] T I J R
    refine aw_iconst (v := 0) hC dX8_isTogetherWith_26 (by decide) ?_
    exact aw_zreturn hC hq rfl (Or.inl rfl) dX8_isTogetherWith_27 a_le a_le (aPure_i (bI_no (by clear hC hq; (try simp only [bI_e0, bI_n0, decide_eq_false_iff_not, decide_eq_true_eq, Classical.not_not] at *); (simp only [i_lt, i_le, i_eq, Int32.reduceToInt] at *); omega)))
  · show AW X 0 0 11 [some (.ref s), some (.ref t)] [] T I J R
    refine aw_aload_n hC dX8_isTogetherWith_11 rfl ?_
    refine aw_getI hC dX8_isTogetherWith_12 aF_X8_15 rfl (by assumption) ?_
    refine aw_aload_n hC dX8_isTogetherWith_15 rfl ?_
    refine aw_getI hC dX8_isTogetherWith_16 aF_X8_15 rfl (by assumption) ?_
    refine aw_icmp_ne (tgt := 26) hC dX8_isTogetherWith_19 (by decide) (fun h2 => ?_) (fun h2 => ?_)
    · show AW X 0 0 26 [some (.ref s), some (.ref t)] [] T I J R
      refine aw_iconst (v := 0) hC dX8_isTogetherWith_26 (by decide) ?_
      exact aw_zreturn hC hq rfl (Or.inl rfl) dX8_isTogetherWith_27 a_le a_le (aPure_i (bI_no (by clear hC hq; (try simp only [bI_e0, bI_n0, decide_eq_false_iff_not, decide_eq_true_eq, Classical.not_not] at *); (simp only [i_lt, i_le, i_eq, Int32.reduceToInt] at *); omega)))
    · show AW X 0 0 22 [some (.ref s), some (.ref t)] [] T I J R
      refine aw_iconst (v := 1) hC dX8_isTogetherWith_22 (by decide) ?_
      refine aw_goto (tgt := 27) hC dX8_isTogetherWith_23 (by decide) ?_
      exact aw_zreturn hC hq rfl (Or.inr rfl) dX8_isTogetherWith_27 a_le a_le (aPure_i (bI_yes (by clear hC hq; (try simp only [bI_e0, bI_n0, decide_eq_false_iff_not, decide_eq_true_eq, Classical.not_not] at *); (simp only [i_lt, i_le, i_eq, Int32.reduceToInt] at *); omega)))
def iBit (x : Int32) : Int32 := 1 <<< (x &&& 31)
set_option maxRecDepth 100000 in
theorem m_X8_fields {T : List aT} {I : aI} {J : aJ} {R : aR} {s : Nat} (hs : T[s]? = some (.inr 8)) : MX8_fields 0 0 [.ref s] T I J R (aPure (some (.int (iBit (I s 3) ||| (if I s 2 = 5 ∨ I s 2 = 6 then iBit (I s 4) else 0)))) T I J R) := by
  refine a_met (by decide +kernel) a_le (fun X hC hq => ?_)
  show AW X 0 0 0 [some (.ref s)] [] T I J R
  refine aw_iconst (v := 1) hC dX8_fields_0 (by decide) ?_
  refine aw_aload_n hC dX8_fields_1 rfl ?_
  refine aw_getI hC dX8_fields_2 aF_X8_21 rfl (by assumption) ?_
  refine aw_ishl hC dX8_fields_5 ?_
  refine aw_aload_n hC dX8_fields_6 rfl ?_
  refine kX8_30 hC rfl (m_X8_isJoining (by assumption)) dX8_fields_7 (by assumption) rfl a_le a_le a_le a_le a_le rfl aPure_x (aPure_k ?_)
  show AW X 0 0 10 [some (.ref s)] [.int (bI (decide (I s 2 = 5 ∨ I s 2 = 6))), .int (1 <<< ((I s 3) &&& 31))] T I J R
  refine aw_if_eq (tgt := 22) hC dX8_fields_10 (by decide) (fun h1 => ?_) (fun h1 => ?_)
  · show AW X 0 0 22 [some (.ref s)] [.int (1 <<< ((I s 3) &&& 31))] T I J R
    refine aw_iconst (v := 0) hC dX8_fields_22 (by decide) ?_
    refine aw_ior hC dX8_fields_23 ?_
    exact aw_ireturn hC hq rfl dX8_fields_24 a_le a_le (aPure_i (by simp only [bI_d0, Classical.not_not] at h1; simp [iBit, h1]))
  · show AW X 0 0 13 [some (.ref s)] [.int (1 <<< ((I s 3) &&& 31))] T I J R
    refine aw_iconst (v := 1) hC dX8_fields_13 (by decide) ?_
    refine aw_aload_n hC dX8_fields_14 rfl ?_
    refine aw_getI hC dX8_fields_15 aF_X8_24 rfl (by assumption) ?_
    refine aw_ishl hC dX8_fields_18 ?_
    refine aw_goto (tgt := 23) hC dX8_fields_19 (by decide) ?_
    refine aw_ior hC dX8_fields_23 ?_
    exact aw_ireturn hC hq rfl dX8_fields_24 a_le a_le (aPure_i (by simp only [bI_d0, Classical.not_not] at h1; simp [iBit, h1]))
abbrev mRange (kind a b : Int32) : Prop :=
  ((kind = 0 ∨ kind = 3 ∨ kind = 4 ∨ kind = 7) ∧ 0 ≤ a ∧ a ≤ 63 ∧ b = 0) ∨ (kind = 1 ∧ 0 ≤ a ∧ a ≤ 63 ∧ a ≤ b ∧ b ≤ 63) ∨ (kind = 2 ∧ 0 ≤ a ∧ a ≤ 63 ∧ 0 ≤ b ∧ b ≤ 63) ∨ (kind = 5 ∧ -63 ≤ b ∧ b ≤ 63) ∨
  (kind = 6 ∧ b = 0) ∨ (kind = 12 ∧ 1 ≤ a ∧ a ≤ 3 ∧ b = 0) ∨ (8 ≤ kind ∧ kind ≤ 11 ∧ a = 0 ∧ b = 0)
set_option maxRecDepth 100000 in
theorem m_X12_isRange {T : List aT} {I : aI} {J : aJ} {R : aR} (kind a b : Int32) : MX12_isRange 0 0 [.int kind, .int a, .int b] T I J R (aPure (some (.int (bI (decide (mRange kind a b))))) T I J R) := by
  refine a_met (by decide +kernel) a_le (fun X hC hq => ?_)
  show AW X 0 0 0 [some (.int kind), some (.int a), some (.int b)] [] T I J R
  refine aw_iload_n hC dX12_isRange_0 rfl ?_
  rcases sw_cases kind with hs1 | hs1 | hs1 | hs1 | hs1 | hs1 | hs1 | hs1 | hs1 | hs1 | hs1 | hs1 | hs1 | hs1
  · refine aw_tableIn (off := 67) (tgt := 68) hC dX12_isRange_1 (by rw [hs1]; decide) (by rw [hs1]; decide) (by rw [hs1]; rfl) (by decide) ?_
    refine aw_iload_n hC dX12_isRange_68 rfl ?_
    refine aw_iconst (v := 0) hC dX12_isRange_69 (by decide) ?_
    refine aw_bipush (v := 63) hC dX12_isRange_70 (by decide) ?_
    refine kX12_169 hC rfl (m_X12_isIn a (0 : Int32) (63 : Int32)) dX12_isRange_72 rfl a_le a_le a_le a_le a_le rfl aPure_x (aPure_k ?_)
    show AW X 0 0 75 [some (.int kind), some (.int a), some (.int b)] [.int (bI (decide ((0 : Int32) ≤ a ∧ a ≤ (63 : Int32))))] T I J R
    refine aw_if_eq (tgt := 86) hC dX12_isRange_75 (by decide) (fun h2 => ?_) (fun h2 => ?_)
    · show AW X 0 0 86 [some (.int kind), some (.int a), some (.int b)] [] T I J R
      refine aw_iconst (v := 0) hC dX12_isRange_86 (by decide) ?_
      exact aw_zreturn hC hq rfl (Or.inl rfl) dX12_isRange_87 a_le a_le (aPure_i (bI_no (by clear hC hq; (try simp only [bI_e0, bI_n0, decide_eq_false_iff_not, decide_eq_true_eq, Classical.not_not] at *); (simp only [mRange, i_lt, i_le, i_eq, Int32.reduceToInt] at *); omega)))
    · show AW X 0 0 78 [some (.int kind), some (.int a), some (.int b)] [] T I J R
      refine aw_iload_n hC dX12_isRange_78 rfl ?_
      refine aw_if_ne (tgt := 86) hC dX12_isRange_79 (by decide) (fun h3 => ?_) (fun h3 => ?_)
      · show AW X 0 0 86 [some (.int kind), some (.int a), some (.int b)] [] T I J R
        refine aw_iconst (v := 0) hC dX12_isRange_86 (by decide) ?_
        exact aw_zreturn hC hq rfl (Or.inl rfl) dX12_isRange_87 a_le a_le (aPure_i (bI_no (by clear hC hq; (try simp only [bI_e0, bI_n0, decide_eq_false_iff_not, decide_eq_true_eq, Classical.not_not] at *); (simp only [mRange, i_lt, i_le, i_eq, Int32.reduceToInt] at *); omega)))
      · show AW X 0 0 82 [some (.int kind), some (.int a), some (.int b)] [] T I J R
        refine aw_iconst (v := 1) hC dX12_isRange_82 (by decide) ?_
        refine aw_goto (tgt := 87) hC dX12_isRange_83 (by decide) ?_
        exact aw_zreturn hC hq rfl (Or.inr rfl) dX12_isRange_87 a_le a_le (aPure_i (bI_yes (by clear hC hq; (try simp only [bI_e0, bI_n0, decide_eq_false_iff_not, decide_eq_true_eq, Classical.not_not] at *); (simp only [mRange, i_lt, i_le, i_eq, Int32.reduceToInt] at *); omega)))
  · refine aw_tableIn (off := 87) (tgt := 88) hC dX12_isRange_1 (by rw [hs1]; decide) (by rw [hs1]; decide) (by rw [hs1]; rfl) (by decide) ?_
    refine aw_iload_n hC dX12_isRange_88 rfl ?_
    refine aw_iconst (v := 0) hC dX12_isRange_89 (by decide) ?_
    refine aw_bipush (v := 63) hC dX12_isRange_90 (by decide) ?_
    refine kX12_169 hC rfl (m_X12_isIn a (0 : Int32) (63 : Int32)) dX12_isRange_92 rfl a_le a_le a_le a_le a_le rfl aPure_x (aPure_k ?_)
    show AW X 0 0 95 [some (.int kind), some (.int a), some (.int b)] [.int (bI (decide ((0 : Int32) ≤ a ∧ a ≤ (63 : Int32))))] T I J R
    refine aw_if_eq (tgt := 112) hC dX12_isRange_95 (by decide) (fun h4 => ?_) (fun h4 => ?_)
    · show AW X 0 0 112 [some (.int kind), some (.int a), some (.int b)] [] T I J R
      refine aw_iconst (v := 0) hC dX12_isRange_112 (by decide) ?_
      exact aw_zreturn hC hq rfl (Or.inl rfl) dX12_isRange_113 a_le a_le (aPure_i (bI_no (by clear hC hq; (try simp only [bI_e0, bI_n0, decide_eq_false_iff_not, decide_eq_true_eq, Classical.not_not] at *); (simp only [mRange, i_lt, i_le, i_eq, Int32.reduceToInt] at *); omega)))
    · show AW X 0 0 98 [some (.int kind), some (.int a), some (.int b)] [] T I J R
      refine aw_iload_n hC dX12_isRange_98 rfl ?_
      refine aw_iload_n hC dX12_isRange_99 rfl ?_
      refine aw_bipush (v := 63) hC dX12_isRange_100 (by decide) ?_
      refine kX12_169 hC rfl (m_X12_isIn b a (63 : Int32)) dX12_isRange_102 rfl a_le a_le a_le a_le a_le rfl aPure_x (aPure_k ?_)
      show AW X 0 0 105 [some (.int kind), some (.int a), some (.int b)] [.int (bI (decide (a ≤ b ∧ b ≤ (63 : Int32))))] T I J R
      refine aw_if_eq (tgt := 112) hC dX12_isRange_105 (by decide) (fun h5 => ?_) (fun h5 => ?_)
      · show AW X 0 0 112 [some (.int kind), some (.int a), some (.int b)] [] T I J R
        refine aw_iconst (v := 0) hC dX12_isRange_112 (by decide) ?_
        exact aw_zreturn hC hq rfl (Or.inl rfl) dX12_isRange_113 a_le a_le (aPure_i (bI_no (by clear hC hq; (try simp only [bI_e0, bI_n0, decide_eq_false_iff_not, decide_eq_true_eq, Classical.not_not] at *); (simp only [mRange, i_lt, i_le, i_eq, Int32.reduceToInt] at *); omega)))
      · show AW X 0 0 108 [some (.int kind), some (.int a), some (.int b)] [] T I J R
        refine aw_iconst (v := 1) hC dX12_isRange_108 (by decide) ?_
        refine aw_goto (tgt := 113) hC dX12_isRange_109 (by decide) ?_
        exact aw_zreturn hC hq rfl (Or.inr rfl) dX12_isRange_113 a_le a_le (aPure_i (bI_yes (by clear hC hq; (try simp only [bI_e0, bI_n0, decide_eq_false_iff_not, decide_eq_true_eq, Classical.not_not] at *); (simp only [mRange, i_lt, i_le, i_eq, Int32.reduceToInt] at *); omega)))
  · refine aw_tableIn (off := 113) (tgt := 114) hC dX12_isRange_1 (by rw [hs1]; decide) (by rw [hs1]; decide) (by rw [hs1]; rfl) (by decide) ?_
    refine aw_iload_n hC dX12_isRange_114 rfl ?_
    refine aw_iconst (v := 0) hC dX12_isRange_115 (by decide) ?_
    refine aw_bipush (v := 63) hC dX12_isRange_116 (by decide) ?_
    refine kX12_169 hC rfl (m_X12_isIn a (0 : Int32) (63 : Int32)) dX12_isRange_118 rfl a_le a_le a_le a_le a_le rfl aPure_x (aPure_k ?_)
    show AW X 0 0 121 [some (.int kind), some (.int a), some (.int b)] [.int (bI (decide ((0 : Int32) ≤ a ∧ a ≤ (63 : Int32))))] T I J R
    refine aw_if_eq (tgt := 138) hC dX12_isRange_121 (by decide) (fun h6 => ?_) (fun h6 => ?_)
    · show AW X 0 0 138 [some (.int kind), some (.int a), some (.int b)] [] T I J R
      refine aw_iconst (v := 0) hC dX12_isRange_138 (by decide) ?_
      exact aw_zreturn hC hq rfl (Or.inl rfl) dX12_isRange_139 a_le a_le (aPure_i (bI_no (by clear hC hq; (try simp only [bI_e0, bI_n0, decide_eq_false_iff_not, decide_eq_true_eq, Classical.not_not] at *); (simp only [mRange, i_lt, i_le, i_eq, Int32.reduceToInt] at *); omega)))
    · show AW X 0 0 124 [some (.int kind), some (.int a), some (.int b)] [] T I J R
      refine aw_iload_n hC dX12_isRange_124 rfl ?_
      refine aw_iconst (v := 0) hC dX12_isRange_125 (by decide) ?_
      refine aw_bipush (v := 63) hC dX12_isRange_126 (by decide) ?_
      refine kX12_169 hC rfl (m_X12_isIn b (0 : Int32) (63 : Int32)) dX12_isRange_128 rfl a_le a_le a_le a_le a_le rfl aPure_x (aPure_k ?_)
      show AW X 0 0 131 [some (.int kind), some (.int a), some (.int b)] [.int (bI (decide ((0 : Int32) ≤ b ∧ b ≤ (63 : Int32))))] T I J R
      refine aw_if_eq (tgt := 138) hC dX12_isRange_131 (by decide) (fun h7 => ?_) (fun h7 => ?_)
      · show AW X 0 0 138 [some (.int kind), some (.int a), some (.int b)] [] T I J R
        refine aw_iconst (v := 0) hC dX12_isRange_138 (by decide) ?_
        exact aw_zreturn hC hq rfl (Or.inl rfl) dX12_isRange_139 a_le a_le (aPure_i (bI_no (by clear hC hq; (try simp only [bI_e0, bI_n0, decide_eq_false_iff_not, decide_eq_true_eq, Classical.not_not] at *); (simp only [mRange, i_lt, i_le, i_eq, Int32.reduceToInt] at *); omega)))
      · show AW X 0 0 134 [some (.int kind), some (.int a), some (.int b)] [] T I J R
        refine aw_iconst (v := 1) hC dX12_isRange_134 (by decide) ?_
        refine aw_goto (tgt := 139) hC dX12_isRange_135 (by decide) ?_
        exact aw_zreturn hC hq rfl (Or.inr rfl) dX12_isRange_139 a_le a_le (aPure_i (bI_yes (by clear hC hq; (try simp only [bI_e0, bI_n0, decide_eq_false_iff_not, decide_eq_true_eq, Classical.not_not] at *); (simp only [mRange, i_lt, i_le, i_eq, Int32.reduceToInt] at *); omega)))
  · refine aw_tableIn (off := 67) (tgt := 68) hC dX12_isRange_1 (by rw [hs1]; decide) (by rw [hs1]; decide) (by rw [hs1]; rfl) (by decide) ?_
    refine aw_iload_n hC dX12_isRange_68 rfl ?_
    refine aw_iconst (v := 0) hC dX12_isRange_69 (by decide) ?_
    refine aw_bipush (v := 63) hC dX12_isRange_70 (by decide) ?_
    refine kX12_169 hC rfl (m_X12_isIn a (0 : Int32) (63 : Int32)) dX12_isRange_72 rfl a_le a_le a_le a_le a_le rfl aPure_x (aPure_k ?_)
    show AW X 0 0 75 [some (.int kind), some (.int a), some (.int b)] [.int (bI (decide ((0 : Int32) ≤ a ∧ a ≤ (63 : Int32))))] T I J R
    refine aw_if_eq (tgt := 86) hC dX12_isRange_75 (by decide) (fun h8 => ?_) (fun h8 => ?_)
    · show AW X 0 0 86 [some (.int kind), some (.int a), some (.int b)] [] T I J R
      refine aw_iconst (v := 0) hC dX12_isRange_86 (by decide) ?_
      exact aw_zreturn hC hq rfl (Or.inl rfl) dX12_isRange_87 a_le a_le (aPure_i (bI_no (by clear hC hq; (try simp only [bI_e0, bI_n0, decide_eq_false_iff_not, decide_eq_true_eq, Classical.not_not] at *); (simp only [mRange, i_lt, i_le, i_eq, Int32.reduceToInt] at *); omega)))
    · show AW X 0 0 78 [some (.int kind), some (.int a), some (.int b)] [] T I J R
      refine aw_iload_n hC dX12_isRange_78 rfl ?_
      refine aw_if_ne (tgt := 86) hC dX12_isRange_79 (by decide) (fun h9 => ?_) (fun h9 => ?_)
      · show AW X 0 0 86 [some (.int kind), some (.int a), some (.int b)] [] T I J R
        refine aw_iconst (v := 0) hC dX12_isRange_86 (by decide) ?_
        exact aw_zreturn hC hq rfl (Or.inl rfl) dX12_isRange_87 a_le a_le (aPure_i (bI_no (by clear hC hq; (try simp only [bI_e0, bI_n0, decide_eq_false_iff_not, decide_eq_true_eq, Classical.not_not] at *); (simp only [mRange, i_lt, i_le, i_eq, Int32.reduceToInt] at *); omega)))
      · show AW X 0 0 82 [some (.int kind), some (.int a), some (.int b)] [] T I J R
        refine aw_iconst (v := 1) hC dX12_isRange_82 (by decide) ?_
        refine aw_goto (tgt := 87) hC dX12_isRange_83 (by decide) ?_
        exact aw_zreturn hC hq rfl (Or.inr rfl) dX12_isRange_87 a_le a_le (aPure_i (bI_yes (by clear hC hq; (try simp only [bI_e0, bI_n0, decide_eq_false_iff_not, decide_eq_true_eq, Classical.not_not] at *); (simp only [mRange, i_lt, i_le, i_eq, Int32.reduceToInt] at *); omega)))
  · refine aw_tableIn (off := 67) (tgt := 68) hC dX12_isRange_1 (by rw [hs1]; decide) (by rw [hs1]; decide) (by rw [hs1]; rfl) (by decide) ?_
    refine aw_iload_n hC dX12_isRange_68 rfl ?_
    refine aw_iconst (v := 0) hC dX12_isRange_69 (by decide) ?_
    refine aw_bipush (v := 63) hC dX12_isRange_70 (by decide) ?_
    refine kX12_169 hC rfl (m_X12_isIn a (0 : Int32) (63 : Int32)) dX12_isRange_72 rfl a_le a_le a_le a_le a_le rfl aPure_x (aPure_k ?_)
    show AW X 0 0 75 [some (.int kind), some (.int a), some (.int b)] [.int (bI (decide ((0 : Int32) ≤ a ∧ a ≤ (63 : Int32))))] T I J R
    refine aw_if_eq (tgt := 86) hC dX12_isRange_75 (by decide) (fun h10 => ?_) (fun h10 => ?_)
    · show AW X 0 0 86 [some (.int kind), some (.int a), some (.int b)] [] T I J R
      refine aw_iconst (v := 0) hC dX12_isRange_86 (by decide) ?_
      exact aw_zreturn hC hq rfl (Or.inl rfl) dX12_isRange_87 a_le a_le (aPure_i (bI_no (by clear hC hq; (try simp only [bI_e0, bI_n0, decide_eq_false_iff_not, decide_eq_true_eq, Classical.not_not] at *); (simp only [mRange, i_lt, i_le, i_eq, Int32.reduceToInt] at *); omega)))
    · show AW X 0 0 78 [some (.int kind), some (.int a), some (.int b)] [] T I J R
      refine aw_iload_n hC dX12_isRange_78 rfl ?_
      refine aw_if_ne (tgt := 86) hC dX12_isRange_79 (by decide) (fun h11 => ?_) (fun h11 => ?_)
      · show AW X 0 0 86 [some (.int kind), some (.int a), some (.int b)] [] T I J R
        refine aw_iconst (v := 0) hC dX12_isRange_86 (by decide) ?_
        exact aw_zreturn hC hq rfl (Or.inl rfl) dX12_isRange_87 a_le a_le (aPure_i (bI_no (by clear hC hq; (try simp only [bI_e0, bI_n0, decide_eq_false_iff_not, decide_eq_true_eq, Classical.not_not] at *); (simp only [mRange, i_lt, i_le, i_eq, Int32.reduceToInt] at *); omega)))
      · show AW X 0 0 82 [some (.int kind), some (.int a), some (.int b)] [] T I J R
        refine aw_iconst (v := 1) hC dX12_isRange_82 (by decide) ?_
        refine aw_goto (tgt := 87) hC dX12_isRange_83 (by decide) ?_
        exact aw_zreturn hC hq rfl (Or.inr rfl) dX12_isRange_87 a_le a_le (aPure_i (bI_yes (by clear hC hq; (try simp only [bI_e0, bI_n0, decide_eq_false_iff_not, decide_eq_true_eq, Classical.not_not] at *); (simp only [mRange, i_lt, i_le, i_eq, Int32.reduceToInt] at *); omega)))
  · refine aw_tableIn (off := 139) (tgt := 140) hC dX12_isRange_1 (by rw [hs1]; decide) (by rw [hs1]; decide) (by rw [hs1]; rfl) (by decide) ?_
    refine aw_iload_n hC dX12_isRange_140 rfl ?_
    refine aw_bipush (v := (-63)) hC dX12_isRange_141 (by decide) ?_
    refine aw_bipush (v := 63) hC dX12_isRange_143 (by decide) ?_
    refine kX12_169 hC rfl (m_X12_isIn b ((-63) : Int32) (63 : Int32)) dX12_isRange_145 rfl a_le a_le a_le a_le a_le rfl aPure_x (aPure_k ?_)
    show AW X 0 0 148 [some (.int kind), some (.int a), some (.int b)] [.int (bI (decide (((-63) : Int32) ≤ b ∧ b ≤ (63 : Int32))))] T I J R
    exact aw_zreturn hC hq rfl (bI_01 _) dX12_isRange_148 a_le a_le (aPure_i (congrArg bI (decide_eq_decide.mpr (by clear hC hq; (try simp only [bI_e0, bI_n0, decide_eq_false_iff_not, decide_eq_true_eq, Classical.not_not] at *); (simp only [mRange, i_lt, i_le, i_eq, Int32.reduceToInt] at *); constructor <;> intro h9 <;> omega))))
  · refine aw_tableIn (off := 148) (tgt := 149) hC dX12_isRange_1 (by rw [hs1]; decide) (by rw [hs1]; decide) (by rw [hs1]; rfl) (by decide) ?_
    refine aw_iload_n hC dX12_isRange_149 rfl ?_
    refine aw_if_ne (tgt := 157) hC dX12_isRange_150 (by decide) (fun h12 => ?_) (fun h12 => ?_)
    · show AW X 0 0 157 [some (.int kind), some (.int a), some (.int b)] [] T I J R
      refine aw_iconst (v := 0) hC dX12_isRange_157 (by decide) ?_
      exact aw_zreturn hC hq rfl (Or.inl rfl) dX12_isRange_158 a_le a_le (aPure_i (bI_no (by clear hC hq; (try simp only [bI_e0, bI_n0, decide_eq_false_iff_not, decide_eq_true_eq, Classical.not_not] at *); (simp only [mRange, i_lt, i_le, i_eq, Int32.reduceToInt] at *); omega)))
    · show AW X 0 0 153 [some (.int kind), some (.int a), some (.int b)] [] T I J R
      refine aw_iconst (v := 1) hC dX12_isRange_153 (by decide) ?_
      refine aw_goto (tgt := 158) hC dX12_isRange_154 (by decide) ?_
      exact aw_zreturn hC hq rfl (Or.inr rfl) dX12_isRange_158 a_le a_le (aPure_i (bI_yes (by clear hC hq; (try simp only [bI_e0, bI_n0, decide_eq_false_iff_not, decide_eq_true_eq, Classical.not_not] at *); (simp only [mRange, i_lt, i_le, i_eq, Int32.reduceToInt] at *); omega)))
  · refine aw_tableIn (off := 67) (tgt := 68) hC dX12_isRange_1 (by rw [hs1]; decide) (by rw [hs1]; decide) (by rw [hs1]; rfl) (by decide) ?_
    refine aw_iload_n hC dX12_isRange_68 rfl ?_
    refine aw_iconst (v := 0) hC dX12_isRange_69 (by decide) ?_
    refine aw_bipush (v := 63) hC dX12_isRange_70 (by decide) ?_
    refine kX12_169 hC rfl (m_X12_isIn a (0 : Int32) (63 : Int32)) dX12_isRange_72 rfl a_le a_le a_le a_le a_le rfl aPure_x (aPure_k ?_)
    show AW X 0 0 75 [some (.int kind), some (.int a), some (.int b)] [.int (bI (decide ((0 : Int32) ≤ a ∧ a ≤ (63 : Int32))))] T I J R
    refine aw_if_eq (tgt := 86) hC dX12_isRange_75 (by decide) (fun h13 => ?_) (fun h13 => ?_)
    · show AW X 0 0 86 [some (.int kind), some (.int a), some (.int b)] [] T I J R
      refine aw_iconst (v := 0) hC dX12_isRange_86 (by decide) ?_
      exact aw_zreturn hC hq rfl (Or.inl rfl) dX12_isRange_87 a_le a_le (aPure_i (bI_no (by clear hC hq; (try simp only [bI_e0, bI_n0, decide_eq_false_iff_not, decide_eq_true_eq, Classical.not_not] at *); (simp only [mRange, i_lt, i_le, i_eq, Int32.reduceToInt] at *); omega)))
    · show AW X 0 0 78 [some (.int kind), some (.int a), some (.int b)] [] T I J R
      refine aw_iload_n hC dX12_isRange_78 rfl ?_
      refine aw_if_ne (tgt := 86) hC dX12_isRange_79 (by decide) (fun h14 => ?_) (fun h14 => ?_)
      · show AW X 0 0 86 [some (.int kind), some (.int a), some (.int b)] [] T I J R
        refine aw_iconst (v := 0) hC dX12_isRange_86 (by decide) ?_
        exact aw_zreturn hC hq rfl (Or.inl rfl) dX12_isRange_87 a_le a_le (aPure_i (bI_no (by clear hC hq; (try simp only [bI_e0, bI_n0, decide_eq_false_iff_not, decide_eq_true_eq, Classical.not_not] at *); (simp only [mRange, i_lt, i_le, i_eq, Int32.reduceToInt] at *); omega)))
      · show AW X 0 0 82 [some (.int kind), some (.int a), some (.int b)] [] T I J R
        refine aw_iconst (v := 1) hC dX12_isRange_82 (by decide) ?_
        refine aw_goto (tgt := 87) hC dX12_isRange_83 (by decide) ?_
        exact aw_zreturn hC hq rfl (Or.inr rfl) dX12_isRange_87 a_le a_le (aPure_i (bI_yes (by clear hC hq; (try simp only [bI_e0, bI_n0, decide_eq_false_iff_not, decide_eq_true_eq, Classical.not_not] at *); (simp only [mRange, i_lt, i_le, i_eq, Int32.reduceToInt] at *); omega)))
  · refine aw_tableIn (off := 177) (tgt := 178) hC dX12_isRange_1 (by rw [hs1]; decide) (by rw [hs1]; decide) (by rw [hs1]; rfl) (by decide) ?_
    refine aw_iload_n hC dX12_isRange_178 rfl ?_
    refine aw_bipush (v := 8) hC dX12_isRange_179 (by decide) ?_
    refine aw_bipush (v := 11) hC dX12_isRange_181 (by decide) ?_
    refine kX12_169 hC rfl (m_X12_isIn kind (8 : Int32) (11 : Int32)) dX12_isRange_183 rfl a_le a_le a_le a_le a_le rfl aPure_x (aPure_k ?_)
    show AW X 0 0 186 [some (.int kind), some (.int a), some (.int b)] [.int (bI (decide ((8 : Int32) ≤ kind ∧ kind ≤ (11 : Int32))))] T I J R
    refine aw_if_eq (tgt := 201) hC dX12_isRange_186 (by decide) (fun h15 => ?_) (fun h15 => ?_)
    · show AW X 0 0 201 [some (.int kind), some (.int a), some (.int b)] [] T I J R
      refine aw_iconst (v := 0) hC dX12_isRange_201 (by decide) ?_
      exact aw_zreturn hC hq rfl (Or.inl rfl) dX12_isRange_202 a_le a_le (aPure_i (bI_no (by clear hC hq; (try simp only [bI_e0, bI_n0, decide_eq_false_iff_not, decide_eq_true_eq, Classical.not_not] at *); (simp only [mRange, i_lt, i_le, i_eq, Int32.reduceToInt] at *); omega)))
    · show AW X 0 0 189 [some (.int kind), some (.int a), some (.int b)] [] T I J R
      refine aw_iload_n hC dX12_isRange_189 rfl ?_
      refine aw_if_ne (tgt := 201) hC dX12_isRange_190 (by decide) (fun h16 => ?_) (fun h16 => ?_)
      · show AW X 0 0 201 [some (.int kind), some (.int a), some (.int b)] [] T I J R
        refine aw_iconst (v := 0) hC dX12_isRange_201 (by decide) ?_
        exact aw_zreturn hC hq rfl (Or.inl rfl) dX12_isRange_202 a_le a_le (aPure_i (bI_no (by clear hC hq; (try simp only [bI_e0, bI_n0, decide_eq_false_iff_not, decide_eq_true_eq, Classical.not_not] at *); (simp only [mRange, i_lt, i_le, i_eq, Int32.reduceToInt] at *); omega)))
      · show AW X 0 0 193 [some (.int kind), some (.int a), some (.int b)] [] T I J R
        refine aw_iload_n hC dX12_isRange_193 rfl ?_
        refine aw_if_ne (tgt := 201) hC dX12_isRange_194 (by decide) (fun h17 => ?_) (fun h17 => ?_)
        · show AW X 0 0 201 [some (.int kind), some (.int a), some (.int b)] [] T I J R
          refine aw_iconst (v := 0) hC dX12_isRange_201 (by decide) ?_
          exact aw_zreturn hC hq rfl (Or.inl rfl) dX12_isRange_202 a_le a_le (aPure_i (bI_no (by clear hC hq; (try simp only [bI_e0, bI_n0, decide_eq_false_iff_not, decide_eq_true_eq, Classical.not_not] at *); (simp only [mRange, i_lt, i_le, i_eq, Int32.reduceToInt] at *); omega)))
        · show AW X 0 0 197 [some (.int kind), some (.int a), some (.int b)] [] T I J R
          refine aw_iconst (v := 1) hC dX12_isRange_197 (by decide) ?_
          refine aw_goto (tgt := 202) hC dX12_isRange_198 (by decide) ?_
          exact aw_zreturn hC hq rfl (Or.inr rfl) dX12_isRange_202 a_le a_le (aPure_i (bI_yes (by clear hC hq; (try simp only [bI_e0, bI_n0, decide_eq_false_iff_not, decide_eq_true_eq, Classical.not_not] at *); (simp only [mRange, i_lt, i_le, i_eq, Int32.reduceToInt] at *); omega)))
  · refine aw_tableIn (off := 177) (tgt := 178) hC dX12_isRange_1 (by rw [hs1]; decide) (by rw [hs1]; decide) (by rw [hs1]; rfl) (by decide) ?_
    refine aw_iload_n hC dX12_isRange_178 rfl ?_
    refine aw_bipush (v := 8) hC dX12_isRange_179 (by decide) ?_
    refine aw_bipush (v := 11) hC dX12_isRange_181 (by decide) ?_
    refine kX12_169 hC rfl (m_X12_isIn kind (8 : Int32) (11 : Int32)) dX12_isRange_183 rfl a_le a_le a_le a_le a_le rfl aPure_x (aPure_k ?_)
    show AW X 0 0 186 [some (.int kind), some (.int a), some (.int b)] [.int (bI (decide ((8 : Int32) ≤ kind ∧ kind ≤ (11 : Int32))))] T I J R
    refine aw_if_eq (tgt := 201) hC dX12_isRange_186 (by decide) (fun h18 => ?_) (fun h18 => ?_)
    · show AW X 0 0 201 [some (.int kind), some (.int a), some (.int b)] [] T I J R
      refine aw_iconst (v := 0) hC dX12_isRange_201 (by decide) ?_
      exact aw_zreturn hC hq rfl (Or.inl rfl) dX12_isRange_202 a_le a_le (aPure_i (bI_no (by clear hC hq; (try simp only [bI_e0, bI_n0, decide_eq_false_iff_not, decide_eq_true_eq, Classical.not_not] at *); (simp only [mRange, i_lt, i_le, i_eq, Int32.reduceToInt] at *); omega)))
    · show AW X 0 0 189 [some (.int kind), some (.int a), some (.int b)] [] T I J R
      refine aw_iload_n hC dX12_isRange_189 rfl ?_
      refine aw_if_ne (tgt := 201) hC dX12_isRange_190 (by decide) (fun h19 => ?_) (fun h19 => ?_)
      · show AW X 0 0 201 [some (.int kind), some (.int a), some (.int b)] [] T I J R
        refine aw_iconst (v := 0) hC dX12_isRange_201 (by decide) ?_
        exact aw_zreturn hC hq rfl (Or.inl rfl) dX12_isRange_202 a_le a_le (aPure_i (bI_no (by clear hC hq; (try simp only [bI_e0, bI_n0, decide_eq_false_iff_not, decide_eq_true_eq, Classical.not_not] at *); (simp only [mRange, i_lt, i_le, i_eq, Int32.reduceToInt] at *); omega)))
      · show AW X 0 0 193 [some (.int kind), some (.int a), some (.int b)] [] T I J R
        refine aw_iload_n hC dX12_isRange_193 rfl ?_
        refine aw_if_ne (tgt := 201) hC dX12_isRange_194 (by decide) (fun h20 => ?_) (fun h20 => ?_)
        · show AW X 0 0 201 [some (.int kind), some (.int a), some (.int b)] [] T I J R
          refine aw_iconst (v := 0) hC dX12_isRange_201 (by decide) ?_
          exact aw_zreturn hC hq rfl (Or.inl rfl) dX12_isRange_202 a_le a_le (aPure_i (bI_no (by clear hC hq; (try simp only [bI_e0, bI_n0, decide_eq_false_iff_not, decide_eq_true_eq, Classical.not_not] at *); (simp only [mRange, i_lt, i_le, i_eq, Int32.reduceToInt] at *); omega)))
        · show AW X 0 0 197 [some (.int kind), some (.int a), some (.int b)] [] T I J R
          refine aw_iconst (v := 1) hC dX12_isRange_197 (by decide) ?_
          refine aw_goto (tgt := 202) hC dX12_isRange_198 (by decide) ?_
          exact aw_zreturn hC hq rfl (Or.inr rfl) dX12_isRange_202 a_le a_le (aPure_i (bI_yes (by clear hC hq; (try simp only [bI_e0, bI_n0, decide_eq_false_iff_not, decide_eq_true_eq, Classical.not_not] at *); (simp only [mRange, i_lt, i_le, i_eq, Int32.reduceToInt] at *); omega)))
  · refine aw_tableIn (off := 177) (tgt := 178) hC dX12_isRange_1 (by rw [hs1]; decide) (by rw [hs1]; decide) (by rw [hs1]; rfl) (by decide) ?_
    refine aw_iload_n hC dX12_isRange_178 rfl ?_
    refine aw_bipush (v := 8) hC dX12_isRange_179 (by decide) ?_
    refine aw_bipush (v := 11) hC dX12_isRange_181 (by decide) ?_
    refine kX12_169 hC rfl (m_X12_isIn kind (8 : Int32) (11 : Int32)) dX12_isRange_183 rfl a_le a_le a_le a_le a_le rfl aPure_x (aPure_k ?_)
    show AW X 0 0 186 [some (.int kind), some (.int a), some (.int b)] [.int (bI (decide ((8 : Int32) ≤ kind ∧ kind ≤ (11 : Int32))))] T I J R
    refine aw_if_eq (tgt := 201) hC dX12_isRange_186 (by decide) (fun h21 => ?_) (fun h21 => ?_)
    · show AW X 0 0 201 [some (.int kind), some (.int a), some (.int b)] [] T I J R
      refine aw_iconst (v := 0) hC dX12_isRange_201 (by decide) ?_
      exact aw_zreturn hC hq rfl (Or.inl rfl) dX12_isRange_202 a_le a_le (aPure_i (bI_no (by clear hC hq; (try simp only [bI_e0, bI_n0, decide_eq_false_iff_not, decide_eq_true_eq, Classical.not_not] at *); (simp only [mRange, i_lt, i_le, i_eq, Int32.reduceToInt] at *); omega)))
    · show AW X 0 0 189 [some (.int kind), some (.int a), some (.int b)] [] T I J R
      refine aw_iload_n hC dX12_isRange_189 rfl ?_
      refine aw_if_ne (tgt := 201) hC dX12_isRange_190 (by decide) (fun h22 => ?_) (fun h22 => ?_)
      · show AW X 0 0 201 [some (.int kind), some (.int a), some (.int b)] [] T I J R
        refine aw_iconst (v := 0) hC dX12_isRange_201 (by decide) ?_
        exact aw_zreturn hC hq rfl (Or.inl rfl) dX12_isRange_202 a_le a_le (aPure_i (bI_no (by clear hC hq; (try simp only [bI_e0, bI_n0, decide_eq_false_iff_not, decide_eq_true_eq, Classical.not_not] at *); (simp only [mRange, i_lt, i_le, i_eq, Int32.reduceToInt] at *); omega)))
      · show AW X 0 0 193 [some (.int kind), some (.int a), some (.int b)] [] T I J R
        refine aw_iload_n hC dX12_isRange_193 rfl ?_
        refine aw_if_ne (tgt := 201) hC dX12_isRange_194 (by decide) (fun h23 => ?_) (fun h23 => ?_)
        · show AW X 0 0 201 [some (.int kind), some (.int a), some (.int b)] [] T I J R
          refine aw_iconst (v := 0) hC dX12_isRange_201 (by decide) ?_
          exact aw_zreturn hC hq rfl (Or.inl rfl) dX12_isRange_202 a_le a_le (aPure_i (bI_no (by clear hC hq; (try simp only [bI_e0, bI_n0, decide_eq_false_iff_not, decide_eq_true_eq, Classical.not_not] at *); (simp only [mRange, i_lt, i_le, i_eq, Int32.reduceToInt] at *); omega)))
        · show AW X 0 0 197 [some (.int kind), some (.int a), some (.int b)] [] T I J R
          refine aw_iconst (v := 1) hC dX12_isRange_197 (by decide) ?_
          refine aw_goto (tgt := 202) hC dX12_isRange_198 (by decide) ?_
          exact aw_zreturn hC hq rfl (Or.inr rfl) dX12_isRange_202 a_le a_le (aPure_i (bI_yes (by clear hC hq; (try simp only [bI_e0, bI_n0, decide_eq_false_iff_not, decide_eq_true_eq, Classical.not_not] at *); (simp only [mRange, i_lt, i_le, i_eq, Int32.reduceToInt] at *); omega)))
  · refine aw_tableIn (off := 177) (tgt := 178) hC dX12_isRange_1 (by rw [hs1]; decide) (by rw [hs1]; decide) (by rw [hs1]; rfl) (by decide) ?_
    refine aw_iload_n hC dX12_isRange_178 rfl ?_
    refine aw_bipush (v := 8) hC dX12_isRange_179 (by decide) ?_
    refine aw_bipush (v := 11) hC dX12_isRange_181 (by decide) ?_
    refine kX12_169 hC rfl (m_X12_isIn kind (8 : Int32) (11 : Int32)) dX12_isRange_183 rfl a_le a_le a_le a_le a_le rfl aPure_x (aPure_k ?_)
    show AW X 0 0 186 [some (.int kind), some (.int a), some (.int b)] [.int (bI (decide ((8 : Int32) ≤ kind ∧ kind ≤ (11 : Int32))))] T I J R
    refine aw_if_eq (tgt := 201) hC dX12_isRange_186 (by decide) (fun h24 => ?_) (fun h24 => ?_)
    · show AW X 0 0 201 [some (.int kind), some (.int a), some (.int b)] [] T I J R
      refine aw_iconst (v := 0) hC dX12_isRange_201 (by decide) ?_
      exact aw_zreturn hC hq rfl (Or.inl rfl) dX12_isRange_202 a_le a_le (aPure_i (bI_no (by clear hC hq; (try simp only [bI_e0, bI_n0, decide_eq_false_iff_not, decide_eq_true_eq, Classical.not_not] at *); (simp only [mRange, i_lt, i_le, i_eq, Int32.reduceToInt] at *); omega)))
    · show AW X 0 0 189 [some (.int kind), some (.int a), some (.int b)] [] T I J R
      refine aw_iload_n hC dX12_isRange_189 rfl ?_
      refine aw_if_ne (tgt := 201) hC dX12_isRange_190 (by decide) (fun h25 => ?_) (fun h25 => ?_)
      · show AW X 0 0 201 [some (.int kind), some (.int a), some (.int b)] [] T I J R
        refine aw_iconst (v := 0) hC dX12_isRange_201 (by decide) ?_
        exact aw_zreturn hC hq rfl (Or.inl rfl) dX12_isRange_202 a_le a_le (aPure_i (bI_no (by clear hC hq; (try simp only [bI_e0, bI_n0, decide_eq_false_iff_not, decide_eq_true_eq, Classical.not_not] at *); (simp only [mRange, i_lt, i_le, i_eq, Int32.reduceToInt] at *); omega)))
      · show AW X 0 0 193 [some (.int kind), some (.int a), some (.int b)] [] T I J R
        refine aw_iload_n hC dX12_isRange_193 rfl ?_
        refine aw_if_ne (tgt := 201) hC dX12_isRange_194 (by decide) (fun h26 => ?_) (fun h26 => ?_)
        · show AW X 0 0 201 [some (.int kind), some (.int a), some (.int b)] [] T I J R
          refine aw_iconst (v := 0) hC dX12_isRange_201 (by decide) ?_
          exact aw_zreturn hC hq rfl (Or.inl rfl) dX12_isRange_202 a_le a_le (aPure_i (bI_no (by clear hC hq; (try simp only [bI_e0, bI_n0, decide_eq_false_iff_not, decide_eq_true_eq, Classical.not_not] at *); (simp only [mRange, i_lt, i_le, i_eq, Int32.reduceToInt] at *); omega)))
        · show AW X 0 0 197 [some (.int kind), some (.int a), some (.int b)] [] T I J R
          refine aw_iconst (v := 1) hC dX12_isRange_197 (by decide) ?_
          refine aw_goto (tgt := 202) hC dX12_isRange_198 (by decide) ?_
          exact aw_zreturn hC hq rfl (Or.inr rfl) dX12_isRange_202 a_le a_le (aPure_i (bI_yes (by clear hC hq; (try simp only [bI_e0, bI_n0, decide_eq_false_iff_not, decide_eq_true_eq, Classical.not_not] at *); (simp only [mRange, i_lt, i_le, i_eq, Int32.reduceToInt] at *); omega)))
  · refine aw_tableIn (off := 158) (tgt := 159) hC dX12_isRange_1 (by rw [hs1]; decide) (by rw [hs1]; decide) (by rw [hs1]; rfl) (by decide) ?_
    refine aw_iload_n hC dX12_isRange_159 rfl ?_
    refine aw_iconst (v := 1) hC dX12_isRange_160 (by decide) ?_
    refine aw_iconst (v := 3) hC dX12_isRange_161 (by decide) ?_
    refine kX12_169 hC rfl (m_X12_isIn a (1 : Int32) (3 : Int32)) dX12_isRange_162 rfl a_le a_le a_le a_le a_le rfl aPure_x (aPure_k ?_)
    show AW X 0 0 165 [some (.int kind), some (.int a), some (.int b)] [.int (bI (decide ((1 : Int32) ≤ a ∧ a ≤ (3 : Int32))))] T I J R
    refine aw_if_eq (tgt := 176) hC dX12_isRange_165 (by decide) (fun h27 => ?_) (fun h27 => ?_)
    · show AW X 0 0 176 [some (.int kind), some (.int a), some (.int b)] [] T I J R
      refine aw_iconst (v := 0) hC dX12_isRange_176 (by decide) ?_
      exact aw_zreturn hC hq rfl (Or.inl rfl) dX12_isRange_177 a_le a_le (aPure_i (bI_no (by clear hC hq; (try simp only [bI_e0, bI_n0, decide_eq_false_iff_not, decide_eq_true_eq, Classical.not_not] at *); (simp only [mRange, i_lt, i_le, i_eq, Int32.reduceToInt] at *); omega)))
    · show AW X 0 0 168 [some (.int kind), some (.int a), some (.int b)] [] T I J R
      refine aw_iload_n hC dX12_isRange_168 rfl ?_
      refine aw_if_ne (tgt := 176) hC dX12_isRange_169 (by decide) (fun h28 => ?_) (fun h28 => ?_)
      · show AW X 0 0 176 [some (.int kind), some (.int a), some (.int b)] [] T I J R
        refine aw_iconst (v := 0) hC dX12_isRange_176 (by decide) ?_
        exact aw_zreturn hC hq rfl (Or.inl rfl) dX12_isRange_177 a_le a_le (aPure_i (bI_no (by clear hC hq; (try simp only [bI_e0, bI_n0, decide_eq_false_iff_not, decide_eq_true_eq, Classical.not_not] at *); (simp only [mRange, i_lt, i_le, i_eq, Int32.reduceToInt] at *); omega)))
      · show AW X 0 0 172 [some (.int kind), some (.int a), some (.int b)] [] T I J R
        refine aw_iconst (v := 1) hC dX12_isRange_172 (by decide) ?_
        refine aw_goto (tgt := 177) hC dX12_isRange_173 (by decide) ?_
        exact aw_zreturn hC hq rfl (Or.inr rfl) dX12_isRange_177 a_le a_le (aPure_i (bI_yes (by clear hC hq; (try simp only [bI_e0, bI_n0, decide_eq_false_iff_not, decide_eq_true_eq, Classical.not_not] at *); (simp only [mRange, i_lt, i_le, i_eq, Int32.reduceToInt] at *); omega)))
  · refine aw_tableOut (tgt := 178) hC dX12_isRange_1 (by omega) (by decide) ?_
    refine aw_iload_n hC dX12_isRange_178 rfl ?_
    refine aw_bipush (v := 8) hC dX12_isRange_179 (by decide) ?_
    refine aw_bipush (v := 11) hC dX12_isRange_181 (by decide) ?_
    refine kX12_169 hC rfl (m_X12_isIn kind (8 : Int32) (11 : Int32)) dX12_isRange_183 rfl a_le a_le a_le a_le a_le rfl aPure_x (aPure_k ?_)
    show AW X 0 0 186 [some (.int kind), some (.int a), some (.int b)] [.int (bI (decide ((8 : Int32) ≤ kind ∧ kind ≤ (11 : Int32))))] T I J R
    refine aw_if_eq (tgt := 201) hC dX12_isRange_186 (by decide) (fun h29 => ?_) (fun h29 => ?_)
    · show AW X 0 0 201 [some (.int kind), some (.int a), some (.int b)] [] T I J R
      refine aw_iconst (v := 0) hC dX12_isRange_201 (by decide) ?_
      exact aw_zreturn hC hq rfl (Or.inl rfl) dX12_isRange_202 a_le a_le (aPure_i (bI_no (by clear hC hq; (try simp only [bI_e0, bI_n0, decide_eq_false_iff_not, decide_eq_true_eq, Classical.not_not] at *); (simp only [mRange, i_lt, i_le, i_eq, Int32.reduceToInt] at *); omega)))
    · show AW X 0 0 189 [some (.int kind), some (.int a), some (.int b)] [] T I J R
      refine aw_iload_n hC dX12_isRange_189 rfl ?_
      refine aw_if_ne (tgt := 201) hC dX12_isRange_190 (by decide) (fun h30 => ?_) (fun h30 => ?_)
      · show AW X 0 0 201 [some (.int kind), some (.int a), some (.int b)] [] T I J R
        refine aw_iconst (v := 0) hC dX12_isRange_201 (by decide) ?_
        exact aw_zreturn hC hq rfl (Or.inl rfl) dX12_isRange_202 a_le a_le (aPure_i (bI_no (by clear hC hq; (try simp only [bI_e0, bI_n0, decide_eq_false_iff_not, decide_eq_true_eq, Classical.not_not] at *); (simp only [mRange, i_lt, i_le, i_eq, Int32.reduceToInt] at *); omega)))
      · show AW X 0 0 193 [some (.int kind), some (.int a), some (.int b)] [] T I J R
        refine aw_iload_n hC dX12_isRange_193 rfl ?_
        refine aw_if_ne (tgt := 201) hC dX12_isRange_194 (by decide) (fun h31 => ?_) (fun h31 => ?_)
        · show AW X 0 0 201 [some (.int kind), some (.int a), some (.int b)] [] T I J R
          refine aw_iconst (v := 0) hC dX12_isRange_201 (by decide) ?_
          exact aw_zreturn hC hq rfl (Or.inl rfl) dX12_isRange_202 a_le a_le (aPure_i (bI_no (by clear hC hq; (try simp only [bI_e0, bI_n0, decide_eq_false_iff_not, decide_eq_true_eq, Classical.not_not] at *); (simp only [mRange, i_lt, i_le, i_eq, Int32.reduceToInt] at *); omega)))
        · show AW X 0 0 197 [some (.int kind), some (.int a), some (.int b)] [] T I J R
          refine aw_iconst (v := 1) hC dX12_isRange_197 (by decide) ?_
          refine aw_goto (tgt := 202) hC dX12_isRange_198 (by decide) ?_
          exact aw_zreturn hC hq rfl (Or.inr rfl) dX12_isRange_202 a_le a_le (aPure_i (bI_yes (by clear hC hq; (try simp only [bI_e0, bI_n0, decide_eq_false_iff_not, decide_eq_true_eq, Classical.not_not] at *); (simp only [mRange, i_lt, i_le, i_eq, Int32.reduceToInt] at *); omega)))
