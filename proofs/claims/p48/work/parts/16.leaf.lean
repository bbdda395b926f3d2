set_option maxRecDepth 100000 in
theorem m_X11_isWithin {T : List aT} {I : aI} {J : aJ} {R : aR} (a b c : Int32) : MX11_isWithin 0 0 [.int a, .int b, .int c] T I J R (aPure (some (.int (bI (decide (b ≤ a ∧ a ≤ c))))) T I J R) := by
  refine a_met (by decide +kernel) a_le (fun X hC hq => ?_)
  show AW X 0 0 0 [some (.int a), some (.int b), some (.int c)] [] T I J R
  refine aw_iload_n hC dX11_isWithin_0 rfl ?_
  refine aw_iload_n hC dX11_isWithin_1 rfl ?_
  refine aw_icmp_lt (tgt := 14) hC dX11_isWithin_2 (by decide) (fun h1 => ?_) (fun h1 => ?_)
  · show AW X 0 0 14 [some (.int a), some (.int b), some (.int c)] [] T I J R
    refine aw_iconst (v := 0) hC dX11_isWithin_14 (by decide) ?_
    exact aw_zreturn hC hq rfl (Or.inl rfl) dX11_isWithin_15 a_le a_le (aPure_i (bI_no (by clear hC hq; (try simp only [bI_e0, bI_n0, decide_eq_false_iff_not, decide_eq_true_eq, Classical.not_not] at *); (simp only [i_lt, i_le, i_eq, Int32.reduceToInt] at *); omega)))
  · show AW X 0 0 5 [some (.int a), some (.int b), some (.int c)] [] T I J R
    refine aw_iload_n hC dX11_isWithin_5 rfl ?_
    refine aw_iload_n hC dX11_isWithin_6 rfl ?_
    refine aw_icmp_gt (tgt := 14) hC dX11_isWithin_7 (by decide) (fun h2 => ?_) (fun h2 => ?_)
    · show AW X 0 0 14 [some (.int a), some (.int b), some (.int c)] [] T I J R
      refine aw_iconst (v := 0) hC dX11_isWithin_14 (by decide) ?_
      exact aw_zreturn hC hq rfl (Or.inl rfl) dX11_isWithin_15 a_le a_le (aPure_i (bI_no (by clear hC hq; (try simp only [bI_e0, bI_n0, decide_eq_false_iff_not, decide_eq_true_eq, Classical.not_not] at *); (simp only [i_lt, i_le, i_eq, Int32.reduceToInt] at *); omega)))
    · show AW X 0 0 10 [some (.int a), some (.int b), some (.int c)] [] T I J R
      refine aw_iconst (v := 1) hC dX11_isWithin_10 (by decide) ?_
      refine aw_goto (tgt := 15) hC dX11_isWithin_11 (by decide) ?_
      exact aw_zreturn hC hq rfl (Or.inr rfl) dX11_isWithin_15 a_le a_le (aPure_i (bI_yes (by clear hC hq; (try simp only [bI_e0, bI_n0, decide_eq_false_iff_not, decide_eq_true_eq, Classical.not_not] at *); (simp only [i_lt, i_le, i_eq, Int32.reduceToInt] at *); omega)))
set_option maxRecDepth 100000 in
theorem m_X11_isBelow {T : List aT} {I : aI} {J : aJ} {R : aR} (a b : Int32) : MX11_isBelow 0 0 [.int a, .int b] T I J R (aPure (some (.int (bI (decide (0 ≤ a ∧ a < b))))) T I J R) := by
  refine a_met (by decide +kernel) a_le (fun X hC hq => ?_)
  show AW X 0 0 0 [some (.int a), some (.int b)] [] T I J R
  refine aw_iload_n hC dX11_isBelow_0 rfl ?_
  refine aw_if_lt (tgt := 13) hC dX11_isBelow_1 (by decide) (fun h1 => ?_) (fun h1 => ?_)
  · show AW X 0 0 13 [some (.int a), some (.int b)] [] T I J R
    refine aw_iconst (v := 0) hC dX11_isBelow_13 (by decide) ?_
    exact aw_zreturn hC hq rfl (Or.inl rfl) dX11_isBelow_14 a_le a_le (aPure_i (bI_no (by clear hC hq; (try simp only [bI_e0, bI_n0, decide_eq_false_iff_not, decide_eq_true_eq, Classical.not_not] at *); (simp only [i_lt, i_le, i_eq, Int32.reduceToInt] at *); omega)))
  · show AW X 0 0 4 [some (.int a), some (.int b)] [] T I J R
    refine aw_iload_n hC dX11_isBelow_4 rfl ?_
    refine aw_iload_n hC dX11_isBelow_5 rfl ?_
    refine aw_icmp_ge (tgt := 13) hC dX11_isBelow_6 (by decide) (fun h2 => ?_) (fun h2 => ?_)
    · show AW X 0 0 13 [some (.int a), some (.int b)] [] T I J R
      refine aw_iconst (v := 0) hC dX11_isBelow_13 (by decide) ?_
      exact aw_zreturn hC hq rfl (Or.inl rfl) dX11_isBelow_14 a_le a_le (aPure_i (bI_no (by clear hC hq; (try simp only [bI_e0, bI_n0, decide_eq_false_iff_not, decide_eq_true_eq, Classical.not_not] at *); (simp only [i_lt, i_le, i_eq, Int32.reduceToInt] at *); omega)))
    · show AW X 0 0 9 [some (.int a), some (.int b)] [] T I J R
      refine aw_iconst (v := 1) hC dX11_isBelow_9 (by decide) ?_
      refine aw_goto (tgt := 14) hC dX11_isBelow_10 (by decide) ?_
      exact aw_zreturn hC hq rfl (Or.inr rfl) dX11_isBelow_14 a_le a_le (aPure_i (bI_yes (by clear hC hq; (try simp only [bI_e0, bI_n0, decide_eq_false_iff_not, decide_eq_true_eq, Classical.not_not] at *); (simp only [i_lt, i_le, i_eq, Int32.reduceToInt] at *); omega)))
set_option maxRecDepth 100000 in
theorem m_X4_generatorOfSource {T : List aT} {I : aI} {J : aJ} {R : aR} (a : Int32) : MX4_generatorOfSource 0 0 [.int a] T I J R (aPure (some (.int ((a - 10) / 3))) T I J R) := by
  refine a_met (by decide +kernel) a_le (fun X hC hq => ?_)
  show AW X 0 0 0 [some (.int a)] [] T I J R
  refine aw_iload_n hC dX4_generatorOfSource_0 rfl ?_
  refine aw_bipush (v := 10) hC dX4_generatorOfSource_1 (by decide) ?_
  refine aw_isub hC dX4_generatorOfSource_3 ?_
  refine aw_iconst (v := 3) hC dX4_generatorOfSource_4 (by decide) ?_
  refine aw_idiv hC dX4_generatorOfSource_5 (by decide) ?_
  exact aw_ireturn hC hq rfl dX4_generatorOfSource_6 a_le a_le (aPure_i (by rfl))
set_option maxRecDepth 100000 in
theorem m_X4_attributeOfSource {T : List aT} {I : aI} {J : aJ} {R : aR} (a : Int32) : MX4_attributeOfSource 0 0 [.int a] T I J R (aPure (some (.int ((a - 10) - (a - 10) / 3 * 3))) T I J R) := by
  refine a_met (by decide +kernel) a_le (fun X hC hq => ?_)
  show AW X 0 0 0 [some (.int a)] [] T I J R
  refine aw_iload_n hC dX4_attributeOfSource_0 rfl ?_
  refine aw_bipush (v := 10) hC dX4_attributeOfSource_1 (by decide) ?_
  refine aw_isub hC dX4_attributeOfSource_3 ?_
  refine aw_iconst (v := 3) hC dX4_attributeOfSource_4 (by decide) ?_
  refine aw_irem hC dX4_attributeOfSource_5 (by decide) ?_
  exact aw_ireturn hC hq rfl dX4_attributeOfSource_6 a_le a_le (aPure_i (by rfl))
def sShift (s : Int64) (b : Int32) : Int64 := if 0 ≤ b then s <<< (b.toInt64 &&& 63) else (s.toUInt64 >>> ((-b).toInt64.toUInt64 &&& Int64.toUInt64 63)).toInt64
set_option maxRecDepth 100000 in
theorem m_X7_moved {T : List aT} {I : aI} {J : aJ} {R : aR} (x : Int64) (b : Int32) : MX7_moved 0 0 [.long x, .int b] T I J R (aPure (some (.long (sShift x b))) T I J R) := by
  refine a_met (by decide +kernel) a_le (fun X hC hq => ?_)
  show AW X 0 0 0 [some (.long x), none, some (.int b)] [] T I J R
  refine aw_iload_n hC dX7_moved_0 rfl ?_
  refine aw_if_lt (tgt := 10) hC dX7_moved_1 (by decide) (fun h1 => ?_) (fun h1 => ?_)
  · show AW X 0 0 10 [some (.long x), none, some (.int b)] [] T I J R
    refine aw_lload_n hC dX7_moved_10 rfl ?_
    refine aw_iload_n hC dX7_moved_11 rfl ?_
    refine aw_ineg hC dX7_moved_12 ?_
    refine aw_lushr hC dX7_moved_13 ?_
    exact aw_lreturn hC hq rfl dX7_moved_14 a_le a_le (aPure_l (by unfold sShift; first | rw [if_pos (by clear hC hq; (try simp only [bI_e0, bI_n0, decide_eq_false_iff_not, decide_eq_true_eq, Classical.not_not] at *); (simp only [i_lt, i_le, i_eq, Int32.reduceToInt] at *); omega)] | rw [if_neg (by clear hC hq; (try simp only [bI_e0, bI_n0, decide_eq_false_iff_not, decide_eq_true_eq, Classical.not_not] at *); (simp only [i_lt, i_le, i_eq, Int32.reduceToInt] at *); omega)]))
  · show AW X 0 0 4 [some (.long x), none, some (.int b)] [] T I J R
    refine aw_lload_n hC dX7_moved_4 rfl ?_
    refine aw_iload_n hC dX7_moved_5 rfl ?_
    refine aw_lshl hC dX7_moved_6 ?_
    refine aw_goto (tgt := 14) hC dX7_moved_7 (by decide) ?_
    exact aw_lreturn hC hq rfl dX7_moved_14 a_le a_le (aPure_l (by unfold sShift; first | rw [if_pos (by clear hC hq; (try simp only [bI_e0, bI_n0, decide_eq_false_iff_not, decide_eq_true_eq, Classical.not_not] at *); (simp only [i_lt, i_le, i_eq, Int32.reduceToInt] at *); omega)] | rw [if_neg (by clear hC hq; (try simp only [bI_e0, bI_n0, decide_eq_false_iff_not, decide_eq_true_eq, Classical.not_not] at *); (simp only [i_lt, i_le, i_eq, Int32.reduceToInt] at *); omega)]))
set_option maxRecDepth 100000 in
theorem m_X8_isNarrowing {T : List aT} {I : aI} {J : aJ} {R : aR} {s : Nat} (hs : T[s]? = some (.inr 8)) : MX8_isNarrowing 0 0 [.ref s] T I J R (aPure (some (.int (bI (decide (I s 2 ≤ 6))))) T I J R) := by
  refine a_met (by decide +kernel) a_le (fun X hC hq => ?_)
  show AW X 0 0 0 [some (.ref s)] [] T I J R
  refine aw_aload_n hC dX8_isNarrowing_0 rfl ?_
  refine aw_getI hC dX8_isNarrowing_1 aF_X8_18 rfl (by assumption) ?_
  refine aw_bipush (v := 6) hC dX8_isNarrowing_4 (by decide) ?_
  refine aw_icmp_gt (tgt := 13) hC dX8_isNarrowing_6 (by decide) (fun h1 => ?_) (fun h1 => ?_)
  · show AW X 0 0 13 [some (.ref s)] [] T I J R
    refine aw_iconst (v := 0) hC dX8_isNarrowing_13 (by decide) ?_
    exact aw_zreturn hC hq rfl (Or.inl rfl) dX8_isNarrowing_14 a_le a_le (aPure_i (bI_no (by clear hC hq; (try simp only [bI_e0, bI_n0, decide_eq_false_iff_not, decide_eq_true_eq, Classical.not_not] at *); (simp only [i_lt, i_le, i_eq, Int32.reduceToInt] at *); omega)))
  · show AW X 0 0 9 [some (.ref s)] [] T I J R
    refine aw_iconst (v := 1) hC dX8_isNarrowing_9 (by decide) ?_
    refine aw_goto (tgt := 14) hC dX8_isNarrowing_10 (by decide) ?_
    exact aw_zreturn hC hq rfl (Or.inr rfl) dX8_isNarrowing_14 a_le a_le (aPure_i (bI_yes (by clear hC hq; (try simp only [bI_e0, bI_n0, decide_eq_false_iff_not, decide_eq_true_eq, Classical.not_not] at *); (simp only [i_lt, i_le, i_eq, Int32.reduceToInt] at *); omega)))
set_option maxRecDepth 100000 in
theorem m_X8_isJoining {T : List aT} {I : aI} {J : aJ} {R : aR} {s : Nat} (hs : T[s]? = some (.inr 8)) : MX8_isJoining 0 0 [.ref s] T I J R (aPure (some (.int (bI (decide (I s 2 = 5 ∨ I s 2 = 6))))) T I J R) := by
  refine a_met (by decide +kernel) a_le (fun X hC hq => ?_)
  show AW X 0 0 0 [some (.ref s)] [] T I J R
  refine aw_aload_n hC dX8_isJoining_0 rfl ?_
  refine aw_getI hC dX8_isJoining_1 aF_X8_18 rfl (by assumption) ?_
  refine aw_iconst (v := 5) hC dX8_isJoining_4 (by decide) ?_
  refine aw_icmp_eq (tgt := 17) hC dX8_isJoining_5 (by decide) (fun h1 => ?_) (fun h1 => ?_)
  · show AW X 0 0 17 [some (.ref s)] [] T I J R
    refine aw_iconst (v := 1) hC dX8_isJoining_17 (by decide) ?_
    refine aw_goto (tgt := 22) hC dX8_isJoining_18 (by decide) ?_
    exact aw_zreturn hC hq rfl (Or.inr rfl) dX8_isJoining_22 a_le a_le (aPure_i (bI_yes (by clear hC hq; (try simp only [bI_e0, bI_n0, decide_eq_false_iff_not, decide_eq_true_eq, Classical.not_not] at *); (simp only [i_lt, i_le, i_eq, Int32.reduceToInt] at *); omega)))
  · show AW X 0 0 8 [some (.ref s)] [] T I J R
    refine aw_aload_n hC dX8_isJoining_8 rfl ?_
    refine aw_getI hC dX8_isJoining_9 aF_X8_18 rfl (by assumption) ?_
    refine aw_bipush (v := 6) hC dX8_isJoining_12 (by decide) ?_
    refine aw_icmp_ne (tgt := 21) hC dX8_isJoining_14 (by decide) (fun h2 => ?_) (fun h2 => ?_)
    · show AW X 0 0 21 [some (.ref s)] [] T I J R
      refine aw_iconst (v := 0) hC dX8_isJoining_21 (by decide) ?_
      exact aw_zreturn hC hq rfl (Or.inl rfl) dX8_isJoining_22 a_le a_le (aPure_i (bI_no (by clear hC hq; (try simp only [bI_e0, bI_n0, decide_eq_false_iff_not, decide_eq_true_eq, Classical.not_not] at *); (simp only [i_lt, i_le, i_eq, Int32.reduceToInt] at *); omega)))
    · show AW X 0 0 17 [some (.ref s)] [] T I J R
      refine aw_iconst (v := 1) hC dX8_isJoining_17 (by decide) ?_
      refine aw_goto (tgt := 22) hC dX8_isJoining_18 (by decide) ?_
      exact aw_zreturn hC hq rfl (Or.inr rfl) dX8_isJoining_22 a_le a_le (aPure_i (bI_yes (by clear hC hq; (try simp only [bI_e0, bI_n0, decide_eq_false_iff_not, decide_eq_true_eq, Classical.not_not] at *); (simp only [i_lt, i_le, i_eq, Int32.reduceToInt] at *); omega)))
set_option maxRecDepth 100000 in
theorem m_X8_isTogetherWith {T : List aT} {I : aI} {J : aJ} {R : aR} {s t : Nat} (hs : T[s]? = some (.inr 8)) (ht : T[t]? = some (.inr 8)) : MX8_isTogetherWith 0 0 [.ref s, .ref t] T I J R (aPure (some (.int (bI (decide (I s 0 = I t 0 ∧ I s 1 = I t 1))))) T I J R) := by
  refine a_met (by decide +kernel) a_le (fun X hC hq => ?_)
  show AW X 0 0 0 [some (.ref s), some (.ref t)] [] T I J R
  refine aw_aload_n hC dX8_isTogetherWith_0 rfl ?_
  refine aw_getI hC dX8_isTogetherWith_1 aF_X8_9 rfl (by assumption) ?_
  refine aw_aload_n hC dX8_isTogetherWith_4 rfl ?_
  refine aw_getI hC dX8_isTogetherWith_5 aF_X8_9 rfl (by assumption) ?_
  refine aw_icmp_ne (tgt := 26) hC dX8_isTogetherWith_8 (by decide) (fun h1 => ?_) (fun h1 => ?_)
  · show AW X 0 0 26 [some (.ref s), some (.ref t)] [] T I J R
    refine aw_iconst (v := 0) hC dX8_isTogetherWith_26 (by decide) ?_
    exact aw_zreturn hC hq rfl (Or.inl rfl) dX8_isTogetherWith_27 a_le a_le (aPure_i (bI_no (by clear hC hq; (try simp only [bI_e0, bI_n0, decide_eq_false_iff_not, decide_eq_true_eq, Classical.not_not] at *); (simp only [i_lt, i_le, i_eq, Int32.reduceToInt] at *); omega)))
  · show AW X 0 0 11 [some (.ref s), some (.ref t)] [] T I J R
    refine aw_aload_n hC dX8_isTogetherWith_11 rfl ?_
    refine aw_getI hC dX8_isTogetherWith_12 aF_X8_15 rfl (by assumption) ?_
    refine aw_aload_n hC dX8_isTogetherWith_15 rfl ?_
    refine aw_getI hC dX8_isTogetherWith_16 aF_X8_15 rfl (by assumption) ?_
    refine aw_icmp_ne (tgt := 26) hC dX8_isTogetherWith_19 (by decide) (fun h2 => ?_) (fun h2 => ?_)
    · show AW X 0 0 26 [some (.ref s), some (.ref t)] [] T I J R
      refine aw_iconst (v := 0) hC dX8_isTogetherWith_26 (by decide) ?_
      exact aw_zreturn hC hq rfl (Or.inl rfl) dX8_isTogetherWith_27 a_le a_le (aPure_i (bI_no (by clear hC hq; (try simp only [bI_e0, bI_n0, decide_eq_false_iff_not, decide_eq_true_eq, Classical.not_not] at *); (simp only [i_lt, i_le, i_eq, Int32.reduceToInt] at *); omega)))
    · show AW X 0 0 22 [some (.ref s), some (.ref t)] [] T I J R
      refine aw_iconst (v := 1) hC dX8_isTogetherWith_22 (by decide) ?_
      refine aw_goto (tgt := 27) hC dX8_isTogetherWith_23 (by decide) ?_
      exact aw_zreturn hC hq rfl (Or.inr rfl) dX8_isTogetherWith_27 a_le a_le (aPure_i (bI_yes (by clear hC hq; (try simp only [bI_e0, bI_n0, decide_eq_false_iff_not, decide_eq_true_eq, Classical.not_not] at *); (simp only [i_lt, i_le, i_eq, Int32.reduceToInt] at *); omega)))
def iBit (x : Int32) : Int32 := 1 <<< (x &&& 31)
set_option maxRecDepth 100000 in
theorem m_X8_fields {T : List aT} {I : aI} {J : aJ} {R : aR} {s : Nat} (hs : T[s]? = some (.inr 8)) : MX8_fields 0 0 [.ref s] T I J R (aPure (some (.int (iBit (I s 3) ||| (if I s 2 = 5 ∨ I s 2 = 6 then iBit (I s 4) else 0)))) T I J R) := by
  refine a_met (by decide +kernel) a_le (fun X hC hq => ?_)
  show AW X 0 0 0 [some (.ref s)] [] T I J R
  refine aw_iconst (v := 1) hC dX8_fields_0 (by decide) ?_
  refine aw_aload_n hC dX8_fields_1 rfl ?_
  refine aw_getI hC dX8_fields_2 aF_X8_21 rfl (by assumption) ?_
  refine aw_ishl hC dX8_fields_5 ?_
  refine aw_aload_n hC dX8_fields_6 rfl ?_
  refine kX8_30 hC rfl (m_X8_isJoining (by assumption)) dX8_fields_7 (by assumption) rfl a_le a_le a_le a_le a_le rfl aPure_x (aPure_k ?_)
  show AW X 0 0 10 [some (.ref s)] [.int (bI (decide (I s 2 = 5 ∨ I s 2 = 6))), .int (1 <<< ((I s 3) &&& 31))] T I J R
  refine aw_if_eq (tgt := 22) hC dX8_fields_10 (by decide) (fun h1 => ?_) (fun h1 => ?_)
  · show AW X 0 0 22 [some (.ref s)] [.int (1 <<< ((I s 3) &&& 31))] T I J R
    refine aw_iconst (v := 0) hC dX8_fields_22 (by decide) ?_
    refine aw_ior hC dX8_fields_23 ?_
    exact aw_ireturn hC hq rfl dX8_fields_24 a_le a_le (aPure_i (by simp only [bI_d0, Classical.not_not] at h1; simp [iBit, h1]))
  · show AW X 0 0 13 [some (.ref s)] [.int (1 <<< ((I s 3) &&& 31))] T I J R
    refine aw_iconst (v := 1) hC dX8_fields_13 (by decide) ?_
    refine aw_aload_n hC dX8_fields_14 rfl ?_
    refine aw_getI hC dX8_fields_15 aF_X8_24 rfl (by assumption) ?_
    refine aw_ishl hC dX8_fields_18 ?_
    refine aw_goto (tgt := 23) hC dX8_fields_19 (by decide) ?_
    refine aw_ior hC dX8_fields_23 ?_
    exact aw_ireturn hC hq rfl dX8_fields_24 a_le a_le (aPure_i (by simp only [bI_d0, Classical.not_not] at h1; simp [iBit, h1]))
abbrev mRange (kind a b : Int32) : Prop :=
  ((kind = 0 ∨ kind = 3 ∨ kind = 4 ∨ kind = 7) ∧ 0 ≤ a ∧ a ≤ 63 ∧ b = 0) ∨ (kind = 1 ∧ 0 ≤ a ∧ a ≤ 63 ∧ a ≤ b ∧ b ≤ 63) ∨ (kind = 2 ∧ 0 ≤ a ∧ a ≤ 63 ∧ 0 ≤ b ∧ b ≤ 63) ∨ (kind = 5 ∧ -63 ≤ b ∧ b ≤ 63) ∨
  (kind = 6 ∧ b = 0) ∨ (kind = 12 ∧ 1 ≤ a ∧ a ≤ 3 ∧ b = 0) ∨ (8 ≤ kind ∧ kind ≤ 11 ∧ a = 0 ∧ b = 0)
