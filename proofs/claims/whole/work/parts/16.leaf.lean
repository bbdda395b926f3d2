set_option maxRecDepth 100000 in
theorem m_X12_isIn {T : List aT} {I : aI} {J : aJ} {R : aR} (a b c : Int32) : MX12_isIn 0 0 [.int a, .int b, .int c] T I J R (aPure (some (.int (bI (decide (b ≤ a ∧ a ≤ c))))) T I J R) := by
  refine a_met (by decide +kernel) (by decide) (fun X hC hq => ?_)
  show AW X 0 0 0 [some (.int a), some (.int b), some (.int c)] [] T I J R
  refine aw_iload_n hC dX12_isIn_0 rfl ?_
  refine aw_iload_n hC dX12_isIn_1 rfl ?_
  refine aw_icmp_lt (tgt := 14) hC dX12_isIn_2 (by decide) (fun h1 => ?_) (fun h1 => ?_)
  · show AW X 0 0 14 [some (.int a), some (.int b), some (.int c)] [] T I J R
    refine aw_iconst (v := 0) hC dX12_isIn_14 (by decide) ?_
    exact aw_zreturn hC hq rfl (Or.inl rfl) dX12_isIn_15 a_le a_le (aPure_i (by simp_all [bI, Int32.not_lt, Int32.not_le]))
  · show AW X 0 0 5 [some (.int a), some (.int b), some (.int c)] [] T I J R
    refine aw_iload_n hC dX12_isIn_5 rfl ?_
    refine aw_iload_n hC dX12_isIn_6 rfl ?_
    refine aw_icmp_gt (tgt := 14) hC dX12_isIn_7 (by decide) (fun h2 => ?_) (fun h2 => ?_)
    · show AW X 0 0 14 [some (.int a), some (.int b), some (.int c)] [] T I J R
      refine aw_iconst (v := 0) hC dX12_isIn_14 (by decide) ?_
      exact aw_zreturn hC hq rfl (Or.inl rfl) dX12_isIn_15 a_le a_le (aPure_i (by simp_all [bI, Int32.not_lt, Int32.not_le]))
    · show AW X 0 0 10 [some (.int a), some (.int b), some (.int c)] [] T I J R
      refine aw_iconst (v := 1) hC dX12_isIn_10 (by decide) ?_
      refine aw_goto (tgt := 15) hC dX12_isIn_11 (by decide) ?_
      exact aw_zreturn hC hq rfl (Or.inr rfl) dX12_isIn_15 a_le a_le (aPure_i (by simp_all [bI, Int32.not_lt, Int32.not_le]))
set_option maxRecDepth 100000 in
theorem m_X11_isBelow {T : List aT} {I : aI} {J : aJ} {R : aR} (a b : Int32) : MX11_isBelow 0 0 [.int a, .int b] T I J R (aPure (some (.int (bI (decide (0 ≤ a ∧ a < b))))) T I J R) := by
  refine a_met (by decide +kernel) (by decide) (fun X hC hq => ?_)
  show AW X 0 0 0 [some (.int a), some (.int b)] [] T I J R
  refine aw_iload_n hC dX11_isBelow_0 rfl ?_
  refine aw_if_lt (tgt := 13) hC dX11_isBelow_1 (by decide) (fun h1 => ?_) (fun h1 => ?_)
  · show AW X 0 0 13 [some (.int a), some (.int b)] [] T I J R
    refine aw_iconst (v := 0) hC dX11_isBelow_13 (by decide) ?_
    exact aw_zreturn hC hq rfl (Or.inl rfl) dX11_isBelow_14 a_le a_le (aPure_i (by simp_all [bI, Int32.not_lt, Int32.not_le]))
  · show AW X 0 0 4 [some (.int a), some (.int b)] [] T I J R
    refine aw_iload_n hC dX11_isBelow_4 rfl ?_
    refine aw_iload_n hC dX11_isBelow_5 rfl ?_
    refine aw_icmp_ge (tgt := 13) hC dX11_isBelow_6 (by decide) (fun h2 => ?_) (fun h2 => ?_)
    · show AW X 0 0 13 [some (.int a), some (.int b)] [] T I J R
      refine aw_iconst (v := 0) hC dX11_isBelow_13 (by decide) ?_
      exact aw_zreturn hC hq rfl (Or.inl rfl) dX11_isBelow_14 a_le a_le (aPure_i (by simp_all [bI, Int32.not_lt, Int32.not_le]))
    · show AW X 0 0 9 [some (.int a), some (.int b)] [] T I J R
      refine aw_iconst (v := 1) hC dX11_isBelow_9 (by decide) ?_
      refine aw_goto (tgt := 14) hC dX11_isBelow_10 (by decide) ?_
      exact aw_zreturn hC hq rfl (Or.inr rfl) dX11_isBelow_14 a_le a_le (aPure_i (by simp_all [bI, Int32.not_lt, Int32.not_le]))
set_option maxRecDepth 100000 in
theorem m_X11_isWithin {T : List aT} {I : aI} {J : aJ} {R : aR} (a b c : Int32) : MX11_isWithin 0 0 [.int a, .int b, .int c] T I J R (aPure (some (.int (bI (decide (b ≤ a ∧ a ≤ c))))) T I J R) := by
  refine a_met (by decide +kernel) (by decide) (fun X hC hq => ?_)
  show AW X 0 0 0 [some (.int a), some (.int b), some (.int c)] [] T I J R
  refine aw_iload_n hC dX11_isWithin_0 rfl ?_
  refine aw_iload_n hC dX11_isWithin_1 rfl ?_
  refine aw_icmp_lt (tgt := 14) hC dX11_isWithin_2 (by decide) (fun h1 => ?_) (fun h1 => ?_)
  · show AW X 0 0 14 [some (.int a), some (.int b), some (.int c)] [] T I J R
    refine aw_iconst (v := 0) hC dX11_isWithin_14 (by decide) ?_
    exact aw_zreturn hC hq rfl (Or.inl rfl) dX11_isWithin_15 a_le a_le (aPure_i (by simp_all [bI, Int32.not_lt, Int32.not_le]))
  · show AW X 0 0 5 [some (.int a), some (.int b), some (.int c)] [] T I J R
    refine aw_iload_n hC dX11_isWithin_5 rfl ?_
    refine aw_iload_n hC dX11_isWithin_6 rfl ?_
    refine aw_icmp_gt (tgt := 14) hC dX11_isWithin_7 (by decide) (fun h2 => ?_) (fun h2 => ?_)
    · show AW X 0 0 14 [some (.int a), some (.int b), some (.int c)] [] T I J R
      refine aw_iconst (v := 0) hC dX11_isWithin_14 (by decide) ?_
      exact aw_zreturn hC hq rfl (Or.inl rfl) dX11_isWithin_15 a_le a_le (aPure_i (by simp_all [bI, Int32.not_lt, Int32.not_le]))
    · show AW X 0 0 10 [some (.int a), some (.int b), some (.int c)] [] T I J R
      refine aw_iconst (v := 1) hC dX11_isWithin_10 (by decide) ?_
      refine aw_goto (tgt := 15) hC dX11_isWithin_11 (by decide) ?_
      exact aw_zreturn hC hq rfl (Or.inr rfl) dX11_isWithin_15 a_le a_le (aPure_i (by simp_all [bI, Int32.not_lt, Int32.not_le]))
