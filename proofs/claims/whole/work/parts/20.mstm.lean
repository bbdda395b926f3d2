abbrev mHolds (I : aI) (J : aJ) (s : Nat) : Prop := I 85 s < 0 ∨ J 88 (I 46 (I 85 s).toNatClampNeg).toNatClampNeg &&& (((1 : Int64) <<< ((I 47 (I 85 s).toNatClampNeg).toInt64 &&& 63)) ^^^ (-1)) = 0
set_option maxRecDepth 100000 in
theorem m_X12_holds {T : List aT} {I : aI} {J : aJ} {R : aR} (hT : aPT T) (hR : aPR R) {s : Nat} (hs : s < 30) (hg : 0 ≤ I 85 s → vp_in (I 85 s) 30 ∧ vp_in (I 46 (I 85 s).toNatClampNeg) 10) : MX12_holds 0 0 [.ref 44, .int (nI s)] T I J R (aPure (some (.int (bI (decide (mHolds I J s))))) T I J R) := by
  refine a_met (by decide +kernel) a_le (fun X hC hq => ?_)
  show AW X 0 0 0 [some (.ref 44), some (.int (nI s))] [] T I J R
  refine aw_aload_n hC dX12_holds_0 rfl ?_
  refine aw_getR hC dX12_holds_1 aF_X12_138 rfl (tg_44 hT) (pr_44_50 hR) ?_
  refine aw_iload_n hC dX12_holds_4 rfl ?_
  refine aw_iaload_k (j := s) hC dX12_holds_5 (tg_85 hT) (nI_clamp (by omega)) (vp_in_nI (by omega) (by decide)) ?_
  refine aw_if_lt (tgt := 48) hC dX12_holds_6 (by decide) (fun h1 => ?_) (fun h1 => ?_)
  · show AW X 0 0 48 [some (.ref 44), some (.int (nI s))] [] T I J R
    refine aw_iconst (v := 1) hC dX12_holds_48 (by decide) ?_
    refine aw_goto (tgt := 53) hC dX12_holds_49 (by decide) ?_
    exact aw_zreturn hC hq rfl (Or.inr rfl) dX12_holds_53 a_le a_le (aPure_i (bI_yes (by clear hC hq; simp_all [lgc0, mHolds])))
  · show AW X 0 0 9 [some (.ref 44), some (.int (nI s))] [] T I J R
    refine aw_aload_n hC dX12_holds_9 rfl ?_
    refine aw_getR hC dX12_holds_10 aF_X12_147 rfl (tg_44 hT) (pr_44_54 hR) ?_
    refine aw_aload_n hC dX12_holds_13 rfl ?_
    refine aw_getR hC dX12_holds_14 aF_X12_13 rfl (tg_44 hT) (pr_44_2 hR) ?_
    refine aw_aload_n hC dX12_holds_17 rfl ?_
    refine aw_getR hC dX12_holds_18 aF_X12_138 rfl (tg_44 hT) (pr_44_50 hR) ?_
    refine aw_iload_n hC dX12_holds_21 rfl ?_
    refine aw_iaload_k (j := s) hC dX12_holds_22 (tg_85 hT) (nI_clamp (by omega)) (vp_in_nI (by omega) (by decide)) ?_
    refine aw_iaload_k (j := (I 85 s).toNatClampNeg) hC dX12_holds_23 (tg_46 hT) rfl (hg (Int32.not_lt.mp h1)).1 ?_
    refine aw_laload_k (j := (I 46 ((I 85 s).toNatClampNeg)).toNatClampNeg) hC dX12_holds_24 (tg_88 hT) rfl (hg (Int32.not_lt.mp h1)).2 ?_
    refine aw_lconst (v := 1) hC dX12_holds_25 (by decide) ?_
    refine aw_aload_n hC dX12_holds_26 rfl ?_
    refine aw_getR hC dX12_holds_27 aF_X12_16 rfl (tg_44 hT) (pr_44_3 hR) ?_
    refine aw_aload_n hC dX12_holds_30 rfl ?_
    refine aw_getR hC dX12_holds_31 aF_X12_138 rfl (tg_44 hT) (pr_44_50 hR) ?_
    refine aw_iload_n hC dX12_holds_34 rfl ?_
    refine aw_iaload_k (j := s) hC dX12_holds_35 (tg_85 hT) (nI_clamp (by omega)) (vp_in_nI (by omega) (by decide)) ?_
    refine aw_iaload_k (j := (I 85 s).toNatClampNeg) hC dX12_holds_36 (tg_47 hT) rfl (hg (Int32.not_lt.mp h1)).1 ?_
    refine aw_lshl hC dX12_holds_37 ?_
    refine aw_ldc2 (v := (-1)) hC dX12_holds_38 gK_X12_222 ?_
    refine aw_lxor hC dX12_holds_41 ?_
    refine aw_land hC dX12_holds_42 ?_
    refine aw_lconst (v := 0) hC dX12_holds_43 (by decide) ?_
    refine aw_lcmp hC dX12_holds_44 ?_
    refine aw_if_ne (tgt := 52) hC dX12_holds_45 (by decide) (fun h2 => ?_) (fun h2 => ?_)
    · show AW X 0 0 52 [some (.ref 44), some (.int (nI s))] [] T I J R
      refine aw_iconst (v := 0) hC dX12_holds_52 (by decide) ?_
      exact aw_zreturn hC hq rfl (Or.inl rfl) dX12_holds_53 a_le a_le (aPure_i (bI_no (by clear hC hq; simp_all [lgc0, mHolds])))
    · show AW X 0 0 48 [some (.ref 44), some (.int (nI s))] [] T I J R
      refine aw_iconst (v := 1) hC dX12_holds_48 (by decide) ?_
      refine aw_goto (tgt := 53) hC dX12_holds_49 (by decide) ?_
      exact aw_zreturn hC hq rfl (Or.inr rfl) dX12_holds_53 a_le a_le (aPure_i (bI_yes (by clear hC hq; simp_all [lgc0, mHolds])))
abbrev mOpen (I : aI) (J : aJ) (s : Nat) : Prop := I 85 s < 0 ∨ J 89 (I 46 (I 85 s).toNatClampNeg).toNatClampNeg &&& (((1 : Int64) <<< ((I 47 (I 85 s).toNatClampNeg).toInt64 &&& 63)) ^^^ (-1)) = 0
set_option maxRecDepth 100000 in
theorem m_X12_isOpen {T : List aT} {I : aI} {J : aJ} {R : aR} (hT : aPT T) (hR : aPR R) {s : Nat} (hs : s < 30) (hg : 0 ≤ I 85 s → vp_in (I 85 s) 30 ∧ vp_in (I 46 (I 85 s).toNatClampNeg) 10) : MX12_isOpen 0 0 [.ref 44, .int (nI s)] T I J R (aPure (some (.int (bI (decide (mOpen I J s))))) T I J R) := by
  refine a_met (by decide +kernel) a_le (fun X hC hq => ?_)
  show AW X 0 0 0 [some (.ref 44), some (.int (nI s))] [] T I J R
  refine aw_aload_n hC dX12_isOpen_0 rfl ?_
  refine aw_getR hC dX12_isOpen_1 aF_X12_138 rfl (tg_44 hT) (pr_44_50 hR) ?_
  refine aw_iload_n hC dX12_isOpen_4 rfl ?_
  refine aw_iaload_k (j := s) hC dX12_isOpen_5 (tg_85 hT) (nI_clamp (by omega)) (vp_in_nI (by omega) (by decide)) ?_
  refine aw_if_lt (tgt := 48) hC dX12_isOpen_6 (by decide) (fun h1 => ?_) (fun h1 => ?_)
  · show AW X 0 0 48 [some (.ref 44), some (.int (nI s))] [] T I J R
    refine aw_iconst (v := 1) hC dX12_isOpen_48 (by decide) ?_
    refine aw_goto (tgt := 53) hC dX12_isOpen_49 (by decide) ?_
    exact aw_zreturn hC hq rfl (Or.inr rfl) dX12_isOpen_53 a_le a_le (aPure_i (bI_yes (by clear hC hq; simp_all [lgc0, mOpen])))
  · show AW X 0 0 9 [some (.ref 44), some (.int (nI s))] [] T I J R
    refine aw_aload_n hC dX12_isOpen_9 rfl ?_
    refine aw_getR hC dX12_isOpen_10 aF_X12_151 rfl (tg_44 hT) (pr_44_55 hR) ?_
    refine aw_aload_n hC dX12_isOpen_13 rfl ?_
    refine aw_getR hC dX12_isOpen_14 aF_X12_13 rfl (tg_44 hT) (pr_44_2 hR) ?_
    refine aw_aload_n hC dX12_isOpen_17 rfl ?_
    refine aw_getR hC dX12_isOpen_18 aF_X12_138 rfl (tg_44 hT) (pr_44_50 hR) ?_
    refine aw_iload_n hC dX12_isOpen_21 rfl ?_
    refine aw_iaload_k (j := s) hC dX12_isOpen_22 (tg_85 hT) (nI_clamp (by omega)) (vp_in_nI (by omega) (by decide)) ?_
    refine aw_iaload_k (j := (I 85 s).toNatClampNeg) hC dX12_isOpen_23 (tg_46 hT) rfl (hg (Int32.not_lt.mp h1)).1 ?_
    refine aw_laload_k (j := (I 46 ((I 85 s).toNatClampNeg)).toNatClampNeg) hC dX12_isOpen_24 (tg_89 hT) rfl (hg (Int32.not_lt.mp h1)).2 ?_
    refine aw_lconst (v := 1) hC dX12_isOpen_25 (by decide) ?_
    refine aw_aload_n hC dX12_isOpen_26 rfl ?_
    refine aw_getR hC dX12_isOpen_27 aF_X12_16 rfl (tg_44 hT) (pr_44_3 hR) ?_
    refine aw_aload_n hC dX12_isOpen_30 rfl ?_
    refine aw_getR hC dX12_isOpen_31 aF_X12_138 rfl (tg_44 hT) (pr_44_50 hR) ?_
    refine aw_iload_n hC dX12_isOpen_34 rfl ?_
    refine aw_iaload_k (j := s) hC dX12_isOpen_35 (tg_85 hT) (nI_clamp (by omega)) (vp_in_nI (by omega) (by decide)) ?_
    refine aw_iaload_k (j := (I 85 s).toNatClampNeg) hC dX12_isOpen_36 (tg_47 hT) rfl (hg (Int32.not_lt.mp h1)).1 ?_
    refine aw_lshl hC dX12_isOpen_37 ?_
    refine aw_ldc2 (v := (-1)) hC dX12_isOpen_38 gK_X12_222 ?_
    refine aw_lxor hC dX12_isOpen_41 ?_
    refine aw_land hC dX12_isOpen_42 ?_
    refine aw_lconst (v := 0) hC dX12_isOpen_43 (by decide) ?_
    refine aw_lcmp hC dX12_isOpen_44 ?_
    refine aw_if_ne (tgt := 52) hC dX12_isOpen_45 (by decide) (fun h2 => ?_) (fun h2 => ?_)
    · show AW X 0 0 52 [some (.ref 44), some (.int (nI s))] [] T I J R
      refine aw_iconst (v := 0) hC dX12_isOpen_52 (by decide) ?_
      exact aw_zreturn hC hq rfl (Or.inl rfl) dX12_isOpen_53 a_le a_le (aPure_i (bI_no (by clear hC hq; simp_all [lgc0, mOpen])))
    · show AW X 0 0 48 [some (.ref 44), some (.int (nI s))] [] T I J R
      refine aw_iconst (v := 1) hC dX12_isOpen_48 (by decide) ?_
      refine aw_goto (tgt := 53) hC dX12_isOpen_49 (by decide) ?_
      exact aw_zreturn hC hq rfl (Or.inr rfl) dX12_isOpen_53 a_le a_le (aPure_i (bI_yes (by clear hC hq; simp_all [lgc0, mOpen])))
abbrev mCounts (I : aI) (J : aJ) (s : Nat) : Prop := I 84 s ≠ 0 ∧ I 45 s < 7 ∧ I 86 s = 0 ∧ mHolds I J s
set_option maxRecDepth 100000 in
theorem m_X12_counts {T : List aT} {I : aI} {J : aJ} {R : aR} (hT : aPT T) (hR : aPR R) {s : Nat} (hs : s < 30) (hg : 0 ≤ I 85 s → vp_in (I 85 s) 30 ∧ vp_in (I 46 (I 85 s).toNatClampNeg) 10) (ha : I 44 53 = 0) : MX12_counts 0 0 [.ref 44, .int (nI s)] T I J R (aPure (some (.int (bI (decide (mCounts I J s))))) T I J R) := by
  refine a_met (by decide +kernel) a_le (fun X hC hq => ?_)
  show AW X 0 0 0 [some (.ref 44), some (.int (nI s))] [] T I J R
  refine aw_aload_n hC dX12_counts_0 rfl ?_
  refine aw_getI hC dX12_counts_1 aF_X12_224 rfl (tg_44 hT) ?_
  rw [ha]
  refine aw_if_eq (tgt := 16) hC dX12_counts_4 (by decide) (fun _ => ?_) (fun h1 => absurd h1 (by decide))
  show AW X 0 0 16 [some (.ref 44), some (.int (nI s))] [] T I J R
  refine aw_aload_n hC dX12_counts_16 rfl ?_
  refine aw_getR hC dX12_counts_17 aF_X12_135 rfl (tg_44 hT) (pr_44_49 hR) ?_
  refine aw_iload_n hC dX12_counts_20 rfl ?_
  refine aw_baload_k (j := s) hC dX12_counts_21 (tg_84 hT) (nI_clamp (by omega)) (vp_in_nI (by omega) (by decide)) ?_
  refine aw_if_eq (tgt := 57) hC dX12_counts_22 (by decide) (fun h2 => ?_) (fun h2 => ?_)
  · show AW X 0 0 57 [some (.ref 44), some (.int (nI s))] [] T I J R
    refine aw_iconst (v := 0) hC dX12_counts_57 (by decide) ?_
    exact aw_zreturn hC hq rfl (Or.inl rfl) dX12_counts_58 a_le a_le (aPure_i (bI_no (fun q => by obtain ⟨q1, q2, q3, q4⟩ := q; first | exact q1 (by assumption) | exact absurd q2 (Int32.not_lt.mpr (by assumption)) | exact absurd q3 (by assumption) | exact absurd q4 (bI_d0.mp (by assumption)))))
  · show AW X 0 0 25 [some (.ref 44), some (.int (nI s))] [] T I J R
    refine aw_aload_n hC dX12_counts_25 rfl ?_
    refine aw_getR hC dX12_counts_26 aF_X12_7 rfl (tg_44 hT) (pr_44_1 hR) ?_
    refine aw_iload_n hC dX12_counts_29 rfl ?_
    refine aw_iaload_k (j := s) hC dX12_counts_30 (tg_45 hT) (nI_clamp (by omega)) (vp_in_nI (by omega) (by decide)) ?_
    refine aw_bipush (v := 7) hC dX12_counts_31 (by decide) ?_
    refine aw_icmp_ge (tgt := 57) hC dX12_counts_33 (by decide) (fun h3 => ?_) (fun h3 => ?_)
    · show AW X 0 0 57 [some (.ref 44), some (.int (nI s))] [] T I J R
      refine aw_iconst (v := 0) hC dX12_counts_57 (by decide) ?_
      exact aw_zreturn hC hq rfl (Or.inl rfl) dX12_counts_58 a_le a_le (aPure_i (bI_no (fun q => by obtain ⟨q1, q2, q3, q4⟩ := q; first | exact q1 (by assumption) | exact absurd q2 (Int32.not_lt.mpr (by assumption)) | exact absurd q3 (by assumption) | exact absurd q4 (bI_d0.mp (by assumption)))))
    · show AW X 0 0 36 [some (.ref 44), some (.int (nI s))] [] T I J R
      refine aw_aload_n hC dX12_counts_36 rfl ?_
      refine aw_getR hC dX12_counts_37 aF_X12_141 rfl (tg_44 hT) (pr_44_51 hR) ?_
      refine aw_iload_n hC dX12_counts_40 rfl ?_
      refine aw_iaload_k (j := s) hC dX12_counts_41 (tg_86 hT) (nI_clamp (by omega)) (vp_in_nI (by omega) (by decide)) ?_
      refine aw_if_ne (tgt := 57) hC dX12_counts_42 (by decide) (fun h4 => ?_) (fun h4 => ?_)
      · show AW X 0 0 57 [some (.ref 44), some (.int (nI s))] [] T I J R
        refine aw_iconst (v := 0) hC dX12_counts_57 (by decide) ?_
        exact aw_zreturn hC hq rfl (Or.inl rfl) dX12_counts_58 a_le a_le (aPure_i (bI_no (fun q => by obtain ⟨q1, q2, q3, q4⟩ := q; first | exact q1 (by assumption) | exact absurd q2 (Int32.not_lt.mpr (by assumption)) | exact absurd q3 (by assumption) | exact absurd q4 (bI_d0.mp (by assumption)))))
      · show AW X 0 0 45 [some (.ref 44), some (.int (nI s))] [] T I J R
        refine aw_aload_n hC dX12_counts_45 rfl ?_
        refine aw_iload_n hC dX12_counts_46 rfl ?_
        refine kX12_228 hC rfl (m_X12_holds hT hR (s := s) (by omega) (by assumption)) dX12_counts_47 (tg_44 hT) rfl a_le a_le a_le a_le a_le rfl aPure_x (aPure_k ?_)
        show AW X 0 0 50 [some (.ref 44), some (.int (nI s))] [.int (bI (decide (mHolds I J s)))] T I J R
        refine aw_if_eq (tgt := 57) hC dX12_counts_50 (by decide) (fun h5 => ?_) (fun h5 => ?_)
        · show AW X 0 0 57 [some (.ref 44), some (.int (nI s))] [] T I J R
          refine aw_iconst (v := 0) hC dX12_counts_57 (by decide) ?_
          exact aw_zreturn hC hq rfl (Or.inl rfl) dX12_counts_58 a_le a_le (aPure_i (bI_no (fun q => by obtain ⟨q1, q2, q3, q4⟩ := q; first | exact q1 (by assumption) | exact absurd q2 (Int32.not_lt.mpr (by assumption)) | exact absurd q3 (by assumption) | exact absurd q4 (bI_d0.mp (by assumption)))))
        · show AW X 0 0 53 [some (.ref 44), some (.int (nI s))] [] T I J R
          refine aw_iconst (v := 1) hC dX12_counts_53 (by decide) ?_
          refine aw_goto (tgt := 58) hC dX12_counts_54 (by decide) ?_
          exact aw_zreturn hC hq rfl (Or.inr rfl) dX12_counts_58 a_le a_le (aPure_i (bI_yes ⟨by assumption, Int32.not_le.mp (by assumption), by assumption, bI_dn.mp (by assumption)⟩))
set_option maxRecDepth 100000 in
theorem m_X12_countsA {T : List aT} {I : aI} {J : aJ} {R : aR} (hT : aPT T) (hR : aPR R) {s : Nat} (hs : s < 30) (h01 : I 87 s = 0 ∨ I 87 s = 1) (ha : I 44 53 = 1) : MX12_counts 0 0 [.ref 44, .int (nI s)] T I J R (aPure (some (.int (I 87 s))) T I J R) := by
  refine a_met (by decide +kernel) a_le (fun X hC hq => ?_)
  show AW X 0 0 0 [some (.ref 44), some (.int (nI s))] [] T I J R
  refine aw_aload_n hC dX12_counts_0 rfl ?_
  refine aw_getI hC dX12_counts_1 aF_X12_224 rfl (tg_44 hT) ?_
  rw [ha]
  refine aw_if_eq (tgt := 16) hC dX12_counts_4 (by decide) (fun h1 => absurd h1 (by decide)) (fun _ => ?_)
  show AW X 0 0 7 [some (.ref 44), some (.int (nI s))] [] T I J R
  refine aw_aload_n hC dX12_counts_7 rfl ?_
  refine aw_getR hC dX12_counts_8 aF_X12_144 rfl (tg_44 hT) (pr_44_52 hR) ?_
  refine aw_iload_n hC dX12_counts_11 rfl ?_
  refine aw_baload_k (j := s) hC dX12_counts_12 (tg_87 hT) (nI_clamp (by omega)) (vp_in_nI (by omega) (by decide)) ?_
  refine aw_goto (tgt := 58) hC dX12_counts_13 (by decide) ?_
  exact aw_zreturn hC hq rfl (by first | assumption | exact bI_01 _) dX12_counts_58 a_le a_le (aPure_i (by rfl))
def mLast (p : Nat → Bool) : Nat → Int32
  | 0 => -1
  | k + 1 => if p k then nI k else mLast p k
theorem mLast_lt {p : Nat → Bool} {N : Nat} (hN : N < 2147483648) : ∀ {n : Nat}, n ≤ N → mLast p n = -1 ∨ ∃ k, k < n ∧ mLast p n = nI k ∧ p k = true
  | 0, _ => Or.inl rfl
  | n + 1, h => by
    unfold mLast
    by_cases hp : p n = true
    · rw [if_pos hp]; exact Or.inr ⟨n, by omega, rfl, hp⟩
    · rw [if_neg hp]
      rcases mLast_lt hN (n := n) (by omega) with q | ⟨k, h1, h2, h3⟩
      · exact Or.inl q
      · exact Or.inr ⟨k, by omega, h2, h3⟩
theorem vp_in_of_last {p : Nat → Bool} {n : Nat} {x : Int32} (hn : n ≤ 30) (h : x = mLast p n) (h0 : ¬ x < 0) : vp_in x 30 := by
  rcases mLast_lt (p := p) (N := 30) (by decide) hn with q | ⟨k, h1, h2, -⟩
  · rw [h, q] at h0; exact absurd (by decide) h0
  · rw [h, h2]; exact vp_in_nI (by omega) (by decide)
abbrev mTog (I : aI) (s t : Nat) : Prop := I 49 s = I 49 t ∧ I 50 s = I 50 t ∧ I 51 s = I 51 t
def mGuard (I : aI) (s : Nat) : Int32 := let l := mLast (fun j => decide (I 84 j ≠ 0) && decide (mTog I s j)) s; if 0 ≤ l ∧ I 45 l.toNatClampNeg = 7 then l else -1
set_option maxRecDepth 100000 in
theorem m_X12_guards {T : List aT} {I : aI} {J : aJ} {R : aR} (hT : aPT T) (hR : aPR R) {s : Nat} (hs : s < 30) : MX12_guards 0 0 [.ref 44, .int (nI s)] T I J R (aPure (some (.int (mGuard I s))) T I J R) := by
  refine a_met (by decide +kernel) a_le (fun X hC hq => ?_)
  show AW X 0 0 0 [some (.ref 44), some (.int (nI s)), none, none] [] T I J R
  refine aw_iconst (v := (-1)) hC dX12_guards_0 (by decide) ?_
  refine aw_istore_n (L2 := [some (.ref 44), some (.int (nI s)), some (.int (-1)), none]) hC dX12_guards_1 rfl (by decide) rfl ?_
  refine aw_iconst (v := 0) hC dX12_guards_2 (by decide) ?_
  refine aw_istore_n (L2 := [some (.ref 44), some (.int (nI s)), some (.int (-1)), some (.int 0)]) hC dX12_guards_3 rfl (by decide) rfl ?_
  have loop : ∀ k, k ≤ s → ∀ last : Int32, last = mLast (fun j => decide (I 84 j ≠ 0) && decide (mTog I s j)) k → AW X 0 0 4 [some (.ref 44), some (.int (nI s)), some (.int last), some (.int (nI k))] [] T I J R := by
    refine a_down s (fun k hkloop ihloop => ?_)
    intro last hlast
    refine aw_iload_n hC dX12_guards_4 rfl ?_
    refine aw_iload_n hC dX12_guards_5 rfl ?_
    refine aw_icmp_ge (tgt := 39) hC dX12_guards_6 (by decide) (fun h1 => ?_) (fun h1 => ?_)
    · show AW X 0 0 39 [some (.ref 44), some (.int (nI s)), some (.int last), some (.int (nI k))] [] T I J R
      have h1n : s ≤ k := (nI_leI (a := s) (b := k) (by omega) (by omega)).mp h1
      refine aw_iload_n hC dX12_guards_39 rfl ?_
      refine aw_if_lt (tgt := 58) hC dX12_guards_40 (by decide) (fun h2 => ?_) (fun h2 => ?_)
      · show AW X 0 0 58 [some (.ref 44), some (.int (nI s)), some (.int last), some (.int (nI k))] [] T I J R
        refine aw_iconst (v := (-1)) hC dX12_guards_58 (by decide) ?_
        exact aw_ireturn hC hq rfl dX12_guards_59 a_le a_le (aPure_i (by clear hC hq; have e9 : k = s := (by omega); subst e9; unfold mGuard; rw [← hlast]; dsimp only; rw [if_neg]; intro q; first | exact absurd q.1 (Int32.not_le.mpr (by assumption)) | exact absurd q.2 (by assumption)))
      · show AW X 0 0 43 [some (.ref 44), some (.int (nI s)), some (.int last), some (.int (nI k))] [] T I J R
        refine aw_aload_n hC dX12_guards_43 rfl ?_
        refine aw_getR hC dX12_guards_44 aF_X12_7 rfl (tg_44 hT) (pr_44_1 hR) ?_
        refine aw_iload_n hC dX12_guards_47 rfl ?_
        refine aw_iaload_k (j := last.toNatClampNeg) hC dX12_guards_48 (tg_45 hT) rfl (vp_in_of_last (n := k) (by omega) hlast (by assumption)) ?_
        refine aw_bipush (v := 7) hC dX12_guards_49 (by decide) ?_
        refine aw_icmp_ne (tgt := 58) hC dX12_guards_51 (by decide) (fun h3 => ?_) (fun h3 => ?_)
        · show AW X 0 0 58 [some (.ref 44), some (.int (nI s)), some (.int last), some (.int (nI k))] [] T I J R
          refine aw_iconst (v := (-1)) hC dX12_guards_58 (by decide) ?_
          exact aw_ireturn hC hq rfl dX12_guards_59 a_le a_le (aPure_i (by clear hC hq; have e9 : k = s := (by omega); subst e9; unfold mGuard; rw [← hlast]; dsimp only; rw [if_neg]; intro q; first | exact absurd q.1 (Int32.not_le.mpr (by assumption)) | exact absurd q.2 (by assumption)))
        · show AW X 0 0 54 [some (.ref 44), some (.int (nI s)), some (.int last), some (.int (nI k))] [] T I J R
          refine aw_iload_n hC dX12_guards_54 rfl ?_
          refine aw_goto (tgt := 59) hC dX12_guards_55 (by decide) ?_
          exact aw_ireturn hC hq rfl dX12_guards_59 a_le a_le (aPure_i (by clear hC hq; have e9 : k = s := (by omega); subst e9; unfold mGuard; rw [← hlast]; dsimp only; rw [if_pos ⟨Int32.not_lt.mp (by assumption), by assumption⟩]))
    · show AW X 0 0 9 [some (.ref 44), some (.int (nI s)), some (.int last), some (.int (nI k))] [] T I J R
      have h1n : ¬ s ≤ k := fun q9 => h1 ((nI_leI (a := s) (b := k) (by omega) (by omega)).mpr q9)
      refine aw_aload_n hC dX12_guards_9 rfl ?_
      refine aw_getR hC dX12_guards_10 aF_X12_135 rfl (tg_44 hT) (pr_44_49 hR) ?_
      refine aw_iload_n hC dX12_guards_13 rfl ?_
      refine aw_baload_k (j := k) hC dX12_guards_14 (tg_84 hT) (nI_clamp (by omega)) (vp_in_nI (by omega) (by decide)) ?_
      refine aw_if_eq (tgt := 31) hC dX12_guards_15 (by decide) (fun h4 => ?_) (fun h4 => ?_)
      · show AW X 0 0 31 [some (.ref 44), some (.int (nI s)), some (.int last), some (.int (nI k))] [] T I J R
        refine aw_iload_n hC dX12_guards_31 rfl ?_
        refine aw_istore_n (L2 := [some (.ref 44), some (.int (nI s)), some (.int last), some (.int (nI k))]) hC dX12_guards_32 rfl (by decide) rfl ?_
        refine aw_iinc (v := nI (k + 1)) (L2 := [some (.ref 44), some (.int (nI s)), some (.int last), some (.int (nI (k + 1)))]) hC dX12_guards_33 rfl (nI_inc _) (by decide) rfl ?_
        refine aw_goto (tgt := 4) hC dX12_guards_36 (by decide) ?_
        exact ihloop (by omega) last (by rw [mLast]; clear hC hq; (try simp only [bI_e0, bI_n0, decide_eq_false_iff_not, decide_eq_true_eq, Classical.not_not] at *); simp_all)
      · show AW X 0 0 18 [some (.ref 44), some (.int (nI s)), some (.int last), some (.int (nI k))] [] T I J R
        refine aw_aload_n hC dX12_guards_18 rfl ?_
        refine aw_iload_n hC dX12_guards_19 rfl ?_
        refine aw_iload_n hC dX12_guards_20 rfl ?_
        refine kX12_212 hC rfl (m_X12_isTogether hT hR (s := s) (t := k) (by omega) (by omega)) dX12_guards_21 (tg_44 hT) rfl a_le a_le a_le a_le a_le rfl aPure_x (aPure_k ?_)
        show AW X 0 0 24 [some (.ref 44), some (.int (nI s)), some (.int last), some (.int (nI k))] [.int (bI (decide (I 49 s = I 49 k ∧ I 50 s = I 50 k ∧ I 51 s = I 51 k)))] T I J R
        refine aw_if_eq (tgt := 31) hC dX12_guards_24 (by decide) (fun h5 => ?_) (fun h5 => ?_)
        · show AW X 0 0 31 [some (.ref 44), some (.int (nI s)), some (.int last), some (.int (nI k))] [] T I J R
          refine aw_iload_n hC dX12_guards_31 rfl ?_
          refine aw_istore_n (L2 := [some (.ref 44), some (.int (nI s)), some (.int last), some (.int (nI k))]) hC dX12_guards_32 rfl (by decide) rfl ?_
          refine aw_iinc (v := nI (k + 1)) (L2 := [some (.ref 44), some (.int (nI s)), some (.int last), some (.int (nI (k + 1)))]) hC dX12_guards_33 rfl (nI_inc _) (by decide) rfl ?_
          refine aw_goto (tgt := 4) hC dX12_guards_36 (by decide) ?_
          exact ihloop (by omega) last (by rw [mLast]; clear hC hq; (try simp only [bI_e0, bI_n0, decide_eq_false_iff_not, decide_eq_true_eq, Classical.not_not] at *); simp_all)
        · show AW X 0 0 27 [some (.ref 44), some (.int (nI s)), some (.int last), some (.int (nI k))] [] T I J R
          refine aw_iload_n hC dX12_guards_27 rfl ?_
          refine aw_goto (tgt := 32) hC dX12_guards_28 (by decide) ?_
          refine aw_istore_n (L2 := [some (.ref 44), some (.int (nI s)), some (.int (nI k)), some (.int (nI k))]) hC dX12_guards_32 rfl (by decide) rfl ?_
          refine aw_iinc (v := nI (k + 1)) (L2 := [some (.ref 44), some (.int (nI s)), some (.int (nI k)), some (.int (nI (k + 1)))]) hC dX12_guards_33 rfl (nI_inc _) (by decide) rfl ?_
          refine aw_goto (tgt := 4) hC dX12_guards_36 (by decide) ?_
          exact ihloop (by omega) (nI k) (by rw [mLast]; clear hC hq; (try simp only [bI_e0, bI_n0, decide_eq_false_iff_not, decide_eq_true_eq, Classical.not_not] at *); simp_all)
  exact loop 0 (Nat.zero_le _) (-1) rfl
