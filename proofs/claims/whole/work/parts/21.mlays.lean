theorem n3 (p k : Nat) : (3 : Int32) * nI p + nI k = nI (3 * p + k) := by rw [show (3 : Int32) = nI 3 from rfl, pk_mul, nI_add]
abbrev mWants (I : aI) (s : Nat) : Prop := ((0 ≤ I 49 s ∧ I 52 s = 0) ∨ (I 49 s < 0 ∧ 0 < I 51 s ∧ I 83 (3 * I 50 s + I 51 s - 1).toNatClampNeg ≠ 0)) ∧ I 45 s = 12
set_option maxRecDepth 100000 in
theorem m_X12_wants {T : List aT} {I : aI} {J : aJ} {R : aR} (hT : aPT T) (hR : aPR R) {s : Nat} (hs : s < 30) (hp : I 49 s < 0 → 0 < I 51 s → vp_in (3 * I 50 s + I 51 s - 1) 9) : MX12_wants 0 0 [.ref 44, .int (nI s)] T I J R (aPure (some (.int (bI (decide (mWants I s))))) T I J R) := by
  refine a_met (by decide +kernel) a_le (fun X hC hq => ?_)
  show AW X 0 0 0 [some (.ref 44), some (.int (nI s)), none] [] T I J R
  refine aw_aload_n hC dX12_wants_0 rfl ?_
  refine aw_getR hC dX12_wants_1 aF_X12_22 rfl (tg_44 hT) (pr_44_5 hR) ?_
  refine aw_iload_n hC dX12_wants_4 rfl ?_
  refine aw_iaload_k (j := s) hC dX12_wants_5 (tg_49 hT) (nI_clamp (by omega)) (vp_in_nI (by omega) (by decide)) ?_
  refine aw_if_lt (tgt := 26) hC dX12_wants_6 (by decide) (fun h1 => ?_) (fun h1 => ?_)
  · show AW X 0 0 26 [some (.ref 44), some (.int (nI s)), none] [] T I J R
    refine aw_aload_n hC dX12_wants_26 rfl ?_
    refine aw_getR hC dX12_wants_27 aF_X12_28 rfl (tg_44 hT) (pr_44_7 hR) ?_
    refine aw_iload_n hC dX12_wants_30 rfl ?_
    refine aw_iaload_k (j := s) hC dX12_wants_31 (tg_51 hT) (nI_clamp (by omega)) (vp_in_nI (by omega) (by decide)) ?_
    refine aw_if_le (tgt := 64) hC dX12_wants_32 (by decide) (fun h2 => ?_) (fun h2 => ?_)
    · show AW X 0 0 64 [some (.ref 44), some (.int (nI s)), none] [] T I J R
      refine aw_iconst (v := 0) hC dX12_wants_64 (by decide) ?_
      refine aw_istore_n (L2 := [some (.ref 44), some (.int (nI s)), some (.int 0)]) hC dX12_wants_65 rfl (by decide) rfl ?_
      refine aw_iload_n hC dX12_wants_66 rfl ?_
      refine aw_if_eq (tgt := 85) hC dX12_wants_67 (by decide) (fun _ => ?_) (fun h3 => absurd h3 (by decide))
      show AW X 0 0 85 [some (.ref 44), some (.int (nI s)), some (.int 0)] [] T I J R
      refine aw_iconst (v := 0) hC dX12_wants_85 (by decide) ?_
      exact aw_zreturn hC hq rfl (Or.inl rfl) dX12_wants_86 a_le a_le (aPure_i (bI_no (by clear hC hq; (try simp only [bI_e0, bI_n0, decide_eq_false_iff_not, decide_eq_true_eq, Classical.not_not] at *); grind)))
    · show AW X 0 0 35 [some (.ref 44), some (.int (nI s)), none] [] T I J R
      refine aw_aload_n hC dX12_wants_35 rfl ?_
      refine aw_getR hC dX12_wants_36 aF_X12_132 rfl (tg_44 hT) (pr_44_48 hR) ?_
      refine aw_iconst (v := 3) hC dX12_wants_39 (by decide) ?_
      refine aw_aload_n hC dX12_wants_40 rfl ?_
      refine aw_getR hC dX12_wants_41 aF_X12_25 rfl (tg_44 hT) (pr_44_6 hR) ?_
      refine aw_iload_n hC dX12_wants_44 rfl ?_
      refine aw_iaload_k (j := s) hC dX12_wants_45 (tg_50 hT) (nI_clamp (by omega)) (vp_in_nI (by omega) (by decide)) ?_
      refine aw_imul hC dX12_wants_46 ?_
      refine aw_aload_n hC dX12_wants_47 rfl ?_
      refine aw_getR hC dX12_wants_48 aF_X12_28 rfl (tg_44 hT) (pr_44_7 hR) ?_
      refine aw_iload_n hC dX12_wants_51 rfl ?_
      refine aw_iaload_k (j := s) hC dX12_wants_52 (tg_51 hT) (nI_clamp (by omega)) (vp_in_nI (by omega) (by decide)) ?_
      refine aw_iadd hC dX12_wants_53 ?_
      refine aw_iconst (v := 1) hC dX12_wants_54 (by decide) ?_
      refine aw_isub hC dX12_wants_55 ?_
      refine aw_baload_k (j := (((3 * (I 50 s)) + (I 51 s)) - 1).toNatClampNeg) hC dX12_wants_56 (tg_83 hT) rfl (hp (by assumption) (Int32.not_le.mp (by assumption))) ?_
      refine aw_if_eq (tgt := 64) hC dX12_wants_57 (by decide) (fun h4 => ?_) (fun h4 => ?_)
      · show AW X 0 0 64 [some (.ref 44), some (.int (nI s)), none] [] T I J R
        refine aw_iconst (v := 0) hC dX12_wants_64 (by decide) ?_
        refine aw_istore_n (L2 := [some (.ref 44), some (.int (nI s)), some (.int 0)]) hC dX12_wants_65 rfl (by decide) rfl ?_
        refine aw_iload_n hC dX12_wants_66 rfl ?_
        refine aw_if_eq (tgt := 85) hC dX12_wants_67 (by decide) (fun _ => ?_) (fun h5 => absurd h5 (by decide))
        show AW X 0 0 85 [some (.ref 44), some (.int (nI s)), some (.int 0)] [] T I J R
        refine aw_iconst (v := 0) hC dX12_wants_85 (by decide) ?_
        exact aw_zreturn hC hq rfl (Or.inl rfl) dX12_wants_86 a_le a_le (aPure_i (bI_no (by clear hC hq; (try simp only [bI_e0, bI_n0, decide_eq_false_iff_not, decide_eq_true_eq, Classical.not_not] at *); grind)))
      · show AW X 0 0 60 [some (.ref 44), some (.int (nI s)), none] [] T I J R
        refine aw_iconst (v := 1) hC dX12_wants_60 (by decide) ?_
        refine aw_goto (tgt := 65) hC dX12_wants_61 (by decide) ?_
        refine aw_istore_n (L2 := [some (.ref 44), some (.int (nI s)), some (.int 1)]) hC dX12_wants_65 rfl (by decide) rfl ?_
        refine aw_iload_n hC dX12_wants_66 rfl ?_
        refine aw_if_eq (tgt := 85) hC dX12_wants_67 (by decide) (fun h6 => absurd h6 (by decide)) (fun _ => ?_)
        show AW X 0 0 70 [some (.ref 44), some (.int (nI s)), some (.int 1)] [] T I J R
        refine aw_aload_n hC dX12_wants_70 rfl ?_
        refine aw_getR hC dX12_wants_71 aF_X12_7 rfl (tg_44 hT) (pr_44_1 hR) ?_
        refine aw_iload_n hC dX12_wants_74 rfl ?_
        refine aw_iaload_k (j := s) hC dX12_wants_75 (tg_45 hT) (nI_clamp (by omega)) (vp_in_nI (by omega) (by decide)) ?_
        refine aw_bipush (v := 12) hC dX12_wants_76 (by decide) ?_
        refine aw_icmp_ne (tgt := 85) hC dX12_wants_78 (by decide) (fun h7 => ?_) (fun h7 => ?_)
        · show AW X 0 0 85 [some (.ref 44), some (.int (nI s)), some (.int 1)] [] T I J R
          refine aw_iconst (v := 0) hC dX12_wants_85 (by decide) ?_
          exact aw_zreturn hC hq rfl (Or.inl rfl) dX12_wants_86 a_le a_le (aPure_i (bI_no (by clear hC hq; (try simp only [bI_e0, bI_n0, decide_eq_false_iff_not, decide_eq_true_eq, Classical.not_not] at *); grind)))
        · show AW X 0 0 81 [some (.ref 44), some (.int (nI s)), some (.int 1)] [] T I J R
          refine aw_iconst (v := 1) hC dX12_wants_81 (by decide) ?_
          refine aw_goto (tgt := 86) hC dX12_wants_82 (by decide) ?_
          exact aw_zreturn hC hq rfl (Or.inr rfl) dX12_wants_86 a_le a_le (aPure_i (bI_yes (by clear hC hq; (try simp only [bI_e0, bI_n0, decide_eq_false_iff_not, decide_eq_true_eq, Classical.not_not] at *); grind)))
  · show AW X 0 0 9 [some (.ref 44), some (.int (nI s)), none] [] T I J R
    refine aw_aload_n hC dX12_wants_9 rfl ?_
    refine aw_getR hC dX12_wants_10 aF_X12_31 rfl (tg_44 hT) (pr_44_8 hR) ?_
    refine aw_iload_n hC dX12_wants_13 rfl ?_
    refine aw_baload_k (j := s) hC dX12_wants_14 (tg_52 hT) (nI_clamp (by omega)) (vp_in_nI (by omega) (by decide)) ?_
    refine aw_if_ne (tgt := 22) hC dX12_wants_15 (by decide) (fun h8 => ?_) (fun h8 => ?_)
    · show AW X 0 0 22 [some (.ref 44), some (.int (nI s)), none] [] T I J R
      refine aw_iconst (v := 0) hC dX12_wants_22 (by decide) ?_
      refine aw_goto (tgt := 65) hC dX12_wants_23 (by decide) ?_
      refine aw_istore_n (L2 := [some (.ref 44), some (.int (nI s)), some (.int 0)]) hC dX12_wants_65 rfl (by decide) rfl ?_
      refine aw_iload_n hC dX12_wants_66 rfl ?_
      refine aw_if_eq (tgt := 85) hC dX12_wants_67 (by decide) (fun _ => ?_) (fun h9 => absurd h9 (by decide))
      show AW X 0 0 85 [some (.ref 44), some (.int (nI s)), some (.int 0)] [] T I J R
      refine aw_iconst (v := 0) hC dX12_wants_85 (by decide) ?_
      exact aw_zreturn hC hq rfl (Or.inl rfl) dX12_wants_86 a_le a_le (aPure_i (bI_no (by clear hC hq; (try simp only [bI_e0, bI_n0, decide_eq_false_iff_not, decide_eq_true_eq, Classical.not_not] at *); grind)))
    · show AW X 0 0 18 [some (.ref 44), some (.int (nI s)), none] [] T I J R
      refine aw_iconst (v := 1) hC dX12_wants_18 (by decide) ?_
      refine aw_goto (tgt := 65) hC dX12_wants_19 (by decide) ?_
      refine aw_istore_n (L2 := [some (.ref 44), some (.int (nI s)), some (.int 1)]) hC dX12_wants_65 rfl (by decide) rfl ?_
      refine aw_iload_n hC dX12_wants_66 rfl ?_
      refine aw_if_eq (tgt := 85) hC dX12_wants_67 (by decide) (fun h10 => absurd h10 (by decide)) (fun _ => ?_)
      show AW X 0 0 70 [some (.ref 44), some (.int (nI s)), some (.int 1)] [] T I J R
      refine aw_aload_n hC dX12_wants_70 rfl ?_
      refine aw_getR hC dX12_wants_71 aF_X12_7 rfl (tg_44 hT) (pr_44_1 hR) ?_
      refine aw_iload_n hC dX12_wants_74 rfl ?_
      refine aw_iaload_k (j := s) hC dX12_wants_75 (tg_45 hT) (nI_clamp (by omega)) (vp_in_nI (by omega) (by decide)) ?_
      refine aw_bipush (v := 12) hC dX12_wants_76 (by decide) ?_
      refine aw_icmp_ne (tgt := 85) hC dX12_wants_78 (by decide) (fun h11 => ?_) (fun h11 => ?_)
      · show AW X 0 0 85 [some (.ref 44), some (.int (nI s)), some (.int 1)] [] T I J R
        refine aw_iconst (v := 0) hC dX12_wants_85 (by decide) ?_
        exact aw_zreturn hC hq rfl (Or.inl rfl) dX12_wants_86 a_le a_le (aPure_i (bI_no (by clear hC hq; (try simp only [bI_e0, bI_n0, decide_eq_false_iff_not, decide_eq_true_eq, Classical.not_not] at *); grind)))
      · show AW X 0 0 81 [some (.ref 44), some (.int (nI s)), some (.int 1)] [] T I J R
        refine aw_iconst (v := 1) hC dX12_wants_81 (by decide) ?_
        refine aw_goto (tgt := 86) hC dX12_wants_82 (by decide) ?_
        exact aw_zreturn hC hq rfl (Or.inr rfl) dX12_wants_86 a_le a_le (aPure_i (bI_yes (by clear hC hq; (try simp only [bI_e0, bI_n0, decide_eq_false_iff_not, decide_eq_true_eq, Classical.not_not] at *); grind)))
def mCh (I : aI) (p : Nat) : Nat → Int32
  | 0 => 0
  | k + 1 => if I 83 (3 * p + k) = 0 then mCh I p k else nI k + 1
set_option maxRecDepth 100000 in
theorem m_X12_chosen {T : List aT} {I : aI} {J : aJ} {R : aR} (hT : aPT T) (hR : aPR R) {p : Nat} (hp : p ≤ 2) : MX12_chosen 0 0 [.ref 44, .int (nI p)] T I J R (aPure (some (.int (mCh I p 3))) T I J R) := by
  refine a_met (by decide +kernel) a_le (fun X hC hq => ?_)
  show AW X 0 0 0 [some (.ref 44), some (.int (nI p)), none, none] [] T I J R
  refine aw_iconst (v := 0) hC dX12_chosen_0 (by decide) ?_
  refine aw_istore_n (L2 := [some (.ref 44), some (.int (nI p)), some (.int 0), none]) hC dX12_chosen_1 rfl (by decide) rfl ?_
  refine aw_iconst (v := 0) hC dX12_chosen_2 (by decide) ?_
  refine aw_istore_n (L2 := [some (.ref 44), some (.int (nI p)), some (.int 0), some (.int 0)]) hC dX12_chosen_3 rfl (by decide) rfl ?_
  have loop : ∀ k, k ≤ 3 → ∀ fd : Int32, fd = mCh I p k → AW X 0 0 4 [some (.ref 44), some (.int (nI p)), some (.int fd), some (.int (nI k))] [] T I J R := by
    refine a_down 3 (fun k hkloop ihloop => ?_)
    intro fd hfd
    refine aw_iload_n hC dX12_chosen_4 rfl ?_
    refine aw_iconst (v := 3) hC dX12_chosen_5 (by decide) ?_
    refine aw_icmp_ge (tgt := 36) hC dX12_chosen_6 (by decide) (fun h1 => ?_) (fun h1 => ?_)
    · show AW X 0 0 36 [some (.ref 44), some (.int (nI p)), some (.int fd), some (.int (nI k))] [] T I J R
      have h1n : 3 ≤ k := (nI_leI (a := 3) (b := k) (by omega) (by omega)).mp h1
      refine aw_iload_n hC dX12_chosen_36 rfl ?_
      exact aw_ireturn hC hq rfl dX12_chosen_37 a_le a_le (aPure_i (by rw [hfd, show k = 3 from by omega]))
    · show AW X 0 0 9 [some (.ref 44), some (.int (nI p)), some (.int fd), some (.int (nI k))] [] T I J R
      have h1n : ¬ 3 ≤ k := fun q9 => h1 ((nI_leI (a := 3) (b := k) (by omega) (by omega)).mpr q9)
      refine aw_aload_n hC dX12_chosen_9 rfl ?_
      refine aw_getR hC dX12_chosen_10 aF_X12_132 rfl (tg_44 hT) (pr_44_48 hR) ?_
      refine aw_iconst (v := 3) hC dX12_chosen_13 (by decide) ?_
      refine aw_iload_n hC dX12_chosen_14 rfl ?_
      refine aw_imul hC dX12_chosen_15 ?_
      refine aw_iload_n hC dX12_chosen_16 rfl ?_
      refine aw_iadd hC dX12_chosen_17 ?_
      refine aw_baload_k (j := (3 * p + k)) hC dX12_chosen_18 (tg_83 hT) (by rw [n3]; exact nI_clamp (by omega)) (by rw [n3]; exact vp_in_nI (by omega) (by decide)) ?_
      refine aw_if_eq (tgt := 28) hC dX12_chosen_19 (by decide) (fun h2 => ?_) (fun h2 => ?_)
      · show AW X 0 0 28 [some (.ref 44), some (.int (nI p)), some (.int fd), some (.int (nI k))] [] T I J R
        refine aw_iload_n hC dX12_chosen_28 rfl ?_
        refine aw_istore_n (L2 := [some (.ref 44), some (.int (nI p)), some (.int fd), some (.int (nI k))]) hC dX12_chosen_29 rfl (by decide) rfl ?_
        refine aw_iinc (v := nI (k + 1)) (L2 := [some (.ref 44), some (.int (nI p)), some (.int fd), some (.int (nI (k + 1)))]) hC dX12_chosen_30 rfl (nI_inc _) (by decide) rfl ?_
        refine aw_goto (tgt := 4) hC dX12_chosen_33 (by decide) ?_
        exact ihloop (by omega) fd (by rw [mCh]; simp_all)
      · show AW X 0 0 22 [some (.ref 44), some (.int (nI p)), some (.int fd), some (.int (nI k))] [] T I J R
        refine aw_iload_n hC dX12_chosen_22 rfl ?_
        refine aw_iconst (v := 1) hC dX12_chosen_23 (by decide) ?_
        refine aw_iadd hC dX12_chosen_24 ?_
        refine aw_goto (tgt := 29) hC dX12_chosen_25 (by decide) ?_
        refine aw_istore_n (L2 := [some (.ref 44), some (.int (nI p)), some (.int ((nI k) + 1)), some (.int (nI k))]) hC dX12_chosen_29 rfl (by decide) rfl ?_
        refine aw_iinc (v := nI (k + 1)) (L2 := [some (.ref 44), some (.int (nI p)), some (.int ((nI k) + 1)), some (.int (nI (k + 1)))]) hC dX12_chosen_30 rfl (nI_inc _) (by decide) rfl ?_
        refine aw_goto (tgt := 4) hC dX12_chosen_33 (by decide) ?_
        exact ihloop (by omega) ((nI k) + 1) (by rw [mCh]; simp_all)
  exact loop 0 (Nat.zero_le _) 0 rfl
abbrev mTold (I : aI) (n : Nat) (its f : Int32) : Bool := anyB (fun j => decide (I 84 j ≠ 0) && decide (I 45 j = its) && (decide (f < 0) || decide (I 46 j = f))) n
abbrev mHid (I : aI) (n : Nat) (f : Int32) (s : Nat) : Bool := anyB (fun j => decide (I 84 j ≠ 0) && decide (I 45 j = 10) && decide (I 46 j = f) && (decide (I 49 j ≠ I 49 s) || decide (I 50 j ≠ I 50 s))) n
abbrev mPair (I : aI) (s : Nat) : Prop := I 45 s = 5 ∨ I 45 s = 6
abbrev mNotListed (I : aI) (n s : Nat) : Prop := mTold I n 9 (-1) = true ∧ (mTold I n 8 (I 46 s) = false ∨ (mPair I s ∧ mTold I n 8 (I 47 s) = false))
abbrev mHidden (I : aI) (n s : Nat) : Prop := mHid I n (I 46 s) s = true ∨ (mPair I s ∧ mHid I n (I 47 s) s = true)
abbrev mMay (I : aI) (s : Nat) : Prop := I 55 (I 46 s).toNatClampNeg = 0 ∨ I 45 s = 4 ∨ (0 ≤ I 49 s ∧ (I 54 (I 49 s).toNatClampNeg = I 55 (I 46 s).toNatClampNeg - 1 ∨ I 44 13 < I 56 (10 * I 49 s + I 46 s).toNatClampNeg))
def mFault (I : aI) (n s : Nat) : Int32 := if mNotListed I n s then 1 else if mHidden I n s then 2 else if mMay I s then 0 else 3
set_option maxRecDepth 100000 in
theorem m_X12_faults {T : List aT} {I : aI} {J : aJ} {R : aR} (hT : aPT T) (hR : aPR R) {n s : Nat} (hn : I 44 0 = nI n) (hn30 : n ≤ 30) (hs : s < n) (hf : vp_in (I 46 s) 10) (hfl : 0 ≤ I 49 s → vp_in (I 49 s) 6 ∧ vp_in (10 * I 49 s + I 46 s) 60) : MX12_faults 0 0 [.ref 44, .int (nI s)] T I J R (aPure (some (.int (mFault I n s))) T I J R) := by
  refine a_met (by decide +kernel) a_le (fun X hC hq => ?_)
  show AW X 0 0 0 [some (.ref 44), some (.int (nI s)), none, none, none] [] T I J R
  refine aw_aload_n hC dX12_faults_0 rfl ?_
  refine aw_getR hC dX12_faults_1 aF_X12_13 rfl (tg_44 hT) (pr_44_2 hR) ?_
  refine aw_iload_n hC dX12_faults_4 rfl ?_
  refine aw_iaload_k (j := s) hC dX12_faults_5 (tg_46 hT) (nI_clamp (by omega)) (vp_in_nI (by omega) (by decide)) ?_
  refine aw_istore_n (L2 := [some (.ref 44), some (.int (nI s)), some (.int (I 46 s)), none, none]) hC dX12_faults_6 rfl (by decide) rfl ?_
  refine aw_aload_n hC dX12_faults_7 rfl ?_
  refine aw_getR hC dX12_faults_8 aF_X12_7 rfl (tg_44 hT) (pr_44_1 hR) ?_
  refine aw_iload_n hC dX12_faults_11 rfl ?_
  refine aw_iaload_k (j := s) hC dX12_faults_12 (tg_45 hT) (nI_clamp (by omega)) (vp_in_nI (by omega) (by decide)) ?_
  refine kX12_177 hC rfl (m_X12_isPair (I 45 s)) dX12_faults_13 rfl a_le a_le a_le a_le a_le rfl aPure_x (aPure_k ?_)
  show AW X 0 0 16 [some (.ref 44), some (.int (nI s)), some (.int (I 46 s)), none, none] [.int (bI (decide ((I 45 s) = 5 ∨ (I 45 s) = 6)))] T I J R
  refine aw_istore_n (L2 := [some (.ref 44), some (.int (nI s)), some (.int (I 46 s)), some (.int (bI (decide ((I 45 s) = 5 ∨ (I 45 s) = 6)))), none]) hC dX12_faults_16 rfl (by decide) rfl ?_
  refine aw_aload_n hC dX12_faults_17 rfl ?_
  refine aw_bipush (v := 9) hC dX12_faults_18 (by decide) ?_
  refine aw_iconst (v := (-1)) hC dX12_faults_20 (by decide) ?_
  refine kX12_216 hC rfl (m_X12_isTold hT hR (n := n) hn hn30 (9 : Int32) ((-1) : Int32)) dX12_faults_21 (tg_44 hT) rfl a_le a_le a_le a_le a_le rfl aPure_x (aPure_k ?_)
  show AW X 0 0 24 [some (.ref 44), some (.int (nI s)), some (.int (I 46 s)), some (.int (bI (decide ((I 45 s) = 5 ∨ (I 45 s) = 6)))), none] [.int (bI (mTold I n (9 : Int32) ((-1) : Int32)))] T I J R
  refine aw_if_eq (tgt := 58) hC dX12_faults_24 (by decide) (fun h1 => ?_) (fun h1 => ?_)
  · show AW X 0 0 58 [some (.ref 44), some (.int (nI s)), some (.int (I 46 s)), some (.int (bI (decide ((I 45 s) = 5 ∨ (I 45 s) = 6)))), none] [] T I J R
    refine aw_aload_n hC dX12_faults_58 rfl ?_
    refine aw_iload_n hC dX12_faults_59 rfl ?_
    refine aw_iload_n hC dX12_faults_60 rfl ?_
    refine kX12_219 hC rfl (m_X12_isHidden hT hR (n := n) (s := s) hn hn30 (by omega) (I 46 s)) dX12_faults_61 (tg_44 hT) rfl a_le a_le a_le a_le a_le rfl aPure_x (aPure_k ?_)
    show AW X 0 0 64 [some (.ref 44), some (.int (nI s)), some (.int (I 46 s)), some (.int (bI (decide ((I 45 s) = 5 ∨ (I 45 s) = 6)))), none] [.int (bI (mHid I n (I 46 s) s))] T I J R
    refine aw_if_ne (tgt := 85) hC dX12_faults_64 (by decide) (fun h2 => ?_) (fun h2 => ?_)
    · show AW X 0 0 85 [some (.ref 44), some (.int (nI s)), some (.int (I 46 s)), some (.int (bI (decide ((I 45 s) = 5 ∨ (I 45 s) = 6)))), none] [] T I J R
      refine aw_iconst (v := 2) hC dX12_faults_85 (by decide) ?_
      exact aw_ireturn hC hq rfl dX12_faults_86 a_le a_le (aPure_i (by clear hC hq; (try simp only [bI_e0, bI_n0, decide_eq_false_iff_not, decide_eq_true_eq, Classical.not_not] at *); unfold mFault; grind))
    · show AW X 0 0 67 [some (.ref 44), some (.int (nI s)), some (.int (I 46 s)), some (.int (bI (decide ((I 45 s) = 5 ∨ (I 45 s) = 6)))), none] [] T I J R
      refine aw_iload_n hC dX12_faults_67 rfl ?_
      refine aw_if_eq (tgt := 87) hC dX12_faults_68 (by decide) (fun h3 => ?_) (fun h3 => ?_)
      · show AW X 0 0 87 [some (.ref 44), some (.int (nI s)), some (.int (I 46 s)), some (.int (bI (decide ((I 45 s) = 5 ∨ (I 45 s) = 6)))), none] [] T I J R
        refine aw_aload_n hC dX12_faults_87 rfl ?_
        refine aw_getR hC dX12_faults_88 aF_X12_41 rfl (tg_44 hT) (pr_44_11 hR) ?_
        refine aw_iload_n hC dX12_faults_91 rfl ?_
        refine aw_iaload_k (j := (I 46 s).toNatClampNeg) hC dX12_faults_92 (tg_55 hT) rfl hf ?_
        refine aw_if_eq (tgt := 106) hC dX12_faults_93 (by decide) (fun h4 => ?_) (fun h4 => ?_)
        · show AW X 0 0 106 [some (.ref 44), some (.int (nI s)), some (.int (I 46 s)), some (.int (bI (decide ((I 45 s) = 5 ∨ (I 45 s) = 6)))), none] [] T I J R
          refine aw_iconst (v := 1) hC dX12_faults_106 (by decide) ?_
          refine aw_goto (tgt := 111) hC dX12_faults_107 (by decide) ?_
          refine aw_istore (L2 := [some (.ref 44), some (.int (nI s)), some (.int (I 46 s)), some (.int (bI (decide ((I 45 s) = 5 ∨ (I 45 s) = 6)))), some (.int 1)]) hC dX12_faults_111 (by decide) rfl ?_
          refine aw_iload hC dX12_faults_113 rfl ?_
          refine aw_if_ne (tgt := 179) hC dX12_faults_115 (by decide) (fun _ => ?_) (fun h5 => absurd h5 (by decide))
          show AW X 0 0 179 [some (.ref 44), some (.int (nI s)), some (.int (I 46 s)), some (.int (bI (decide ((I 45 s) = 5 ∨ (I 45 s) = 6)))), some (.int 1)] [] T I J R
          refine aw_iload hC dX12_faults_179 rfl ?_
          refine aw_if_eq (tgt := 188) hC dX12_faults_181 (by decide) (fun h6 => absurd h6 (by decide)) (fun _ => ?_)
          show AW X 0 0 184 [some (.ref 44), some (.int (nI s)), some (.int (I 46 s)), some (.int (bI (decide ((I 45 s) = 5 ∨ (I 45 s) = 6)))), some (.int 1)] [] T I J R
          refine aw_iconst (v := 0) hC dX12_faults_184 (by decide) ?_
          refine aw_goto (tgt := 189) hC dX12_faults_185 (by decide) ?_
          exact aw_ireturn hC hq rfl dX12_faults_189 a_le a_le (aPure_i (by clear hC hq; (try simp only [bI_e0, bI_n0, decide_eq_false_iff_not, decide_eq_true_eq, Classical.not_not] at *); unfold mFault; grind))
        · show AW X 0 0 96 [some (.ref 44), some (.int (nI s)), some (.int (I 46 s)), some (.int (bI (decide ((I 45 s) = 5 ∨ (I 45 s) = 6)))), none] [] T I J R
          refine aw_aload_n hC dX12_faults_96 rfl ?_
          refine aw_getR hC dX12_faults_97 aF_X12_7 rfl (tg_44 hT) (pr_44_1 hR) ?_
          refine aw_iload_n hC dX12_faults_100 rfl ?_
          refine aw_iaload_k (j := s) hC dX12_faults_101 (tg_45 hT) (nI_clamp (by omega)) (vp_in_nI (by omega) (by decide)) ?_
          refine aw_iconst (v := 4) hC dX12_faults_102 (by decide) ?_
          refine aw_icmp_ne (tgt := 110) hC dX12_faults_103 (by decide) (fun h7 => ?_) (fun h7 => ?_)
          · show AW X 0 0 110 [some (.ref 44), some (.int (nI s)), some (.int (I 46 s)), some (.int (bI (decide ((I 45 s) = 5 ∨ (I 45 s) = 6)))), none] [] T I J R
            refine aw_iconst (v := 0) hC dX12_faults_110 (by decide) ?_
            refine aw_istore (L2 := [some (.ref 44), some (.int (nI s)), some (.int (I 46 s)), some (.int (bI (decide ((I 45 s) = 5 ∨ (I 45 s) = 6)))), some (.int 0)]) hC dX12_faults_111 (by decide) rfl ?_
            refine aw_iload hC dX12_faults_113 rfl ?_
            refine aw_if_ne (tgt := 179) hC dX12_faults_115 (by decide) (fun h8 => absurd h8 (by decide)) (fun _ => ?_)
            show AW X 0 0 118 [some (.ref 44), some (.int (nI s)), some (.int (I 46 s)), some (.int (bI (decide ((I 45 s) = 5 ∨ (I 45 s) = 6)))), some (.int 0)] [] T I J R
            refine aw_aload_n hC dX12_faults_118 rfl ?_
            refine aw_getR hC dX12_faults_119 aF_X12_22 rfl (tg_44 hT) (pr_44_5 hR) ?_
            refine aw_iload_n hC dX12_faults_122 rfl ?_
            refine aw_iaload_k (j := s) hC dX12_faults_123 (tg_49 hT) (nI_clamp (by omega)) (vp_in_nI (by omega) (by decide)) ?_
            refine aw_if_lt (tgt := 179) hC dX12_faults_124 (by decide) (fun h9 => ?_) (fun h9 => ?_)
            · show AW X 0 0 179 [some (.ref 44), some (.int (nI s)), some (.int (I 46 s)), some (.int (bI (decide ((I 45 s) = 5 ∨ (I 45 s) = 6)))), some (.int 0)] [] T I J R
              refine aw_iload hC dX12_faults_179 rfl ?_
              refine aw_if_eq (tgt := 188) hC dX12_faults_181 (by decide) (fun _ => ?_) (fun h10 => absurd h10 (by decide))
              show AW X 0 0 188 [some (.ref 44), some (.int (nI s)), some (.int (I 46 s)), some (.int (bI (decide ((I 45 s) = 5 ∨ (I 45 s) = 6)))), some (.int 0)] [] T I J R
              refine aw_iconst (v := 3) hC dX12_faults_188 (by decide) ?_
              exact aw_ireturn hC hq rfl dX12_faults_189 a_le a_le (aPure_i (by clear hC hq; (try simp only [bI_e0, bI_n0, decide_eq_false_iff_not, decide_eq_true_eq, Classical.not_not] at *); unfold mFault; grind))
            · show AW X 0 0 127 [some (.ref 44), some (.int (nI s)), some (.int (I 46 s)), some (.int (bI (decide ((I 45 s) = 5 ∨ (I 45 s) = 6)))), some (.int 0)] [] T I J R
              refine aw_aload_n hC dX12_faults_127 rfl ?_
              refine aw_getR hC dX12_faults_128 aF_X12_38 rfl (tg_44 hT) (pr_44_10 hR) ?_
              refine aw_aload_n hC dX12_faults_131 rfl ?_
              refine aw_getR hC dX12_faults_132 aF_X12_22 rfl (tg_44 hT) (pr_44_5 hR) ?_
              refine aw_iload_n hC dX12_faults_135 rfl ?_
              refine aw_iaload_k (j := s) hC dX12_faults_136 (tg_49 hT) (nI_clamp (by omega)) (vp_in_nI (by omega) (by decide)) ?_
              refine aw_iaload_k (j := (I 49 s).toNatClampNeg) hC dX12_faults_137 (tg_54 hT) rfl (hfl (Int32.not_lt.mp (by assumption))).1 ?_
              refine aw_aload_n hC dX12_faults_138 rfl ?_
              refine aw_getR hC dX12_faults_139 aF_X12_41 rfl (tg_44 hT) (pr_44_11 hR) ?_
              refine aw_iload_n hC dX12_faults_142 rfl ?_
              refine aw_iaload_k (j := (I 46 s).toNatClampNeg) hC dX12_faults_143 (tg_55 hT) rfl hf ?_
              refine aw_iconst (v := 1) hC dX12_faults_144 (by decide) ?_
              refine aw_isub hC dX12_faults_145 ?_
              refine aw_icmp_eq (tgt := 172) hC dX12_faults_146 (by decide) (fun h11 => ?_) (fun h11 => ?_)
              · show AW X 0 0 172 [some (.ref 44), some (.int (nI s)), some (.int (I 46 s)), some (.int (bI (decide ((I 45 s) = 5 ∨ (I 45 s) = 6)))), some (.int 0)] [] T I J R
                refine aw_iconst (v := 1) hC dX12_faults_172 (by decide) ?_
                refine aw_goto (tgt := 177) hC dX12_faults_173 (by decide) ?_
                refine aw_istore (L2 := [some (.ref 44), some (.int (nI s)), some (.int (I 46 s)), some (.int (bI (decide ((I 45 s) = 5 ∨ (I 45 s) = 6)))), some (.int 1)]) hC dX12_faults_177 (by decide) rfl ?_
                refine aw_iload hC dX12_faults_179 rfl ?_
                refine aw_if_eq (tgt := 188) hC dX12_faults_181 (by decide) (fun h12 => absurd h12 (by decide)) (fun _ => ?_)
                show AW X 0 0 184 [some (.ref 44), some (.int (nI s)), some (.int (I 46 s)), some (.int (bI (decide ((I 45 s) = 5 ∨ (I 45 s) = 6)))), some (.int 1)] [] T I J R
                refine aw_iconst (v := 0) hC dX12_faults_184 (by decide) ?_
                refine aw_goto (tgt := 189) hC dX12_faults_185 (by decide) ?_
                exact aw_ireturn hC hq rfl dX12_faults_189 a_le a_le (aPure_i (by clear hC hq; (try simp only [bI_e0, bI_n0, decide_eq_false_iff_not, decide_eq_true_eq, Classical.not_not] at *); unfold mFault; grind))
              · show AW X 0 0 149 [some (.ref 44), some (.int (nI s)), some (.int (I 46 s)), some (.int (bI (decide ((I 45 s) = 5 ∨ (I 45 s) = 6)))), some (.int 0)] [] T I J R
                refine aw_aload_n hC dX12_faults_149 rfl ?_
                refine aw_getI hC dX12_faults_150 aF_X12_193 rfl (tg_44 hT) ?_
                refine aw_aload_n hC dX12_faults_153 rfl ?_
                refine aw_getR hC dX12_faults_154 aF_X12_44 rfl (tg_44 hT) (pr_44_12 hR) ?_
                refine aw_bipush (v := 10) hC dX12_faults_157 (by decide) ?_
                refine aw_aload_n hC dX12_faults_159 rfl ?_
                refine aw_getR hC dX12_faults_160 aF_X12_22 rfl (tg_44 hT) (pr_44_5 hR) ?_
                refine aw_iload_n hC dX12_faults_163 rfl ?_
                refine aw_iaload_k (j := s) hC dX12_faults_164 (tg_49 hT) (nI_clamp (by omega)) (vp_in_nI (by omega) (by decide)) ?_
                refine aw_imul hC dX12_faults_165 ?_
                refine aw_iload_n hC dX12_faults_166 rfl ?_
                refine aw_iadd hC dX12_faults_167 ?_
                refine aw_iaload_k (j := ((10 * (I 49 s)) + (I 46 s)).toNatClampNeg) hC dX12_faults_168 (tg_56 hT) rfl (hfl (Int32.not_lt.mp (by assumption))).2 ?_
                refine aw_icmp_ge (tgt := 176) hC dX12_faults_169 (by decide) (fun h13 => ?_) (fun h13 => ?_)
                · show AW X 0 0 176 [some (.ref 44), some (.int (nI s)), some (.int (I 46 s)), some (.int (bI (decide ((I 45 s) = 5 ∨ (I 45 s) = 6)))), some (.int 0)] [] T I J R
                  refine aw_iconst (v := 0) hC dX12_faults_176 (by decide) ?_
                  refine aw_istore (L2 := [some (.ref 44), some (.int (nI s)), some (.int (I 46 s)), some (.int (bI (decide ((I 45 s) = 5 ∨ (I 45 s) = 6)))), some (.int 0)]) hC dX12_faults_177 (by decide) rfl ?_
                  refine aw_iload hC dX12_faults_179 rfl ?_
                  refine aw_if_eq (tgt := 188) hC dX12_faults_181 (by decide) (fun _ => ?_) (fun h14 => absurd h14 (by decide))
                  show AW X 0 0 188 [some (.ref 44), some (.int (nI s)), some (.int (I 46 s)), some (.int (bI (decide ((I 45 s) = 5 ∨ (I 45 s) = 6)))), some (.int 0)] [] T I J R
                  refine aw_iconst (v := 3) hC dX12_faults_188 (by decide) ?_
                  exact aw_ireturn hC hq rfl dX12_faults_189 a_le a_le (aPure_i (by clear hC hq; (try simp only [bI_e0, bI_n0, decide_eq_false_iff_not, decide_eq_true_eq, Classical.not_not] at *); unfold mFault; grind))
                · show AW X 0 0 172 [some (.ref 44), some (.int (nI s)), some (.int (I 46 s)), some (.int (bI (decide ((I 45 s) = 5 ∨ (I 45 s) = 6)))), some (.int 0)] [] T I J R
                  refine aw_iconst (v := 1) hC dX12_faults_172 (by decide) ?_
                  refine aw_goto (tgt := 177) hC dX12_faults_173 (by decide) ?_
                  refine aw_istore (L2 := [some (.ref 44), some (.int (nI s)), some (.int (I 46 s)), some (.int (bI (decide ((I 45 s) = 5 ∨ (I 45 s) = 6)))), some (.int 1)]) hC dX12_faults_177 (by decide) rfl ?_
                  refine aw_iload hC dX12_faults_179 rfl ?_
                  refine aw_if_eq (tgt := 188) hC dX12_faults_181 (by decide) (fun h15 => absurd h15 (by decide)) (fun _ => ?_)
                  show AW X 0 0 184 [some (.ref 44), some (.int (nI s)), some (.int (I 46 s)), some (.int (bI (decide ((I 45 s) = 5 ∨ (I 45 s) = 6)))), some (.int 1)] [] T I J R
                  refine aw_iconst (v := 0) hC dX12_faults_184 (by decide) ?_
                  refine aw_goto (tgt := 189) hC dX12_faults_185 (by decide) ?_
                  exact aw_ireturn hC hq rfl dX12_faults_189 a_le a_le (aPure_i (by clear hC hq; (try simp only [bI_e0, bI_n0, decide_eq_false_iff_not, decide_eq_true_eq, Classical.not_not] at *); unfold mFault; grind))
          · show AW X 0 0 106 [some (.ref 44), some (.int (nI s)), some (.int (I 46 s)), some (.int (bI (decide ((I 45 s) = 5 ∨ (I 45 s) = 6)))), none] [] T I J R
            refine aw_iconst (v := 1) hC dX12_faults_106 (by decide) ?_
            refine aw_goto (tgt := 111) hC dX12_faults_107 (by decide) ?_
            refine aw_istore (L2 := [some (.ref 44), some (.int (nI s)), some (.int (I 46 s)), some (.int (bI (decide ((I 45 s) = 5 ∨ (I 45 s) = 6)))), some (.int 1)]) hC dX12_faults_111 (by decide) rfl ?_
            refine aw_iload hC dX12_faults_113 rfl ?_
            refine aw_if_ne (tgt := 179) hC dX12_faults_115 (by decide) (fun _ => ?_) (fun h16 => absurd h16 (by decide))
            show AW X 0 0 179 [some (.ref 44), some (.int (nI s)), some (.int (I 46 s)), some (.int (bI (decide ((I 45 s) = 5 ∨ (I 45 s) = 6)))), some (.int 1)] [] T I J R
            refine aw_iload hC dX12_faults_179 rfl ?_
            refine aw_if_eq (tgt := 188) hC dX12_faults_181 (by decide) (fun h17 => absurd h17 (by decide)) (fun _ => ?_)
            show AW X 0 0 184 [some (.ref 44), some (.int (nI s)), some (.int (I 46 s)), some (.int (bI (decide ((I 45 s) = 5 ∨ (I 45 s) = 6)))), some (.int 1)] [] T I J R
            refine aw_iconst (v := 0) hC dX12_faults_184 (by decide) ?_
            refine aw_goto (tgt := 189) hC dX12_faults_185 (by decide) ?_
            exact aw_ireturn hC hq rfl dX12_faults_189 a_le a_le (aPure_i (by clear hC hq; (try simp only [bI_e0, bI_n0, decide_eq_false_iff_not, decide_eq_true_eq, Classical.not_not] at *); unfold mFault; grind))
      · show AW X 0 0 71 [some (.ref 44), some (.int (nI s)), some (.int (I 46 s)), some (.int (bI (decide ((I 45 s) = 5 ∨ (I 45 s) = 6)))), none] [] T I J R
        refine aw_aload_n hC dX12_faults_71 rfl ?_
        refine aw_aload_n hC dX12_faults_72 rfl ?_
        refine aw_getR hC dX12_faults_73 aF_X12_16 rfl (tg_44 hT) (pr_44_3 hR) ?_
        refine aw_iload_n hC dX12_faults_76 rfl ?_
        refine aw_iaload_k (j := s) hC dX12_faults_77 (tg_47 hT) (nI_clamp (by omega)) (vp_in_nI (by omega) (by decide)) ?_
        refine aw_iload_n hC dX12_faults_78 rfl ?_
        refine kX12_219 hC rfl (m_X12_isHidden hT hR (n := n) (s := s) hn hn30 (by omega) (I 47 s)) dX12_faults_79 (tg_44 hT) rfl a_le a_le a_le a_le a_le rfl aPure_x (aPure_k ?_)
        show AW X 0 0 82 [some (.ref 44), some (.int (nI s)), some (.int (I 46 s)), some (.int (bI (decide ((I 45 s) = 5 ∨ (I 45 s) = 6)))), none] [.int (bI (mHid I n (I 47 s) s))] T I J R
        refine aw_if_eq (tgt := 87) hC dX12_faults_82 (by decide) (fun h18 => ?_) (fun h18 => ?_)
        · show AW X 0 0 87 [some (.ref 44), some (.int (nI s)), some (.int (I 46 s)), some (.int (bI (decide ((I 45 s) = 5 ∨ (I 45 s) = 6)))), none] [] T I J R
          refine aw_aload_n hC dX12_faults_87 rfl ?_
          refine aw_getR hC dX12_faults_88 aF_X12_41 rfl (tg_44 hT) (pr_44_11 hR) ?_
          refine aw_iload_n hC dX12_faults_91 rfl ?_
          refine aw_iaload_k (j := (I 46 s).toNatClampNeg) hC dX12_faults_92 (tg_55 hT) rfl hf ?_
          refine aw_if_eq (tgt := 106) hC dX12_faults_93 (by decide) (fun h19 => ?_) (fun h19 => ?_)
          · show AW X 0 0 106 [some (.ref 44), some (.int (nI s)), some (.int (I 46 s)), some (.int (bI (decide ((I 45 s) = 5 ∨ (I 45 s) = 6)))), none] [] T I J R
            refine aw_iconst (v := 1) hC dX12_faults_106 (by decide) ?_
            refine aw_goto (tgt := 111) hC dX12_faults_107 (by decide) ?_
            refine aw_istore (L2 := [some (.ref 44), some (.int (nI s)), some (.int (I 46 s)), some (.int (bI (decide ((I 45 s) = 5 ∨ (I 45 s) = 6)))), some (.int 1)]) hC dX12_faults_111 (by decide) rfl ?_
            refine aw_iload hC dX12_faults_113 rfl ?_
            refine aw_if_ne (tgt := 179) hC dX12_faults_115 (by decide) (fun _ => ?_) (fun h20 => absurd h20 (by decide))
            show AW X 0 0 179 [some (.ref 44), some (.int (nI s)), some (.int (I 46 s)), some (.int (bI (decide ((I 45 s) = 5 ∨ (I 45 s) = 6)))), some (.int 1)] [] T I J R
            refine aw_iload hC dX12_faults_179 rfl ?_
            refine aw_if_eq (tgt := 188) hC dX12_faults_181 (by decide) (fun h21 => absurd h21 (by decide)) (fun _ => ?_)
            show AW X 0 0 184 [some (.ref 44), some (.int (nI s)), some (.int (I 46 s)), some (.int (bI (decide ((I 45 s) = 5 ∨ (I 45 s) = 6)))), some (.int 1)] [] T I J R
            refine aw_iconst (v := 0) hC dX12_faults_184 (by decide) ?_
            refine aw_goto (tgt := 189) hC dX12_faults_185 (by decide) ?_
            exact aw_ireturn hC hq rfl dX12_faults_189 a_le a_le (aPure_i (by clear hC hq; (try simp only [bI_e0, bI_n0, decide_eq_false_iff_not, decide_eq_true_eq, Classical.not_not] at *); unfold mFault; grind))
          · show AW X 0 0 96 [some (.ref 44), some (.int (nI s)), some (.int (I 46 s)), some (.int (bI (decide ((I 45 s) = 5 ∨ (I 45 s) = 6)))), none] [] T I J R
            refine aw_aload_n hC dX12_faults_96 rfl ?_
            refine aw_getR hC dX12_faults_97 aF_X12_7 rfl (tg_44 hT) (pr_44_1 hR) ?_
            refine aw_iload_n hC dX12_faults_100 rfl ?_
            refine aw_iaload_k (j := s) hC dX12_faults_101 (tg_45 hT) (nI_clamp (by omega)) (vp_in_nI (by omega) (by decide)) ?_
            refine aw_iconst (v := 4) hC dX12_faults_102 (by decide) ?_
            refine aw_icmp_ne (tgt := 110) hC dX12_faults_103 (by decide) (fun h22 => ?_) (fun h22 => ?_)
            · show AW X 0 0 110 [some (.ref 44), some (.int (nI s)), some (.int (I 46 s)), some (.int (bI (decide ((I 45 s) = 5 ∨ (I 45 s) = 6)))), none] [] T I J R
              refine aw_iconst (v := 0) hC dX12_faults_110 (by decide) ?_
              refine aw_istore (L2 := [some (.ref 44), some (.int (nI s)), some (.int (I 46 s)), some (.int (bI (decide ((I 45 s) = 5 ∨ (I 45 s) = 6)))), some (.int 0)]) hC dX12_faults_111 (by decide) rfl ?_
              refine aw_iload hC dX12_faults_113 rfl ?_
              refine aw_if_ne (tgt := 179) hC dX12_faults_115 (by decide) (fun h23 => absurd h23 (by decide)) (fun _ => ?_)
              show AW X 0 0 118 [some (.ref 44), some (.int (nI s)), some (.int (I 46 s)), some (.int (bI (decide ((I 45 s) = 5 ∨ (I 45 s) = 6)))), some (.int 0)] [] T I J R
              refine aw_aload_n hC dX12_faults_118 rfl ?_
              refine aw_getR hC dX12_faults_119 aF_X12_22 rfl (tg_44 hT) (pr_44_5 hR) ?_
              refine aw_iload_n hC dX12_faults_122 rfl ?_
              refine aw_iaload_k (j := s) hC dX12_faults_123 (tg_49 hT) (nI_clamp (by omega)) (vp_in_nI (by omega) (by decide)) ?_
              refine aw_if_lt (tgt := 179) hC dX12_faults_124 (by decide) (fun h24 => ?_) (fun h24 => ?_)
              · show AW X 0 0 179 [some (.ref 44), some (.int (nI s)), some (.int (I 46 s)), some (.int (bI (decide ((I 45 s) = 5 ∨ (I 45 s) = 6)))), some (.int 0)] [] T I J R
                refine aw_iload hC dX12_faults_179 rfl ?_
                refine aw_if_eq (tgt := 188) hC dX12_faults_181 (by decide) (fun _ => ?_) (fun h25 => absurd h25 (by decide))
                show AW X 0 0 188 [some (.ref 44), some (.int (nI s)), some (.int (I 46 s)), some (.int (bI (decide ((I 45 s) = 5 ∨ (I 45 s) = 6)))), some (.int 0)] [] T I J R
                refine aw_iconst (v := 3) hC dX12_faults_188 (by decide) ?_
                exact aw_ireturn hC hq rfl dX12_faults_189 a_le a_le (aPure_i (by clear hC hq; (try simp only [bI_e0, bI_n0, decide_eq_false_iff_not, decide_eq_true_eq, Classical.not_not] at *); unfold mFault; grind))
              · show AW X 0 0 127 [some (.ref 44), some (.int (nI s)), some (.int (I 46 s)), some (.int (bI (decide ((I 45 s) = 5 ∨ (I 45 s) = 6)))), some (.int 0)] [] T I J R
                refine aw_aload_n hC dX12_faults_127 rfl ?_
                refine aw_getR hC dX12_faults_128 aF_X12_38 rfl (tg_44 hT) (pr_44_10 hR) ?_
                refine aw_aload_n hC dX12_faults_131 rfl ?_
                refine aw_getR hC dX12_faults_132 aF_X12_22 rfl (tg_44 hT) (pr_44_5 hR) ?_
                refine aw_iload_n hC dX12_faults_135 rfl ?_
                refine aw_iaload_k (j := s) hC dX12_faults_136 (tg_49 hT) (nI_clamp (by omega)) (vp_in_nI (by omega) (by decide)) ?_
                refine aw_iaload_k (j := (I 49 s).toNatClampNeg) hC dX12_faults_137 (tg_54 hT) rfl (hfl (Int32.not_lt.mp (by assumption))).1 ?_
                refine aw_aload_n hC dX12_faults_138 rfl ?_
                refine aw_getR hC dX12_faults_139 aF_X12_41 rfl (tg_44 hT) (pr_44_11 hR) ?_
                refine aw_iload_n hC dX12_faults_142 rfl ?_
                refine aw_iaload_k (j := (I 46 s).toNatClampNeg) hC dX12_faults_143 (tg_55 hT) rfl hf ?_
                refine aw_iconst (v := 1) hC dX12_faults_144 (by decide) ?_
                refine aw_isub hC dX12_faults_145 ?_
                refine aw_icmp_eq (tgt := 172) hC dX12_faults_146 (by decide) (fun h26 => ?_) (fun h26 => ?_)
                · show AW X 0 0 172 [some (.ref 44), some (.int (nI s)), some (.int (I 46 s)), some (.int (bI (decide ((I 45 s) = 5 ∨ (I 45 s) = 6)))), some (.int 0)] [] T I J R
                  refine aw_iconst (v := 1) hC dX12_faults_172 (by decide) ?_
                  refine aw_goto (tgt := 177) hC dX12_faults_173 (by decide) ?_
                  refine aw_istore (L2 := [some (.ref 44), some (.int (nI s)), some (.int (I 46 s)), some (.int (bI (decide ((I 45 s) = 5 ∨ (I 45 s) = 6)))), some (.int 1)]) hC dX12_faults_177 (by decide) rfl ?_
                  refine aw_iload hC dX12_faults_179 rfl ?_
                  refine aw_if_eq (tgt := 188) hC dX12_faults_181 (by decide) (fun h27 => absurd h27 (by decide)) (fun _ => ?_)
                  show AW X 0 0 184 [some (.ref 44), some (.int (nI s)), some (.int (I 46 s)), some (.int (bI (decide ((I 45 s) = 5 ∨ (I 45 s) = 6)))), some (.int 1)] [] T I J R
                  refine aw_iconst (v := 0) hC dX12_faults_184 (by decide) ?_
                  refine aw_goto (tgt := 189) hC dX12_faults_185 (by decide) ?_
                  exact aw_ireturn hC hq rfl dX12_faults_189 a_le a_le (aPure_i (by clear hC hq; (try simp only [bI_e0, bI_n0, decide_eq_false_iff_not, decide_eq_true_eq, Classical.not_not] at *); unfold mFault; grind))
                · show AW X 0 0 149 [some (.ref 44), some (.int (nI s)), some (.int (I 46 s)), some (.int (bI (decide ((I 45 s) = 5 ∨ (I 45 s) = 6)))), some (.int 0)] [] T I J R
                  refine aw_aload_n hC dX12_faults_149 rfl ?_
                  refine aw_getI hC dX12_faults_150 aF_X12_193 rfl (tg_44 hT) ?_
                  refine aw_aload_n hC dX12_faults_153 rfl ?_
                  refine aw_getR hC dX12_faults_154 aF_X12_44 rfl (tg_44 hT) (pr_44_12 hR) ?_
                  refine aw_bipush (v := 10) hC dX12_faults_157 (by decide) ?_
                  refine aw_aload_n hC dX12_faults_159 rfl ?_
                  refine aw_getR hC dX12_faults_160 aF_X12_22 rfl (tg_44 hT) (pr_44_5 hR) ?_
                  refine aw_iload_n hC dX12_faults_163 rfl ?_
                  refine aw_iaload_k (j := s) hC dX12_faults_164 (tg_49 hT) (nI_clamp (by omega)) (vp_in_nI (by omega) (by decide)) ?_
                  refine aw_imul hC dX12_faults_165 ?_
                  refine aw_iload_n hC dX12_faults_166 rfl ?_
                  refine aw_iadd hC dX12_faults_167 ?_
                  refine aw_iaload_k (j := ((10 * (I 49 s)) + (I 46 s)).toNatClampNeg) hC dX12_faults_168 (tg_56 hT) rfl (hfl (Int32.not_lt.mp (by assumption))).2 ?_
                  refine aw_icmp_ge (tgt := 176) hC dX12_faults_169 (by decide) (fun h28 => ?_) (fun h28 => ?_)
                  · show AW X 0 0 176 [some (.ref 44), some (.int (nI s)), some (.int (I 46 s)), some (.int (bI (decide ((I 45 s) = 5 ∨ (I 45 s) = 6)))), some (.int 0)] [] T I J R
                    refine aw_iconst (v := 0) hC dX12_faults_176 (by decide) ?_
                    refine aw_istore (L2 := [some (.ref 44), some (.int (nI s)), some (.int (I 46 s)), some (.int (bI (decide ((I 45 s) = 5 ∨ (I 45 s) = 6)))), some (.int 0)]) hC dX12_faults_177 (by decide) rfl ?_
                    refine aw_iload hC dX12_faults_179 rfl ?_
                    refine aw_if_eq (tgt := 188) hC dX12_faults_181 (by decide) (fun _ => ?_) (fun h29 => absurd h29 (by decide))
                    show AW X 0 0 188 [some (.ref 44), some (.int (nI s)), some (.int (I 46 s)), some (.int (bI (decide ((I 45 s) = 5 ∨ (I 45 s) = 6)))), some (.int 0)] [] T I J R
                    refine aw_iconst (v := 3) hC dX12_faults_188 (by decide) ?_
                    exact aw_ireturn hC hq rfl dX12_faults_189 a_le a_le (aPure_i (by clear hC hq; (try simp only [bI_e0, bI_n0, decide_eq_false_iff_not, decide_eq_true_eq, Classical.not_not] at *); unfold mFault; grind))
                  · show AW X 0 0 172 [some (.ref 44), some (.int (nI s)), some (.int (I 46 s)), some (.int (bI (decide ((I 45 s) = 5 ∨ (I 45 s) = 6)))), some (.int 0)] [] T I J R
                    refine aw_iconst (v := 1) hC dX12_faults_172 (by decide) ?_
                    refine aw_goto (tgt := 177) hC dX12_faults_173 (by decide) ?_
                    refine aw_istore (L2 := [some (.ref 44), some (.int (nI s)), some (.int (I 46 s)), some (.int (bI (decide ((I 45 s) = 5 ∨ (I 45 s) = 6)))), some (.int 1)]) hC dX12_faults_177 (by decide) rfl ?_
                    refine aw_iload hC dX12_faults_179 rfl ?_
                    refine aw_if_eq (tgt := 188) hC dX12_faults_181 (by decide) (fun h30 => absurd h30 (by decide)) (fun _ => ?_)
                    show AW X 0 0 184 [some (.ref 44), some (.int (nI s)), some (.int (I 46 s)), some (.int (bI (decide ((I 45 s) = 5 ∨ (I 45 s) = 6)))), some (.int 1)] [] T I J R
                    refine aw_iconst (v := 0) hC dX12_faults_184 (by decide) ?_
                    refine aw_goto (tgt := 189) hC dX12_faults_185 (by decide) ?_
                    exact aw_ireturn hC hq rfl dX12_faults_189 a_le a_le (aPure_i (by clear hC hq; (try simp only [bI_e0, bI_n0, decide_eq_false_iff_not, decide_eq_true_eq, Classical.not_not] at *); unfold mFault; grind))
            · show AW X 0 0 106 [some (.ref 44), some (.int (nI s)), some (.int (I 46 s)), some (.int (bI (decide ((I 45 s) = 5 ∨ (I 45 s) = 6)))), none] [] T I J R
              refine aw_iconst (v := 1) hC dX12_faults_106 (by decide) ?_
              refine aw_goto (tgt := 111) hC dX12_faults_107 (by decide) ?_
              refine aw_istore (L2 := [some (.ref 44), some (.int (nI s)), some (.int (I 46 s)), some (.int (bI (decide ((I 45 s) = 5 ∨ (I 45 s) = 6)))), some (.int 1)]) hC dX12_faults_111 (by decide) rfl ?_
              refine aw_iload hC dX12_faults_113 rfl ?_
              refine aw_if_ne (tgt := 179) hC dX12_faults_115 (by decide) (fun _ => ?_) (fun h31 => absurd h31 (by decide))
              show AW X 0 0 179 [some (.ref 44), some (.int (nI s)), some (.int (I 46 s)), some (.int (bI (decide ((I 45 s) = 5 ∨ (I 45 s) = 6)))), some (.int 1)] [] T I J R
              refine aw_iload hC dX12_faults_179 rfl ?_
              refine aw_if_eq (tgt := 188) hC dX12_faults_181 (by decide) (fun h32 => absurd h32 (by decide)) (fun _ => ?_)
              show AW X 0 0 184 [some (.ref 44), some (.int (nI s)), some (.int (I 46 s)), some (.int (bI (decide ((I 45 s) = 5 ∨ (I 45 s) = 6)))), some (.int 1)] [] T I J R
              refine aw_iconst (v := 0) hC dX12_faults_184 (by decide) ?_
              refine aw_goto (tgt := 189) hC dX12_faults_185 (by decide) ?_
              exact aw_ireturn hC hq rfl dX12_faults_189 a_le a_le (aPure_i (by clear hC hq; (try simp only [bI_e0, bI_n0, decide_eq_false_iff_not, decide_eq_true_eq, Classical.not_not] at *); unfold mFault; grind))
        · show AW X 0 0 85 [some (.ref 44), some (.int (nI s)), some (.int (I 46 s)), some (.int (bI (decide ((I 45 s) = 5 ∨ (I 45 s) = 6)))), none] [] T I J R
          refine aw_iconst (v := 2) hC dX12_faults_85 (by decide) ?_
          exact aw_ireturn hC hq rfl dX12_faults_86 a_le a_le (aPure_i (by clear hC hq; (try simp only [bI_e0, bI_n0, decide_eq_false_iff_not, decide_eq_true_eq, Classical.not_not] at *); unfold mFault; grind))
  · show AW X 0 0 27 [some (.ref 44), some (.int (nI s)), some (.int (I 46 s)), some (.int (bI (decide ((I 45 s) = 5 ∨ (I 45 s) = 6)))), none] [] T I J R
    refine aw_aload_n hC dX12_faults_27 rfl ?_
    refine aw_bipush (v := 8) hC dX12_faults_28 (by decide) ?_
    refine aw_iload_n hC dX12_faults_30 rfl ?_
    refine kX12_216 hC rfl (m_X12_isTold hT hR (n := n) hn hn30 (8 : Int32) (I 46 s)) dX12_faults_31 (tg_44 hT) rfl a_le a_le a_le a_le a_le rfl aPure_x (aPure_k ?_)
    show AW X 0 0 34 [some (.ref 44), some (.int (nI s)), some (.int (I 46 s)), some (.int (bI (decide ((I 45 s) = 5 ∨ (I 45 s) = 6)))), none] [.int (bI (mTold I n (8 : Int32) (I 46 s)))] T I J R
    refine aw_if_eq (tgt := 56) hC dX12_faults_34 (by decide) (fun h33 => ?_) (fun h33 => ?_)
    · show AW X 0 0 56 [some (.ref 44), some (.int (nI s)), some (.int (I 46 s)), some (.int (bI (decide ((I 45 s) = 5 ∨ (I 45 s) = 6)))), none] [] T I J R
      refine aw_iconst (v := 1) hC dX12_faults_56 (by decide) ?_
      exact aw_ireturn hC hq rfl dX12_faults_57 a_le a_le (aPure_i (by clear hC hq; (try simp only [bI_e0, bI_n0, decide_eq_false_iff_not, decide_eq_true_eq, Classical.not_not] at *); unfold mFault; grind))
    · show AW X 0 0 37 [some (.ref 44), some (.int (nI s)), some (.int (I 46 s)), some (.int (bI (decide ((I 45 s) = 5 ∨ (I 45 s) = 6)))), none] [] T I J R
      refine aw_iload_n hC dX12_faults_37 rfl ?_
      refine aw_if_eq (tgt := 58) hC dX12_faults_38 (by decide) (fun h34 => ?_) (fun h34 => ?_)
      · show AW X 0 0 58 [some (.ref 44), some (.int (nI s)), some (.int (I 46 s)), some (.int (bI (decide ((I 45 s) = 5 ∨ (I 45 s) = 6)))), none] [] T I J R
        refine aw_aload_n hC dX12_faults_58 rfl ?_
        refine aw_iload_n hC dX12_faults_59 rfl ?_
        refine aw_iload_n hC dX12_faults_60 rfl ?_
        refine kX12_219 hC rfl (m_X12_isHidden hT hR (n := n) (s := s) hn hn30 (by omega) (I 46 s)) dX12_faults_61 (tg_44 hT) rfl a_le a_le a_le a_le a_le rfl aPure_x (aPure_k ?_)
        show AW X 0 0 64 [some (.ref 44), some (.int (nI s)), some (.int (I 46 s)), some (.int (bI (decide ((I 45 s) = 5 ∨ (I 45 s) = 6)))), none] [.int (bI (mHid I n (I 46 s) s))] T I J R
        refine aw_if_ne (tgt := 85) hC dX12_faults_64 (by decide) (fun h35 => ?_) (fun h35 => ?_)
        · show AW X 0 0 85 [some (.ref 44), some (.int (nI s)), some (.int (I 46 s)), some (.int (bI (decide ((I 45 s) = 5 ∨ (I 45 s) = 6)))), none] [] T I J R
          refine aw_iconst (v := 2) hC dX12_faults_85 (by decide) ?_
          exact aw_ireturn hC hq rfl dX12_faults_86 a_le a_le (aPure_i (by clear hC hq; (try simp only [bI_e0, bI_n0, decide_eq_false_iff_not, decide_eq_true_eq, Classical.not_not] at *); unfold mFault; grind))
        · show AW X 0 0 67 [some (.ref 44), some (.int (nI s)), some (.int (I 46 s)), some (.int (bI (decide ((I 45 s) = 5 ∨ (I 45 s) = 6)))), none] [] T I J R
          refine aw_iload_n hC dX12_faults_67 rfl ?_
          refine aw_if_eq (tgt := 87) hC dX12_faults_68 (by decide) (fun h36 => ?_) (fun h36 => ?_)
          · show AW X 0 0 87 [some (.ref 44), some (.int (nI s)), some (.int (I 46 s)), some (.int (bI (decide ((I 45 s) = 5 ∨ (I 45 s) = 6)))), none] [] T I J R
            refine aw_aload_n hC dX12_faults_87 rfl ?_
            refine aw_getR hC dX12_faults_88 aF_X12_41 rfl (tg_44 hT) (pr_44_11 hR) ?_
            refine aw_iload_n hC dX12_faults_91 rfl ?_
            refine aw_iaload_k (j := (I 46 s).toNatClampNeg) hC dX12_faults_92 (tg_55 hT) rfl hf ?_
            refine aw_if_eq (tgt := 106) hC dX12_faults_93 (by decide) (fun h37 => ?_) (fun h37 => ?_)
            · show AW X 0 0 106 [some (.ref 44), some (.int (nI s)), some (.int (I 46 s)), some (.int (bI (decide ((I 45 s) = 5 ∨ (I 45 s) = 6)))), none] [] T I J R
              refine aw_iconst (v := 1) hC dX12_faults_106 (by decide) ?_
              refine aw_goto (tgt := 111) hC dX12_faults_107 (by decide) ?_
              refine aw_istore (L2 := [some (.ref 44), some (.int (nI s)), some (.int (I 46 s)), some (.int (bI (decide ((I 45 s) = 5 ∨ (I 45 s) = 6)))), some (.int 1)]) hC dX12_faults_111 (by decide) rfl ?_
              refine aw_iload hC dX12_faults_113 rfl ?_
              refine aw_if_ne (tgt := 179) hC dX12_faults_115 (by decide) (fun _ => ?_) (fun h38 => absurd h38 (by decide))
              show AW X 0 0 179 [some (.ref 44), some (.int (nI s)), some (.int (I 46 s)), some (.int (bI (decide ((I 45 s) = 5 ∨ (I 45 s) = 6)))), some (.int 1)] [] T I J R
              refine aw_iload hC dX12_faults_179 rfl ?_
              refine aw_if_eq (tgt := 188) hC dX12_faults_181 (by decide) (fun h39 => absurd h39 (by decide)) (fun _ => ?_)
              show AW X 0 0 184 [some (.ref 44), some (.int (nI s)), some (.int (I 46 s)), some (.int (bI (decide ((I 45 s) = 5 ∨ (I 45 s) = 6)))), some (.int 1)] [] T I J R
              refine aw_iconst (v := 0) hC dX12_faults_184 (by decide) ?_
              refine aw_goto (tgt := 189) hC dX12_faults_185 (by decide) ?_
              exact aw_ireturn hC hq rfl dX12_faults_189 a_le a_le (aPure_i (by clear hC hq; (try simp only [bI_e0, bI_n0, decide_eq_false_iff_not, decide_eq_true_eq, Classical.not_not] at *); unfold mFault; grind))
            · show AW X 0 0 96 [some (.ref 44), some (.int (nI s)), some (.int (I 46 s)), some (.int (bI (decide ((I 45 s) = 5 ∨ (I 45 s) = 6)))), none] [] T I J R
              refine aw_aload_n hC dX12_faults_96 rfl ?_
              refine aw_getR hC dX12_faults_97 aF_X12_7 rfl (tg_44 hT) (pr_44_1 hR) ?_
              refine aw_iload_n hC dX12_faults_100 rfl ?_
              refine aw_iaload_k (j := s) hC dX12_faults_101 (tg_45 hT) (nI_clamp (by omega)) (vp_in_nI (by omega) (by decide)) ?_
              refine aw_iconst (v := 4) hC dX12_faults_102 (by decide) ?_
              refine aw_icmp_ne (tgt := 110) hC dX12_faults_103 (by decide) (fun h40 => ?_) (fun h40 => ?_)
              · show AW X 0 0 110 [some (.ref 44), some (.int (nI s)), some (.int (I 46 s)), some (.int (bI (decide ((I 45 s) = 5 ∨ (I 45 s) = 6)))), none] [] T I J R
                refine aw_iconst (v := 0) hC dX12_faults_110 (by decide) ?_
                refine aw_istore (L2 := [some (.ref 44), some (.int (nI s)), some (.int (I 46 s)), some (.int (bI (decide ((I 45 s) = 5 ∨ (I 45 s) = 6)))), some (.int 0)]) hC dX12_faults_111 (by decide) rfl ?_
                refine aw_iload hC dX12_faults_113 rfl ?_
                refine aw_if_ne (tgt := 179) hC dX12_faults_115 (by decide) (fun h41 => absurd h41 (by decide)) (fun _ => ?_)
                show AW X 0 0 118 [some (.ref 44), some (.int (nI s)), some (.int (I 46 s)), some (.int (bI (decide ((I 45 s) = 5 ∨ (I 45 s) = 6)))), some (.int 0)] [] T I J R
                refine aw_aload_n hC dX12_faults_118 rfl ?_
                refine aw_getR hC dX12_faults_119 aF_X12_22 rfl (tg_44 hT) (pr_44_5 hR) ?_
                refine aw_iload_n hC dX12_faults_122 rfl ?_
                refine aw_iaload_k (j := s) hC dX12_faults_123 (tg_49 hT) (nI_clamp (by omega)) (vp_in_nI (by omega) (by decide)) ?_
                refine aw_if_lt (tgt := 179) hC dX12_faults_124 (by decide) (fun h42 => ?_) (fun h42 => ?_)
                · show AW X 0 0 179 [some (.ref 44), some (.int (nI s)), some (.int (I 46 s)), some (.int (bI (decide ((I 45 s) = 5 ∨ (I 45 s) = 6)))), some (.int 0)] [] T I J R
                  refine aw_iload hC dX12_faults_179 rfl ?_
                  refine aw_if_eq (tgt := 188) hC dX12_faults_181 (by decide) (fun _ => ?_) (fun h43 => absurd h43 (by decide))
                  show AW X 0 0 188 [some (.ref 44), some (.int (nI s)), some (.int (I 46 s)), some (.int (bI (decide ((I 45 s) = 5 ∨ (I 45 s) = 6)))), some (.int 0)] [] T I J R
                  refine aw_iconst (v := 3) hC dX12_faults_188 (by decide) ?_
                  exact aw_ireturn hC hq rfl dX12_faults_189 a_le a_le (aPure_i (by clear hC hq; (try simp only [bI_e0, bI_n0, decide_eq_false_iff_not, decide_eq_true_eq, Classical.not_not] at *); unfold mFault; grind))
                · show AW X 0 0 127 [some (.ref 44), some (.int (nI s)), some (.int (I 46 s)), some (.int (bI (decide ((I 45 s) = 5 ∨ (I 45 s) = 6)))), some (.int 0)] [] T I J R
                  refine aw_aload_n hC dX12_faults_127 rfl ?_
                  refine aw_getR hC dX12_faults_128 aF_X12_38 rfl (tg_44 hT) (pr_44_10 hR) ?_
                  refine aw_aload_n hC dX12_faults_131 rfl ?_
                  refine aw_getR hC dX12_faults_132 aF_X12_22 rfl (tg_44 hT) (pr_44_5 hR) ?_
                  refine aw_iload_n hC dX12_faults_135 rfl ?_
                  refine aw_iaload_k (j := s) hC dX12_faults_136 (tg_49 hT) (nI_clamp (by omega)) (vp_in_nI (by omega) (by decide)) ?_
                  refine aw_iaload_k (j := (I 49 s).toNatClampNeg) hC dX12_faults_137 (tg_54 hT) rfl (hfl (Int32.not_lt.mp (by assumption))).1 ?_
                  refine aw_aload_n hC dX12_faults_138 rfl ?_
                  refine aw_getR hC dX12_faults_139 aF_X12_41 rfl (tg_44 hT) (pr_44_11 hR) ?_
                  refine aw_iload_n hC dX12_faults_142 rfl ?_
                  refine aw_iaload_k (j := (I 46 s).toNatClampNeg) hC dX12_faults_143 (tg_55 hT) rfl hf ?_
                  refine aw_iconst (v := 1) hC dX12_faults_144 (by decide) ?_
                  refine aw_isub hC dX12_faults_145 ?_
                  refine aw_icmp_eq (tgt := 172) hC dX12_faults_146 (by decide) (fun h44 => ?_) (fun h44 => ?_)
                  · show AW X 0 0 172 [some (.ref 44), some (.int (nI s)), some (.int (I 46 s)), some (.int (bI (decide ((I 45 s) = 5 ∨ (I 45 s) = 6)))), some (.int 0)] [] T I J R
                    refine aw_iconst (v := 1) hC dX12_faults_172 (by decide) ?_
                    refine aw_goto (tgt := 177) hC dX12_faults_173 (by decide) ?_
                    refine aw_istore (L2 := [some (.ref 44), some (.int (nI s)), some (.int (I 46 s)), some (.int (bI (decide ((I 45 s) = 5 ∨ (I 45 s) = 6)))), some (.int 1)]) hC dX12_faults_177 (by decide) rfl ?_
                    refine aw_iload hC dX12_faults_179 rfl ?_
                    refine aw_if_eq (tgt := 188) hC dX12_faults_181 (by decide) (fun h45 => absurd h45 (by decide)) (fun _ => ?_)
                    show AW X 0 0 184 [some (.ref 44), some (.int (nI s)), some (.int (I 46 s)), some (.int (bI (decide ((I 45 s) = 5 ∨ (I 45 s) = 6)))), some (.int 1)] [] T I J R
                    refine aw_iconst (v := 0) hC dX12_faults_184 (by decide) ?_
                    refine aw_goto (tgt := 189) hC dX12_faults_185 (by decide) ?_
                    exact aw_ireturn hC hq rfl dX12_faults_189 a_le a_le (aPure_i (by clear hC hq; (try simp only [bI_e0, bI_n0, decide_eq_false_iff_not, decide_eq_true_eq, Classical.not_not] at *); unfold mFault; grind))
                  · show AW X 0 0 149 [some (.ref 44), some (.int (nI s)), some (.int (I 46 s)), some (.int (bI (decide ((I 45 s) = 5 ∨ (I 45 s) = 6)))), some (.int 0)] [] T I J R
                    refine aw_aload_n hC dX12_faults_149 rfl ?_
                    refine aw_getI hC dX12_faults_150 aF_X12_193 rfl (tg_44 hT) ?_
                    refine aw_aload_n hC dX12_faults_153 rfl ?_
                    refine aw_getR hC dX12_faults_154 aF_X12_44 rfl (tg_44 hT) (pr_44_12 hR) ?_
                    refine aw_bipush (v := 10) hC dX12_faults_157 (by decide) ?_
                    refine aw_aload_n hC dX12_faults_159 rfl ?_
                    refine aw_getR hC dX12_faults_160 aF_X12_22 rfl (tg_44 hT) (pr_44_5 hR) ?_
                    refine aw_iload_n hC dX12_faults_163 rfl ?_
                    refine aw_iaload_k (j := s) hC dX12_faults_164 (tg_49 hT) (nI_clamp (by omega)) (vp_in_nI (by omega) (by decide)) ?_
                    refine aw_imul hC dX12_faults_165 ?_
                    refine aw_iload_n hC dX12_faults_166 rfl ?_
                    refine aw_iadd hC dX12_faults_167 ?_
                    refine aw_iaload_k (j := ((10 * (I 49 s)) + (I 46 s)).toNatClampNeg) hC dX12_faults_168 (tg_56 hT) rfl (hfl (Int32.not_lt.mp (by assumption))).2 ?_
                    refine aw_icmp_ge (tgt := 176) hC dX12_faults_169 (by decide) (fun h46 => ?_) (fun h46 => ?_)
                    · show AW X 0 0 176 [some (.ref 44), some (.int (nI s)), some (.int (I 46 s)), some (.int (bI (decide ((I 45 s) = 5 ∨ (I 45 s) = 6)))), some (.int 0)] [] T I J R
                      refine aw_iconst (v := 0) hC dX12_faults_176 (by decide) ?_
                      refine aw_istore (L2 := [some (.ref 44), some (.int (nI s)), some (.int (I 46 s)), some (.int (bI (decide ((I 45 s) = 5 ∨ (I 45 s) = 6)))), some (.int 0)]) hC dX12_faults_177 (by decide) rfl ?_
                      refine aw_iload hC dX12_faults_179 rfl ?_
                      refine aw_if_eq (tgt := 188) hC dX12_faults_181 (by decide) (fun _ => ?_) (fun h47 => absurd h47 (by decide))
                      show AW X 0 0 188 [some (.ref 44), some (.int (nI s)), some (.int (I 46 s)), some (.int (bI (decide ((I 45 s) = 5 ∨ (I 45 s) = 6)))), some (.int 0)] [] T I J R
                      refine aw_iconst (v := 3) hC dX12_faults_188 (by decide) ?_
                      exact aw_ireturn hC hq rfl dX12_faults_189 a_le a_le (aPure_i (by clear hC hq; (try simp only [bI_e0, bI_n0, decide_eq_false_iff_not, decide_eq_true_eq, Classical.not_not] at *); unfold mFault; grind))
                    · show AW X 0 0 172 [some (.ref 44), some (.int (nI s)), some (.int (I 46 s)), some (.int (bI (decide ((I 45 s) = 5 ∨ (I 45 s) = 6)))), some (.int 0)] [] T I J R
                      refine aw_iconst (v := 1) hC dX12_faults_172 (by decide) ?_
                      refine aw_goto (tgt := 177) hC dX12_faults_173 (by decide) ?_
                      refine aw_istore (L2 := [some (.ref 44), some (.int (nI s)), some (.int (I 46 s)), some (.int (bI (decide ((I 45 s) = 5 ∨ (I 45 s) = 6)))), some (.int 1)]) hC dX12_faults_177 (by decide) rfl ?_
                      refine aw_iload hC dX12_faults_179 rfl ?_
                      refine aw_if_eq (tgt := 188) hC dX12_faults_181 (by decide) (fun h48 => absurd h48 (by decide)) (fun _ => ?_)
                      show AW X 0 0 184 [some (.ref 44), some (.int (nI s)), some (.int (I 46 s)), some (.int (bI (decide ((I 45 s) = 5 ∨ (I 45 s) = 6)))), some (.int 1)] [] T I J R
                      refine aw_iconst (v := 0) hC dX12_faults_184 (by decide) ?_
                      refine aw_goto (tgt := 189) hC dX12_faults_185 (by decide) ?_
                      exact aw_ireturn hC hq rfl dX12_faults_189 a_le a_le (aPure_i (by clear hC hq; (try simp only [bI_e0, bI_n0, decide_eq_false_iff_not, decide_eq_true_eq, Classical.not_not] at *); unfold mFault; grind))
              · show AW X 0 0 106 [some (.ref 44), some (.int (nI s)), some (.int (I 46 s)), some (.int (bI (decide ((I 45 s) = 5 ∨ (I 45 s) = 6)))), none] [] T I J R
                refine aw_iconst (v := 1) hC dX12_faults_106 (by decide) ?_
                refine aw_goto (tgt := 111) hC dX12_faults_107 (by decide) ?_
                refine aw_istore (L2 := [some (.ref 44), some (.int (nI s)), some (.int (I 46 s)), some (.int (bI (decide ((I 45 s) = 5 ∨ (I 45 s) = 6)))), some (.int 1)]) hC dX12_faults_111 (by decide) rfl ?_
                refine aw_iload hC dX12_faults_113 rfl ?_
                refine aw_if_ne (tgt := 179) hC dX12_faults_115 (by decide) (fun _ => ?_) (fun h49 => absurd h49 (by decide))
                show AW X 0 0 179 [some (.ref 44), some (.int (nI s)), some (.int (I 46 s)), some (.int (bI (decide ((I 45 s) = 5 ∨ (I 45 s) = 6)))), some (.int 1)] [] T I J R
                refine aw_iload hC dX12_faults_179 rfl ?_
                refine aw_if_eq (tgt := 188) hC dX12_faults_181 (by decide) (fun h50 => absurd h50 (by decide)) (fun _ => ?_)
                show AW X 0 0 184 [some (.ref 44), some (.int (nI s)), some (.int (I 46 s)), some (.int (bI (decide ((I 45 s) = 5 ∨ (I 45 s) = 6)))), some (.int 1)] [] T I J R
                refine aw_iconst (v := 0) hC dX12_faults_184 (by decide) ?_
                refine aw_goto (tgt := 189) hC dX12_faults_185 (by decide) ?_
                exact aw_ireturn hC hq rfl dX12_faults_189 a_le a_le (aPure_i (by clear hC hq; (try simp only [bI_e0, bI_n0, decide_eq_false_iff_not, decide_eq_true_eq, Classical.not_not] at *); unfold mFault; grind))
          · show AW X 0 0 71 [some (.ref 44), some (.int (nI s)), some (.int (I 46 s)), some (.int (bI (decide ((I 45 s) = 5 ∨ (I 45 s) = 6)))), none] [] T I J R
            refine aw_aload_n hC dX12_faults_71 rfl ?_
            refine aw_aload_n hC dX12_faults_72 rfl ?_
            refine aw_getR hC dX12_faults_73 aF_X12_16 rfl (tg_44 hT) (pr_44_3 hR) ?_
            refine aw_iload_n hC dX12_faults_76 rfl ?_
            refine aw_iaload_k (j := s) hC dX12_faults_77 (tg_47 hT) (nI_clamp (by omega)) (vp_in_nI (by omega) (by decide)) ?_
            refine aw_iload_n hC dX12_faults_78 rfl ?_
            refine kX12_219 hC rfl (m_X12_isHidden hT hR (n := n) (s := s) hn hn30 (by omega) (I 47 s)) dX12_faults_79 (tg_44 hT) rfl a_le a_le a_le a_le a_le rfl aPure_x (aPure_k ?_)
            show AW X 0 0 82 [some (.ref 44), some (.int (nI s)), some (.int (I 46 s)), some (.int (bI (decide ((I 45 s) = 5 ∨ (I 45 s) = 6)))), none] [.int (bI (mHid I n (I 47 s) s))] T I J R
            refine aw_if_eq (tgt := 87) hC dX12_faults_82 (by decide) (fun h51 => ?_) (fun h51 => ?_)
            · show AW X 0 0 87 [some (.ref 44), some (.int (nI s)), some (.int (I 46 s)), some (.int (bI (decide ((I 45 s) = 5 ∨ (I 45 s) = 6)))), none] [] T I J R
              refine aw_aload_n hC dX12_faults_87 rfl ?_
              refine aw_getR hC dX12_faults_88 aF_X12_41 rfl (tg_44 hT) (pr_44_11 hR) ?_
              refine aw_iload_n hC dX12_faults_91 rfl ?_
              refine aw_iaload_k (j := (I 46 s).toNatClampNeg) hC dX12_faults_92 (tg_55 hT) rfl hf ?_
              refine aw_if_eq (tgt := 106) hC dX12_faults_93 (by decide) (fun h52 => ?_) (fun h52 => ?_)
              · show AW X 0 0 106 [some (.ref 44), some (.int (nI s)), some (.int (I 46 s)), some (.int (bI (decide ((I 45 s) = 5 ∨ (I 45 s) = 6)))), none] [] T I J R
                refine aw_iconst (v := 1) hC dX12_faults_106 (by decide) ?_
                refine aw_goto (tgt := 111) hC dX12_faults_107 (by decide) ?_
                refine aw_istore (L2 := [some (.ref 44), some (.int (nI s)), some (.int (I 46 s)), some (.int (bI (decide ((I 45 s) = 5 ∨ (I 45 s) = 6)))), some (.int 1)]) hC dX12_faults_111 (by decide) rfl ?_
                refine aw_iload hC dX12_faults_113 rfl ?_
                refine aw_if_ne (tgt := 179) hC dX12_faults_115 (by decide) (fun _ => ?_) (fun h53 => absurd h53 (by decide))
                show AW X 0 0 179 [some (.ref 44), some (.int (nI s)), some (.int (I 46 s)), some (.int (bI (decide ((I 45 s) = 5 ∨ (I 45 s) = 6)))), some (.int 1)] [] T I J R
                refine aw_iload hC dX12_faults_179 rfl ?_
                refine aw_if_eq (tgt := 188) hC dX12_faults_181 (by decide) (fun h54 => absurd h54 (by decide)) (fun _ => ?_)
                show AW X 0 0 184 [some (.ref 44), some (.int (nI s)), some (.int (I 46 s)), some (.int (bI (decide ((I 45 s) = 5 ∨ (I 45 s) = 6)))), some (.int 1)] [] T I J R
                refine aw_iconst (v := 0) hC dX12_faults_184 (by decide) ?_
                refine aw_goto (tgt := 189) hC dX12_faults_185 (by decide) ?_
                exact aw_ireturn hC hq rfl dX12_faults_189 a_le a_le (aPure_i (by clear hC hq; (try simp only [bI_e0, bI_n0, decide_eq_false_iff_not, decide_eq_true_eq, Classical.not_not] at *); unfold mFault; grind))
              · show AW X 0 0 96 [some (.ref 44), some (.int (nI s)), some (.int (I 46 s)), some (.int (bI (decide ((I 45 s) = 5 ∨ (I 45 s) = 6)))), none] [] T I J R
                refine aw_aload_n hC dX12_faults_96 rfl ?_
                refine aw_getR hC dX12_faults_97 aF_X12_7 rfl (tg_44 hT) (pr_44_1 hR) ?_
                refine aw_iload_n hC dX12_faults_100 rfl ?_
                refine aw_iaload_k (j := s) hC dX12_faults_101 (tg_45 hT) (nI_clamp (by omega)) (vp_in_nI (by omega) (by decide)) ?_
                refine aw_iconst (v := 4) hC dX12_faults_102 (by decide) ?_
                refine aw_icmp_ne (tgt := 110) hC dX12_faults_103 (by decide) (fun h55 => ?_) (fun h55 => ?_)
                · show AW X 0 0 110 [some (.ref 44), some (.int (nI s)), some (.int (I 46 s)), some (.int (bI (decide ((I 45 s) = 5 ∨ (I 45 s) = 6)))), none] [] T I J R
                  refine aw_iconst (v := 0) hC dX12_faults_110 (by decide) ?_
                  refine aw_istore (L2 := [some (.ref 44), some (.int (nI s)), some (.int (I 46 s)), some (.int (bI (decide ((I 45 s) = 5 ∨ (I 45 s) = 6)))), some (.int 0)]) hC dX12_faults_111 (by decide) rfl ?_
                  refine aw_iload hC dX12_faults_113 rfl ?_
                  refine aw_if_ne (tgt := 179) hC dX12_faults_115 (by decide) (fun h56 => absurd h56 (by decide)) (fun _ => ?_)
                  show AW X 0 0 118 [some (.ref 44), some (.int (nI s)), some (.int (I 46 s)), some (.int (bI (decide ((I 45 s) = 5 ∨ (I 45 s) = 6)))), some (.int 0)] [] T I J R
                  refine aw_aload_n hC dX12_faults_118 rfl ?_
                  refine aw_getR hC dX12_faults_119 aF_X12_22 rfl (tg_44 hT) (pr_44_5 hR) ?_
                  refine aw_iload_n hC dX12_faults_122 rfl ?_
                  refine aw_iaload_k (j := s) hC dX12_faults_123 (tg_49 hT) (nI_clamp (by omega)) (vp_in_nI (by omega) (by decide)) ?_
                  refine aw_if_lt (tgt := 179) hC dX12_faults_124 (by decide) (fun h57 => ?_) (fun h57 => ?_)
                  · show AW X 0 0 179 [some (.ref 44), some (.int (nI s)), some (.int (I 46 s)), some (.int (bI (decide ((I 45 s) = 5 ∨ (I 45 s) = 6)))), some (.int 0)] [] T I J R
                    refine aw_iload hC dX12_faults_179 rfl ?_
                    refine aw_if_eq (tgt := 188) hC dX12_faults_181 (by decide) (fun _ => ?_) (fun h58 => absurd h58 (by decide))
                    show AW X 0 0 188 [some (.ref 44), some (.int (nI s)), some (.int (I 46 s)), some (.int (bI (decide ((I 45 s) = 5 ∨ (I 45 s) = 6)))), some (.int 0)] [] T I J R
                    refine aw_iconst (v := 3) hC dX12_faults_188 (by decide) ?_
                    exact aw_ireturn hC hq rfl dX12_faults_189 a_le a_le (aPure_i (by clear hC hq; (try simp only [bI_e0, bI_n0, decide_eq_false_iff_not, decide_eq_true_eq, Classical.not_not] at *); unfold mFault; grind))
                  · show AW X 0 0 127 [some (.ref 44), some (.int (nI s)), some (.int (I 46 s)), some (.int (bI (decide ((I 45 s) = 5 ∨ (I 45 s) = 6)))), some (.int 0)] [] T I J R
                    refine aw_aload_n hC dX12_faults_127 rfl ?_
                    refine aw_getR hC dX12_faults_128 aF_X12_38 rfl (tg_44 hT) (pr_44_10 hR) ?_
                    refine aw_aload_n hC dX12_faults_131 rfl ?_
                    refine aw_getR hC dX12_faults_132 aF_X12_22 rfl (tg_44 hT) (pr_44_5 hR) ?_
                    refine aw_iload_n hC dX12_faults_135 rfl ?_
                    refine aw_iaload_k (j := s) hC dX12_faults_136 (tg_49 hT) (nI_clamp (by omega)) (vp_in_nI (by omega) (by decide)) ?_
                    refine aw_iaload_k (j := (I 49 s).toNatClampNeg) hC dX12_faults_137 (tg_54 hT) rfl (hfl (Int32.not_lt.mp (by assumption))).1 ?_
                    refine aw_aload_n hC dX12_faults_138 rfl ?_
                    refine aw_getR hC dX12_faults_139 aF_X12_41 rfl (tg_44 hT) (pr_44_11 hR) ?_
                    refine aw_iload_n hC dX12_faults_142 rfl ?_
                    refine aw_iaload_k (j := (I 46 s).toNatClampNeg) hC dX12_faults_143 (tg_55 hT) rfl hf ?_
                    refine aw_iconst (v := 1) hC dX12_faults_144 (by decide) ?_
                    refine aw_isub hC dX12_faults_145 ?_
                    refine aw_icmp_eq (tgt := 172) hC dX12_faults_146 (by decide) (fun h59 => ?_) (fun h59 => ?_)
                    · show AW X 0 0 172 [some (.ref 44), some (.int (nI s)), some (.int (I 46 s)), some (.int (bI (decide ((I 45 s) = 5 ∨ (I 45 s) = 6)))), some (.int 0)] [] T I J R
                      refine aw_iconst (v := 1) hC dX12_faults_172 (by decide) ?_
                      refine aw_goto (tgt := 177) hC dX12_faults_173 (by decide) ?_
                      refine aw_istore (L2 := [some (.ref 44), some (.int (nI s)), some (.int (I 46 s)), some (.int (bI (decide ((I 45 s) = 5 ∨ (I 45 s) = 6)))), some (.int 1)]) hC dX12_faults_177 (by decide) rfl ?_
                      refine aw_iload hC dX12_faults_179 rfl ?_
                      refine aw_if_eq (tgt := 188) hC dX12_faults_181 (by decide) (fun h60 => absurd h60 (by decide)) (fun _ => ?_)
                      show AW X 0 0 184 [some (.ref 44), some (.int (nI s)), some (.int (I 46 s)), some (.int (bI (decide ((I 45 s) = 5 ∨ (I 45 s) = 6)))), some (.int 1)] [] T I J R
                      refine aw_iconst (v := 0) hC dX12_faults_184 (by decide) ?_
                      refine aw_goto (tgt := 189) hC dX12_faults_185 (by decide) ?_
                      exact aw_ireturn hC hq rfl dX12_faults_189 a_le a_le (aPure_i (by clear hC hq; (try simp only [bI_e0, bI_n0, decide_eq_false_iff_not, decide_eq_true_eq, Classical.not_not] at *); unfold mFault; grind))
                    · show AW X 0 0 149 [some (.ref 44), some (.int (nI s)), some (.int (I 46 s)), some (.int (bI (decide ((I 45 s) = 5 ∨ (I 45 s) = 6)))), some (.int 0)] [] T I J R
                      refine aw_aload_n hC dX12_faults_149 rfl ?_
                      refine aw_getI hC dX12_faults_150 aF_X12_193 rfl (tg_44 hT) ?_
                      refine aw_aload_n hC dX12_faults_153 rfl ?_
                      refine aw_getR hC dX12_faults_154 aF_X12_44 rfl (tg_44 hT) (pr_44_12 hR) ?_
                      refine aw_bipush (v := 10) hC dX12_faults_157 (by decide) ?_
                      refine aw_aload_n hC dX12_faults_159 rfl ?_
                      refine aw_getR hC dX12_faults_160 aF_X12_22 rfl (tg_44 hT) (pr_44_5 hR) ?_
                      refine aw_iload_n hC dX12_faults_163 rfl ?_
                      refine aw_iaload_k (j := s) hC dX12_faults_164 (tg_49 hT) (nI_clamp (by omega)) (vp_in_nI (by omega) (by decide)) ?_
                      refine aw_imul hC dX12_faults_165 ?_
                      refine aw_iload_n hC dX12_faults_166 rfl ?_
                      refine aw_iadd hC dX12_faults_167 ?_
                      refine aw_iaload_k (j := ((10 * (I 49 s)) + (I 46 s)).toNatClampNeg) hC dX12_faults_168 (tg_56 hT) rfl (hfl (Int32.not_lt.mp (by assumption))).2 ?_
                      refine aw_icmp_ge (tgt := 176) hC dX12_faults_169 (by decide) (fun h61 => ?_) (fun h61 => ?_)
                      · show AW X 0 0 176 [some (.ref 44), some (.int (nI s)), some (.int (I 46 s)), some (.int (bI (decide ((I 45 s) = 5 ∨ (I 45 s) = 6)))), some (.int 0)] [] T I J R
                        refine aw_iconst (v := 0) hC dX12_faults_176 (by decide) ?_
                        refine aw_istore (L2 := [some (.ref 44), some (.int (nI s)), some (.int (I 46 s)), some (.int (bI (decide ((I 45 s) = 5 ∨ (I 45 s) = 6)))), some (.int 0)]) hC dX12_faults_177 (by decide) rfl ?_
                        refine aw_iload hC dX12_faults_179 rfl ?_
                        refine aw_if_eq (tgt := 188) hC dX12_faults_181 (by decide) (fun _ => ?_) (fun h62 => absurd h62 (by decide))
                        show AW X 0 0 188 [some (.ref 44), some (.int (nI s)), some (.int (I 46 s)), some (.int (bI (decide ((I 45 s) = 5 ∨ (I 45 s) = 6)))), some (.int 0)] [] T I J R
                        refine aw_iconst (v := 3) hC dX12_faults_188 (by decide) ?_
                        exact aw_ireturn hC hq rfl dX12_faults_189 a_le a_le (aPure_i (by clear hC hq; (try simp only [bI_e0, bI_n0, decide_eq_false_iff_not, decide_eq_true_eq, Classical.not_not] at *); unfold mFault; grind))
                      · show AW X 0 0 172 [some (.ref 44), some (.int (nI s)), some (.int (I 46 s)), some (.int (bI (decide ((I 45 s) = 5 ∨ (I 45 s) = 6)))), some (.int 0)] [] T I J R
                        refine aw_iconst (v := 1) hC dX12_faults_172 (by decide) ?_
                        refine aw_goto (tgt := 177) hC dX12_faults_173 (by decide) ?_
                        refine aw_istore (L2 := [some (.ref 44), some (.int (nI s)), some (.int (I 46 s)), some (.int (bI (decide ((I 45 s) = 5 ∨ (I 45 s) = 6)))), some (.int 1)]) hC dX12_faults_177 (by decide) rfl ?_
                        refine aw_iload hC dX12_faults_179 rfl ?_
                        refine aw_if_eq (tgt := 188) hC dX12_faults_181 (by decide) (fun h63 => absurd h63 (by decide)) (fun _ => ?_)
                        show AW X 0 0 184 [some (.ref 44), some (.int (nI s)), some (.int (I 46 s)), some (.int (bI (decide ((I 45 s) = 5 ∨ (I 45 s) = 6)))), some (.int 1)] [] T I J R
                        refine aw_iconst (v := 0) hC dX12_faults_184 (by decide) ?_
                        refine aw_goto (tgt := 189) hC dX12_faults_185 (by decide) ?_
                        exact aw_ireturn hC hq rfl dX12_faults_189 a_le a_le (aPure_i (by clear hC hq; (try simp only [bI_e0, bI_n0, decide_eq_false_iff_not, decide_eq_true_eq, Classical.not_not] at *); unfold mFault; grind))
                · show AW X 0 0 106 [some (.ref 44), some (.int (nI s)), some (.int (I 46 s)), some (.int (bI (decide ((I 45 s) = 5 ∨ (I 45 s) = 6)))), none] [] T I J R
                  refine aw_iconst (v := 1) hC dX12_faults_106 (by decide) ?_
                  refine aw_goto (tgt := 111) hC dX12_faults_107 (by decide) ?_
                  refine aw_istore (L2 := [some (.ref 44), some (.int (nI s)), some (.int (I 46 s)), some (.int (bI (decide ((I 45 s) = 5 ∨ (I 45 s) = 6)))), some (.int 1)]) hC dX12_faults_111 (by decide) rfl ?_
                  refine aw_iload hC dX12_faults_113 rfl ?_
                  refine aw_if_ne (tgt := 179) hC dX12_faults_115 (by decide) (fun _ => ?_) (fun h64 => absurd h64 (by decide))
                  show AW X 0 0 179 [some (.ref 44), some (.int (nI s)), some (.int (I 46 s)), some (.int (bI (decide ((I 45 s) = 5 ∨ (I 45 s) = 6)))), some (.int 1)] [] T I J R
                  refine aw_iload hC dX12_faults_179 rfl ?_
                  refine aw_if_eq (tgt := 188) hC dX12_faults_181 (by decide) (fun h65 => absurd h65 (by decide)) (fun _ => ?_)
                  show AW X 0 0 184 [some (.ref 44), some (.int (nI s)), some (.int (I 46 s)), some (.int (bI (decide ((I 45 s) = 5 ∨ (I 45 s) = 6)))), some (.int 1)] [] T I J R
                  refine aw_iconst (v := 0) hC dX12_faults_184 (by decide) ?_
                  refine aw_goto (tgt := 189) hC dX12_faults_185 (by decide) ?_
                  exact aw_ireturn hC hq rfl dX12_faults_189 a_le a_le (aPure_i (by clear hC hq; (try simp only [bI_e0, bI_n0, decide_eq_false_iff_not, decide_eq_true_eq, Classical.not_not] at *); unfold mFault; grind))
            · show AW X 0 0 85 [some (.ref 44), some (.int (nI s)), some (.int (I 46 s)), some (.int (bI (decide ((I 45 s) = 5 ∨ (I 45 s) = 6)))), none] [] T I J R
              refine aw_iconst (v := 2) hC dX12_faults_85 (by decide) ?_
              exact aw_ireturn hC hq rfl dX12_faults_86 a_le a_le (aPure_i (by clear hC hq; (try simp only [bI_e0, bI_n0, decide_eq_false_iff_not, decide_eq_true_eq, Classical.not_not] at *); unfold mFault; grind))
      · show AW X 0 0 41 [some (.ref 44), some (.int (nI s)), some (.int (I 46 s)), some (.int (bI (decide ((I 45 s) = 5 ∨ (I 45 s) = 6)))), none] [] T I J R
        refine aw_aload_n hC dX12_faults_41 rfl ?_
        refine aw_bipush (v := 8) hC dX12_faults_42 (by decide) ?_
        refine aw_aload_n hC dX12_faults_44 rfl ?_
        refine aw_getR hC dX12_faults_45 aF_X12_16 rfl (tg_44 hT) (pr_44_3 hR) ?_
        refine aw_iload_n hC dX12_faults_48 rfl ?_
        refine aw_iaload_k (j := s) hC dX12_faults_49 (tg_47 hT) (nI_clamp (by omega)) (vp_in_nI (by omega) (by decide)) ?_
        refine kX12_216 hC rfl (m_X12_isTold hT hR (n := n) hn hn30 (8 : Int32) (I 47 s)) dX12_faults_50 (tg_44 hT) rfl a_le a_le a_le a_le a_le rfl aPure_x (aPure_k ?_)
        show AW X 0 0 53 [some (.ref 44), some (.int (nI s)), some (.int (I 46 s)), some (.int (bI (decide ((I 45 s) = 5 ∨ (I 45 s) = 6)))), none] [.int (bI (mTold I n (8 : Int32) (I 47 s)))] T I J R
        refine aw_if_ne (tgt := 58) hC dX12_faults_53 (by decide) (fun h66 => ?_) (fun h66 => ?_)
        · show AW X 0 0 58 [some (.ref 44), some (.int (nI s)), some (.int (I 46 s)), some (.int (bI (decide ((I 45 s) = 5 ∨ (I 45 s) = 6)))), none] [] T I J R
          refine aw_aload_n hC dX12_faults_58 rfl ?_
          refine aw_iload_n hC dX12_faults_59 rfl ?_
          refine aw_iload_n hC dX12_faults_60 rfl ?_
          refine kX12_219 hC rfl (m_X12_isHidden hT hR (n := n) (s := s) hn hn30 (by omega) (I 46 s)) dX12_faults_61 (tg_44 hT) rfl a_le a_le a_le a_le a_le rfl aPure_x (aPure_k ?_)
          show AW X 0 0 64 [some (.ref 44), some (.int (nI s)), some (.int (I 46 s)), some (.int (bI (decide ((I 45 s) = 5 ∨ (I 45 s) = 6)))), none] [.int (bI (mHid I n (I 46 s) s))] T I J R
          refine aw_if_ne (tgt := 85) hC dX12_faults_64 (by decide) (fun h67 => ?_) (fun h67 => ?_)
          · show AW X 0 0 85 [some (.ref 44), some (.int (nI s)), some (.int (I 46 s)), some (.int (bI (decide ((I 45 s) = 5 ∨ (I 45 s) = 6)))), none] [] T I J R
            refine aw_iconst (v := 2) hC dX12_faults_85 (by decide) ?_
            exact aw_ireturn hC hq rfl dX12_faults_86 a_le a_le (aPure_i (by clear hC hq; (try simp only [bI_e0, bI_n0, decide_eq_false_iff_not, decide_eq_true_eq, Classical.not_not] at *); unfold mFault; grind))
          · show AW X 0 0 67 [some (.ref 44), some (.int (nI s)), some (.int (I 46 s)), some (.int (bI (decide ((I 45 s) = 5 ∨ (I 45 s) = 6)))), none] [] T I J R
            refine aw_iload_n hC dX12_faults_67 rfl ?_
            refine aw_if_eq (tgt := 87) hC dX12_faults_68 (by decide) (fun h68 => ?_) (fun h68 => ?_)
            · show AW X 0 0 87 [some (.ref 44), some (.int (nI s)), some (.int (I 46 s)), some (.int (bI (decide ((I 45 s) = 5 ∨ (I 45 s) = 6)))), none] [] T I J R
              refine aw_aload_n hC dX12_faults_87 rfl ?_
              refine aw_getR hC dX12_faults_88 aF_X12_41 rfl (tg_44 hT) (pr_44_11 hR) ?_
              refine aw_iload_n hC dX12_faults_91 rfl ?_
              refine aw_iaload_k (j := (I 46 s).toNatClampNeg) hC dX12_faults_92 (tg_55 hT) rfl hf ?_
              refine aw_if_eq (tgt := 106) hC dX12_faults_93 (by decide) (fun h69 => ?_) (fun h69 => ?_)
              · show AW X 0 0 106 [some (.ref 44), some (.int (nI s)), some (.int (I 46 s)), some (.int (bI (decide ((I 45 s) = 5 ∨ (I 45 s) = 6)))), none] [] T I J R
                refine aw_iconst (v := 1) hC dX12_faults_106 (by decide) ?_
                refine aw_goto (tgt := 111) hC dX12_faults_107 (by decide) ?_
                refine aw_istore (L2 := [some (.ref 44), some (.int (nI s)), some (.int (I 46 s)), some (.int (bI (decide ((I 45 s) = 5 ∨ (I 45 s) = 6)))), some (.int 1)]) hC dX12_faults_111 (by decide) rfl ?_
                refine aw_iload hC dX12_faults_113 rfl ?_
                refine aw_if_ne (tgt := 179) hC dX12_faults_115 (by decide) (fun _ => ?_) (fun h70 => absurd h70 (by decide))
                show AW X 0 0 179 [some (.ref 44), some (.int (nI s)), some (.int (I 46 s)), some (.int (bI (decide ((I 45 s) = 5 ∨ (I 45 s) = 6)))), some (.int 1)] [] T I J R
                refine aw_iload hC dX12_faults_179 rfl ?_
                refine aw_if_eq (tgt := 188) hC dX12_faults_181 (by decide) (fun h71 => absurd h71 (by decide)) (fun _ => ?_)
                show AW X 0 0 184 [some (.ref 44), some (.int (nI s)), some (.int (I 46 s)), some (.int (bI (decide ((I 45 s) = 5 ∨ (I 45 s) = 6)))), some (.int 1)] [] T I J R
                refine aw_iconst (v := 0) hC dX12_faults_184 (by decide) ?_
                refine aw_goto (tgt := 189) hC dX12_faults_185 (by decide) ?_
                exact aw_ireturn hC hq rfl dX12_faults_189 a_le a_le (aPure_i (by clear hC hq; (try simp only [bI_e0, bI_n0, decide_eq_false_iff_not, decide_eq_true_eq, Classical.not_not] at *); unfold mFault; grind))
              · show AW X 0 0 96 [some (.ref 44), some (.int (nI s)), some (.int (I 46 s)), some (.int (bI (decide ((I 45 s) = 5 ∨ (I 45 s) = 6)))), none] [] T I J R
                refine aw_aload_n hC dX12_faults_96 rfl ?_
                refine aw_getR hC dX12_faults_97 aF_X12_7 rfl (tg_44 hT) (pr_44_1 hR) ?_
                refine aw_iload_n hC dX12_faults_100 rfl ?_
                refine aw_iaload_k (j := s) hC dX12_faults_101 (tg_45 hT) (nI_clamp (by omega)) (vp_in_nI (by omega) (by decide)) ?_
                refine aw_iconst (v := 4) hC dX12_faults_102 (by decide) ?_
                refine aw_icmp_ne (tgt := 110) hC dX12_faults_103 (by decide) (fun h72 => ?_) (fun h72 => ?_)
                · show AW X 0 0 110 [some (.ref 44), some (.int (nI s)), some (.int (I 46 s)), some (.int (bI (decide ((I 45 s) = 5 ∨ (I 45 s) = 6)))), none] [] T I J R
                  refine aw_iconst (v := 0) hC dX12_faults_110 (by decide) ?_
                  refine aw_istore (L2 := [some (.ref 44), some (.int (nI s)), some (.int (I 46 s)), some (.int (bI (decide ((I 45 s) = 5 ∨ (I 45 s) = 6)))), some (.int 0)]) hC dX12_faults_111 (by decide) rfl ?_
                  refine aw_iload hC dX12_faults_113 rfl ?_
                  refine aw_if_ne (tgt := 179) hC dX12_faults_115 (by decide) (fun h73 => absurd h73 (by decide)) (fun _ => ?_)
                  show AW X 0 0 118 [some (.ref 44), some (.int (nI s)), some (.int (I 46 s)), some (.int (bI (decide ((I 45 s) = 5 ∨ (I 45 s) = 6)))), some (.int 0)] [] T I J R
                  refine aw_aload_n hC dX12_faults_118 rfl ?_
                  refine aw_getR hC dX12_faults_119 aF_X12_22 rfl (tg_44 hT) (pr_44_5 hR) ?_
                  refine aw_iload_n hC dX12_faults_122 rfl ?_
                  refine aw_iaload_k (j := s) hC dX12_faults_123 (tg_49 hT) (nI_clamp (by omega)) (vp_in_nI (by omega) (by decide)) ?_
                  refine aw_if_lt (tgt := 179) hC dX12_faults_124 (by decide) (fun h74 => ?_) (fun h74 => ?_)
                  · show AW X 0 0 179 [some (.ref 44), some (.int (nI s)), some (.int (I 46 s)), some (.int (bI (decide ((I 45 s) = 5 ∨ (I 45 s) = 6)))), some (.int 0)] [] T I J R
                    refine aw_iload hC dX12_faults_179 rfl ?_
                    refine aw_if_eq (tgt := 188) hC dX12_faults_181 (by decide) (fun _ => ?_) (fun h75 => absurd h75 (by decide))
                    show AW X 0 0 188 [some (.ref 44), some (.int (nI s)), some (.int (I 46 s)), some (.int (bI (decide ((I 45 s) = 5 ∨ (I 45 s) = 6)))), some (.int 0)] [] T I J R
                    refine aw_iconst (v := 3) hC dX12_faults_188 (by decide) ?_
                    exact aw_ireturn hC hq rfl dX12_faults_189 a_le a_le (aPure_i (by clear hC hq; (try simp only [bI_e0, bI_n0, decide_eq_false_iff_not, decide_eq_true_eq, Classical.not_not] at *); unfold mFault; grind))
                  · show AW X 0 0 127 [some (.ref 44), some (.int (nI s)), some (.int (I 46 s)), some (.int (bI (decide ((I 45 s) = 5 ∨ (I 45 s) = 6)))), some (.int 0)] [] T I J R
                    refine aw_aload_n hC dX12_faults_127 rfl ?_
                    refine aw_getR hC dX12_faults_128 aF_X12_38 rfl (tg_44 hT) (pr_44_10 hR) ?_
                    refine aw_aload_n hC dX12_faults_131 rfl ?_
                    refine aw_getR hC dX12_faults_132 aF_X12_22 rfl (tg_44 hT) (pr_44_5 hR) ?_
                    refine aw_iload_n hC dX12_faults_135 rfl ?_
                    refine aw_iaload_k (j := s) hC dX12_faults_136 (tg_49 hT) (nI_clamp (by omega)) (vp_in_nI (by omega) (by decide)) ?_
                    refine aw_iaload_k (j := (I 49 s).toNatClampNeg) hC dX12_faults_137 (tg_54 hT) rfl (hfl (Int32.not_lt.mp (by assumption))).1 ?_
                    refine aw_aload_n hC dX12_faults_138 rfl ?_
                    refine aw_getR hC dX12_faults_139 aF_X12_41 rfl (tg_44 hT) (pr_44_11 hR) ?_
                    refine aw_iload_n hC dX12_faults_142 rfl ?_
                    refine aw_iaload_k (j := (I 46 s).toNatClampNeg) hC dX12_faults_143 (tg_55 hT) rfl hf ?_
                    refine aw_iconst (v := 1) hC dX12_faults_144 (by decide) ?_
                    refine aw_isub hC dX12_faults_145 ?_
                    refine aw_icmp_eq (tgt := 172) hC dX12_faults_146 (by decide) (fun h76 => ?_) (fun h76 => ?_)
                    · show AW X 0 0 172 [some (.ref 44), some (.int (nI s)), some (.int (I 46 s)), some (.int (bI (decide ((I 45 s) = 5 ∨ (I 45 s) = 6)))), some (.int 0)] [] T I J R
                      refine aw_iconst (v := 1) hC dX12_faults_172 (by decide) ?_
                      refine aw_goto (tgt := 177) hC dX12_faults_173 (by decide) ?_
                      refine aw_istore (L2 := [some (.ref 44), some (.int (nI s)), some (.int (I 46 s)), some (.int (bI (decide ((I 45 s) = 5 ∨ (I 45 s) = 6)))), some (.int 1)]) hC dX12_faults_177 (by decide) rfl ?_
                      refine aw_iload hC dX12_faults_179 rfl ?_
                      refine aw_if_eq (tgt := 188) hC dX12_faults_181 (by decide) (fun h77 => absurd h77 (by decide)) (fun _ => ?_)
                      show AW X 0 0 184 [some (.ref 44), some (.int (nI s)), some (.int (I 46 s)), some (.int (bI (decide ((I 45 s) = 5 ∨ (I 45 s) = 6)))), some (.int 1)] [] T I J R
                      refine aw_iconst (v := 0) hC dX12_faults_184 (by decide) ?_
                      refine aw_goto (tgt := 189) hC dX12_faults_185 (by decide) ?_
                      exact aw_ireturn hC hq rfl dX12_faults_189 a_le a_le (aPure_i (by clear hC hq; (try simp only [bI_e0, bI_n0, decide_eq_false_iff_not, decide_eq_true_eq, Classical.not_not] at *); unfold mFault; grind))
                    · show AW X 0 0 149 [some (.ref 44), some (.int (nI s)), some (.int (I 46 s)), some (.int (bI (decide ((I 45 s) = 5 ∨ (I 45 s) = 6)))), some (.int 0)] [] T I J R
                      refine aw_aload_n hC dX12_faults_149 rfl ?_
                      refine aw_getI hC dX12_faults_150 aF_X12_193 rfl (tg_44 hT) ?_
                      refine aw_aload_n hC dX12_faults_153 rfl ?_
                      refine aw_getR hC dX12_faults_154 aF_X12_44 rfl (tg_44 hT) (pr_44_12 hR) ?_
                      refine aw_bipush (v := 10) hC dX12_faults_157 (by decide) ?_
                      refine aw_aload_n hC dX12_faults_159 rfl ?_
                      refine aw_getR hC dX12_faults_160 aF_X12_22 rfl (tg_44 hT) (pr_44_5 hR) ?_
                      refine aw_iload_n hC dX12_faults_163 rfl ?_
                      refine aw_iaload_k (j := s) hC dX12_faults_164 (tg_49 hT) (nI_clamp (by omega)) (vp_in_nI (by omega) (by decide)) ?_
                      refine aw_imul hC dX12_faults_165 ?_
                      refine aw_iload_n hC dX12_faults_166 rfl ?_
                      refine aw_iadd hC dX12_faults_167 ?_
                      refine aw_iaload_k (j := ((10 * (I 49 s)) + (I 46 s)).toNatClampNeg) hC dX12_faults_168 (tg_56 hT) rfl (hfl (Int32.not_lt.mp (by assumption))).2 ?_
                      refine aw_icmp_ge (tgt := 176) hC dX12_faults_169 (by decide) (fun h78 => ?_) (fun h78 => ?_)
                      · show AW X 0 0 176 [some (.ref 44), some (.int (nI s)), some (.int (I 46 s)), some (.int (bI (decide ((I 45 s) = 5 ∨ (I 45 s) = 6)))), some (.int 0)] [] T I J R
                        refine aw_iconst (v := 0) hC dX12_faults_176 (by decide) ?_
                        refine aw_istore (L2 := [some (.ref 44), some (.int (nI s)), some (.int (I 46 s)), some (.int (bI (decide ((I 45 s) = 5 ∨ (I 45 s) = 6)))), some (.int 0)]) hC dX12_faults_177 (by decide) rfl ?_
                        refine aw_iload hC dX12_faults_179 rfl ?_
                        refine aw_if_eq (tgt := 188) hC dX12_faults_181 (by decide) (fun _ => ?_) (fun h79 => absurd h79 (by decide))
                        show AW X 0 0 188 [some (.ref 44), some (.int (nI s)), some (.int (I 46 s)), some (.int (bI (decide ((I 45 s) = 5 ∨ (I 45 s) = 6)))), some (.int 0)] [] T I J R
                        refine aw_iconst (v := 3) hC dX12_faults_188 (by decide) ?_
                        exact aw_ireturn hC hq rfl dX12_faults_189 a_le a_le (aPure_i (by clear hC hq; (try simp only [bI_e0, bI_n0, decide_eq_false_iff_not, decide_eq_true_eq, Classical.not_not] at *); unfold mFault; grind))
                      · show AW X 0 0 172 [some (.ref 44), some (.int (nI s)), some (.int (I 46 s)), some (.int (bI (decide ((I 45 s) = 5 ∨ (I 45 s) = 6)))), some (.int 0)] [] T I J R
                        refine aw_iconst (v := 1) hC dX12_faults_172 (by decide) ?_
                        refine aw_goto (tgt := 177) hC dX12_faults_173 (by decide) ?_
                        refine aw_istore (L2 := [some (.ref 44), some (.int (nI s)), some (.int (I 46 s)), some (.int (bI (decide ((I 45 s) = 5 ∨ (I 45 s) = 6)))), some (.int 1)]) hC dX12_faults_177 (by decide) rfl ?_
                        refine aw_iload hC dX12_faults_179 rfl ?_
                        refine aw_if_eq (tgt := 188) hC dX12_faults_181 (by decide) (fun h80 => absurd h80 (by decide)) (fun _ => ?_)
                        show AW X 0 0 184 [some (.ref 44), some (.int (nI s)), some (.int (I 46 s)), some (.int (bI (decide ((I 45 s) = 5 ∨ (I 45 s) = 6)))), some (.int 1)] [] T I J R
                        refine aw_iconst (v := 0) hC dX12_faults_184 (by decide) ?_
                        refine aw_goto (tgt := 189) hC dX12_faults_185 (by decide) ?_
                        exact aw_ireturn hC hq rfl dX12_faults_189 a_le a_le (aPure_i (by clear hC hq; (try simp only [bI_e0, bI_n0, decide_eq_false_iff_not, decide_eq_true_eq, Classical.not_not] at *); unfold mFault; grind))
                · show AW X 0 0 106 [some (.ref 44), some (.int (nI s)), some (.int (I 46 s)), some (.int (bI (decide ((I 45 s) = 5 ∨ (I 45 s) = 6)))), none] [] T I J R
                  refine aw_iconst (v := 1) hC dX12_faults_106 (by decide) ?_
                  refine aw_goto (tgt := 111) hC dX12_faults_107 (by decide) ?_
                  refine aw_istore (L2 := [some (.ref 44), some (.int (nI s)), some (.int (I 46 s)), some (.int (bI (decide ((I 45 s) = 5 ∨ (I 45 s) = 6)))), some (.int 1)]) hC dX12_faults_111 (by decide) rfl ?_
                  refine aw_iload hC dX12_faults_113 rfl ?_
                  refine aw_if_ne (tgt := 179) hC dX12_faults_115 (by decide) (fun _ => ?_) (fun h81 => absurd h81 (by decide))
                  show AW X 0 0 179 [some (.ref 44), some (.int (nI s)), some (.int (I 46 s)), some (.int (bI (decide ((I 45 s) = 5 ∨ (I 45 s) = 6)))), some (.int 1)] [] T I J R
                  refine aw_iload hC dX12_faults_179 rfl ?_
                  refine aw_if_eq (tgt := 188) hC dX12_faults_181 (by decide) (fun h82 => absurd h82 (by decide)) (fun _ => ?_)
                  show AW X 0 0 184 [some (.ref 44), some (.int (nI s)), some (.int (I 46 s)), some (.int (bI (decide ((I 45 s) = 5 ∨ (I 45 s) = 6)))), some (.int 1)] [] T I J R
                  refine aw_iconst (v := 0) hC dX12_faults_184 (by decide) ?_
                  refine aw_goto (tgt := 189) hC dX12_faults_185 (by decide) ?_
                  exact aw_ireturn hC hq rfl dX12_faults_189 a_le a_le (aPure_i (by clear hC hq; (try simp only [bI_e0, bI_n0, decide_eq_false_iff_not, decide_eq_true_eq, Classical.not_not] at *); unfold mFault; grind))
            · show AW X 0 0 71 [some (.ref 44), some (.int (nI s)), some (.int (I 46 s)), some (.int (bI (decide ((I 45 s) = 5 ∨ (I 45 s) = 6)))), none] [] T I J R
              refine aw_aload_n hC dX12_faults_71 rfl ?_
              refine aw_aload_n hC dX12_faults_72 rfl ?_
              refine aw_getR hC dX12_faults_73 aF_X12_16 rfl (tg_44 hT) (pr_44_3 hR) ?_
              refine aw_iload_n hC dX12_faults_76 rfl ?_
              refine aw_iaload_k (j := s) hC dX12_faults_77 (tg_47 hT) (nI_clamp (by omega)) (vp_in_nI (by omega) (by decide)) ?_
              refine aw_iload_n hC dX12_faults_78 rfl ?_
              refine kX12_219 hC rfl (m_X12_isHidden hT hR (n := n) (s := s) hn hn30 (by omega) (I 47 s)) dX12_faults_79 (tg_44 hT) rfl a_le a_le a_le a_le a_le rfl aPure_x (aPure_k ?_)
              show AW X 0 0 82 [some (.ref 44), some (.int (nI s)), some (.int (I 46 s)), some (.int (bI (decide ((I 45 s) = 5 ∨ (I 45 s) = 6)))), none] [.int (bI (mHid I n (I 47 s) s))] T I J R
              refine aw_if_eq (tgt := 87) hC dX12_faults_82 (by decide) (fun h83 => ?_) (fun h83 => ?_)
              · show AW X 0 0 87 [some (.ref 44), some (.int (nI s)), some (.int (I 46 s)), some (.int (bI (decide ((I 45 s) = 5 ∨ (I 45 s) = 6)))), none] [] T I J R
                refine aw_aload_n hC dX12_faults_87 rfl ?_
                refine aw_getR hC dX12_faults_88 aF_X12_41 rfl (tg_44 hT) (pr_44_11 hR) ?_
                refine aw_iload_n hC dX12_faults_91 rfl ?_
                refine aw_iaload_k (j := (I 46 s).toNatClampNeg) hC dX12_faults_92 (tg_55 hT) rfl hf ?_
                refine aw_if_eq (tgt := 106) hC dX12_faults_93 (by decide) (fun h84 => ?_) (fun h84 => ?_)
                · show AW X 0 0 106 [some (.ref 44), some (.int (nI s)), some (.int (I 46 s)), some (.int (bI (decide ((I 45 s) = 5 ∨ (I 45 s) = 6)))), none] [] T I J R
                  refine aw_iconst (v := 1) hC dX12_faults_106 (by decide) ?_
                  refine aw_goto (tgt := 111) hC dX12_faults_107 (by decide) ?_
                  refine aw_istore (L2 := [some (.ref 44), some (.int (nI s)), some (.int (I 46 s)), some (.int (bI (decide ((I 45 s) = 5 ∨ (I 45 s) = 6)))), some (.int 1)]) hC dX12_faults_111 (by decide) rfl ?_
                  refine aw_iload hC dX12_faults_113 rfl ?_
                  refine aw_if_ne (tgt := 179) hC dX12_faults_115 (by decide) (fun _ => ?_) (fun h85 => absurd h85 (by decide))
                  show AW X 0 0 179 [some (.ref 44), some (.int (nI s)), some (.int (I 46 s)), some (.int (bI (decide ((I 45 s) = 5 ∨ (I 45 s) = 6)))), some (.int 1)] [] T I J R
                  refine aw_iload hC dX12_faults_179 rfl ?_
                  refine aw_if_eq (tgt := 188) hC dX12_faults_181 (by decide) (fun h86 => absurd h86 (by decide)) (fun _ => ?_)
                  show AW X 0 0 184 [some (.ref 44), some (.int (nI s)), some (.int (I 46 s)), some (.int (bI (decide ((I 45 s) = 5 ∨ (I 45 s) = 6)))), some (.int 1)] [] T I J R
                  refine aw_iconst (v := 0) hC dX12_faults_184 (by decide) ?_
                  refine aw_goto (tgt := 189) hC dX12_faults_185 (by decide) ?_
                  exact aw_ireturn hC hq rfl dX12_faults_189 a_le a_le (aPure_i (by clear hC hq; (try simp only [bI_e0, bI_n0, decide_eq_false_iff_not, decide_eq_true_eq, Classical.not_not] at *); unfold mFault; grind))
                · show AW X 0 0 96 [some (.ref 44), some (.int (nI s)), some (.int (I 46 s)), some (.int (bI (decide ((I 45 s) = 5 ∨ (I 45 s) = 6)))), none] [] T I J R
                  refine aw_aload_n hC dX12_faults_96 rfl ?_
                  refine aw_getR hC dX12_faults_97 aF_X12_7 rfl (tg_44 hT) (pr_44_1 hR) ?_
                  refine aw_iload_n hC dX12_faults_100 rfl ?_
                  refine aw_iaload_k (j := s) hC dX12_faults_101 (tg_45 hT) (nI_clamp (by omega)) (vp_in_nI (by omega) (by decide)) ?_
                  refine aw_iconst (v := 4) hC dX12_faults_102 (by decide) ?_
                  refine aw_icmp_ne (tgt := 110) hC dX12_faults_103 (by decide) (fun h87 => ?_) (fun h87 => ?_)
                  · show AW X 0 0 110 [some (.ref 44), some (.int (nI s)), some (.int (I 46 s)), some (.int (bI (decide ((I 45 s) = 5 ∨ (I 45 s) = 6)))), none] [] T I J R
                    refine aw_iconst (v := 0) hC dX12_faults_110 (by decide) ?_
                    refine aw_istore (L2 := [some (.ref 44), some (.int (nI s)), some (.int (I 46 s)), some (.int (bI (decide ((I 45 s) = 5 ∨ (I 45 s) = 6)))), some (.int 0)]) hC dX12_faults_111 (by decide) rfl ?_
                    refine aw_iload hC dX12_faults_113 rfl ?_
                    refine aw_if_ne (tgt := 179) hC dX12_faults_115 (by decide) (fun h88 => absurd h88 (by decide)) (fun _ => ?_)
                    show AW X 0 0 118 [some (.ref 44), some (.int (nI s)), some (.int (I 46 s)), some (.int (bI (decide ((I 45 s) = 5 ∨ (I 45 s) = 6)))), some (.int 0)] [] T I J R
                    refine aw_aload_n hC dX12_faults_118 rfl ?_
                    refine aw_getR hC dX12_faults_119 aF_X12_22 rfl (tg_44 hT) (pr_44_5 hR) ?_
                    refine aw_iload_n hC dX12_faults_122 rfl ?_
                    refine aw_iaload_k (j := s) hC dX12_faults_123 (tg_49 hT) (nI_clamp (by omega)) (vp_in_nI (by omega) (by decide)) ?_
                    refine aw_if_lt (tgt := 179) hC dX12_faults_124 (by decide) (fun h89 => ?_) (fun h89 => ?_)
                    · show AW X 0 0 179 [some (.ref 44), some (.int (nI s)), some (.int (I 46 s)), some (.int (bI (decide ((I 45 s) = 5 ∨ (I 45 s) = 6)))), some (.int 0)] [] T I J R
                      refine aw_iload hC dX12_faults_179 rfl ?_
                      refine aw_if_eq (tgt := 188) hC dX12_faults_181 (by decide) (fun _ => ?_) (fun h90 => absurd h90 (by decide))
                      show AW X 0 0 188 [some (.ref 44), some (.int (nI s)), some (.int (I 46 s)), some (.int (bI (decide ((I 45 s) = 5 ∨ (I 45 s) = 6)))), some (.int 0)] [] T I J R
                      refine aw_iconst (v := 3) hC dX12_faults_188 (by decide) ?_
                      exact aw_ireturn hC hq rfl dX12_faults_189 a_le a_le (aPure_i (by clear hC hq; (try simp only [bI_e0, bI_n0, decide_eq_false_iff_not, decide_eq_true_eq, Classical.not_not] at *); unfold mFault; grind))
                    · show AW X 0 0 127 [some (.ref 44), some (.int (nI s)), some (.int (I 46 s)), some (.int (bI (decide ((I 45 s) = 5 ∨ (I 45 s) = 6)))), some (.int 0)] [] T I J R
                      refine aw_aload_n hC dX12_faults_127 rfl ?_
                      refine aw_getR hC dX12_faults_128 aF_X12_38 rfl (tg_44 hT) (pr_44_10 hR) ?_
                      refine aw_aload_n hC dX12_faults_131 rfl ?_
                      refine aw_getR hC dX12_faults_132 aF_X12_22 rfl (tg_44 hT) (pr_44_5 hR) ?_
                      refine aw_iload_n hC dX12_faults_135 rfl ?_
                      refine aw_iaload_k (j := s) hC dX12_faults_136 (tg_49 hT) (nI_clamp (by omega)) (vp_in_nI (by omega) (by decide)) ?_
                      refine aw_iaload_k (j := (I 49 s).toNatClampNeg) hC dX12_faults_137 (tg_54 hT) rfl (hfl (Int32.not_lt.mp (by assumption))).1 ?_
                      refine aw_aload_n hC dX12_faults_138 rfl ?_
                      refine aw_getR hC dX12_faults_139 aF_X12_41 rfl (tg_44 hT) (pr_44_11 hR) ?_
                      refine aw_iload_n hC dX12_faults_142 rfl ?_
                      refine aw_iaload_k (j := (I 46 s).toNatClampNeg) hC dX12_faults_143 (tg_55 hT) rfl hf ?_
                      refine aw_iconst (v := 1) hC dX12_faults_144 (by decide) ?_
                      refine aw_isub hC dX12_faults_145 ?_
                      refine aw_icmp_eq (tgt := 172) hC dX12_faults_146 (by decide) (fun h91 => ?_) (fun h91 => ?_)
                      · show AW X 0 0 172 [some (.ref 44), some (.int (nI s)), some (.int (I 46 s)), some (.int (bI (decide ((I 45 s) = 5 ∨ (I 45 s) = 6)))), some (.int 0)] [] T I J R
                        refine aw_iconst (v := 1) hC dX12_faults_172 (by decide) ?_
                        refine aw_goto (tgt := 177) hC dX12_faults_173 (by decide) ?_
                        refine aw_istore (L2 := [some (.ref 44), some (.int (nI s)), some (.int (I 46 s)), some (.int (bI (decide ((I 45 s) = 5 ∨ (I 45 s) = 6)))), some (.int 1)]) hC dX12_faults_177 (by decide) rfl ?_
                        refine aw_iload hC dX12_faults_179 rfl ?_
                        refine aw_if_eq (tgt := 188) hC dX12_faults_181 (by decide) (fun h92 => absurd h92 (by decide)) (fun _ => ?_)
                        show AW X 0 0 184 [some (.ref 44), some (.int (nI s)), some (.int (I 46 s)), some (.int (bI (decide ((I 45 s) = 5 ∨ (I 45 s) = 6)))), some (.int 1)] [] T I J R
                        refine aw_iconst (v := 0) hC dX12_faults_184 (by decide) ?_
                        refine aw_goto (tgt := 189) hC dX12_faults_185 (by decide) ?_
                        exact aw_ireturn hC hq rfl dX12_faults_189 a_le a_le (aPure_i (by clear hC hq; (try simp only [bI_e0, bI_n0, decide_eq_false_iff_not, decide_eq_true_eq, Classical.not_not] at *); unfold mFault; grind))
                      · show AW X 0 0 149 [some (.ref 44), some (.int (nI s)), some (.int (I 46 s)), some (.int (bI (decide ((I 45 s) = 5 ∨ (I 45 s) = 6)))), some (.int 0)] [] T I J R
                        refine aw_aload_n hC dX12_faults_149 rfl ?_
                        refine aw_getI hC dX12_faults_150 aF_X12_193 rfl (tg_44 hT) ?_
                        refine aw_aload_n hC dX12_faults_153 rfl ?_
                        refine aw_getR hC dX12_faults_154 aF_X12_44 rfl (tg_44 hT) (pr_44_12 hR) ?_
                        refine aw_bipush (v := 10) hC dX12_faults_157 (by decide) ?_
                        refine aw_aload_n hC dX12_faults_159 rfl ?_
                        refine aw_getR hC dX12_faults_160 aF_X12_22 rfl (tg_44 hT) (pr_44_5 hR) ?_
                        refine aw_iload_n hC dX12_faults_163 rfl ?_
                        refine aw_iaload_k (j := s) hC dX12_faults_164 (tg_49 hT) (nI_clamp (by omega)) (vp_in_nI (by omega) (by decide)) ?_
                        refine aw_imul hC dX12_faults_165 ?_
                        refine aw_iload_n hC dX12_faults_166 rfl ?_
                        refine aw_iadd hC dX12_faults_167 ?_
                        refine aw_iaload_k (j := ((10 * (I 49 s)) + (I 46 s)).toNatClampNeg) hC dX12_faults_168 (tg_56 hT) rfl (hfl (Int32.not_lt.mp (by assumption))).2 ?_
                        refine aw_icmp_ge (tgt := 176) hC dX12_faults_169 (by decide) (fun h93 => ?_) (fun h93 => ?_)
                        · show AW X 0 0 176 [some (.ref 44), some (.int (nI s)), some (.int (I 46 s)), some (.int (bI (decide ((I 45 s) = 5 ∨ (I 45 s) = 6)))), some (.int 0)] [] T I J R
                          refine aw_iconst (v := 0) hC dX12_faults_176 (by decide) ?_
                          refine aw_istore (L2 := [some (.ref 44), some (.int (nI s)), some (.int (I 46 s)), some (.int (bI (decide ((I 45 s) = 5 ∨ (I 45 s) = 6)))), some (.int 0)]) hC dX12_faults_177 (by decide) rfl ?_
                          refine aw_iload hC dX12_faults_179 rfl ?_
                          refine aw_if_eq (tgt := 188) hC dX12_faults_181 (by decide) (fun _ => ?_) (fun h94 => absurd h94 (by decide))
                          show AW X 0 0 188 [some (.ref 44), some (.int (nI s)), some (.int (I 46 s)), some (.int (bI (decide ((I 45 s) = 5 ∨ (I 45 s) = 6)))), some (.int 0)] [] T I J R
                          refine aw_iconst (v := 3) hC dX12_faults_188 (by decide) ?_
                          exact aw_ireturn hC hq rfl dX12_faults_189 a_le a_le (aPure_i (by clear hC hq; (try simp only [bI_e0, bI_n0, decide_eq_false_iff_not, decide_eq_true_eq, Classical.not_not] at *); unfold mFault; grind))
                        · show AW X 0 0 172 [some (.ref 44), some (.int (nI s)), some (.int (I 46 s)), some (.int (bI (decide ((I 45 s) = 5 ∨ (I 45 s) = 6)))), some (.int 0)] [] T I J R
                          refine aw_iconst (v := 1) hC dX12_faults_172 (by decide) ?_
                          refine aw_goto (tgt := 177) hC dX12_faults_173 (by decide) ?_
                          refine aw_istore (L2 := [some (.ref 44), some (.int (nI s)), some (.int (I 46 s)), some (.int (bI (decide ((I 45 s) = 5 ∨ (I 45 s) = 6)))), some (.int 1)]) hC dX12_faults_177 (by decide) rfl ?_
                          refine aw_iload hC dX12_faults_179 rfl ?_
                          refine aw_if_eq (tgt := 188) hC dX12_faults_181 (by decide) (fun h95 => absurd h95 (by decide)) (fun _ => ?_)
                          show AW X 0 0 184 [some (.ref 44), some (.int (nI s)), some (.int (I 46 s)), some (.int (bI (decide ((I 45 s) = 5 ∨ (I 45 s) = 6)))), some (.int 1)] [] T I J R
                          refine aw_iconst (v := 0) hC dX12_faults_184 (by decide) ?_
                          refine aw_goto (tgt := 189) hC dX12_faults_185 (by decide) ?_
                          exact aw_ireturn hC hq rfl dX12_faults_189 a_le a_le (aPure_i (by clear hC hq; (try simp only [bI_e0, bI_n0, decide_eq_false_iff_not, decide_eq_true_eq, Classical.not_not] at *); unfold mFault; grind))
                  · show AW X 0 0 106 [some (.ref 44), some (.int (nI s)), some (.int (I 46 s)), some (.int (bI (decide ((I 45 s) = 5 ∨ (I 45 s) = 6)))), none] [] T I J R
                    refine aw_iconst (v := 1) hC dX12_faults_106 (by decide) ?_
                    refine aw_goto (tgt := 111) hC dX12_faults_107 (by decide) ?_
                    refine aw_istore (L2 := [some (.ref 44), some (.int (nI s)), some (.int (I 46 s)), some (.int (bI (decide ((I 45 s) = 5 ∨ (I 45 s) = 6)))), some (.int 1)]) hC dX12_faults_111 (by decide) rfl ?_
                    refine aw_iload hC dX12_faults_113 rfl ?_
                    refine aw_if_ne (tgt := 179) hC dX12_faults_115 (by decide) (fun _ => ?_) (fun h96 => absurd h96 (by decide))
                    show AW X 0 0 179 [some (.ref 44), some (.int (nI s)), some (.int (I 46 s)), some (.int (bI (decide ((I 45 s) = 5 ∨ (I 45 s) = 6)))), some (.int 1)] [] T I J R
                    refine aw_iload hC dX12_faults_179 rfl ?_
                    refine aw_if_eq (tgt := 188) hC dX12_faults_181 (by decide) (fun h97 => absurd h97 (by decide)) (fun _ => ?_)
                    show AW X 0 0 184 [some (.ref 44), some (.int (nI s)), some (.int (I 46 s)), some (.int (bI (decide ((I 45 s) = 5 ∨ (I 45 s) = 6)))), some (.int 1)] [] T I J R
                    refine aw_iconst (v := 0) hC dX12_faults_184 (by decide) ?_
                    refine aw_goto (tgt := 189) hC dX12_faults_185 (by decide) ?_
                    exact aw_ireturn hC hq rfl dX12_faults_189 a_le a_le (aPure_i (by clear hC hq; (try simp only [bI_e0, bI_n0, decide_eq_false_iff_not, decide_eq_true_eq, Classical.not_not] at *); unfold mFault; grind))
              · show AW X 0 0 85 [some (.ref 44), some (.int (nI s)), some (.int (I 46 s)), some (.int (bI (decide ((I 45 s) = 5 ∨ (I 45 s) = 6)))), none] [] T I J R
                refine aw_iconst (v := 2) hC dX12_faults_85 (by decide) ?_
                exact aw_ireturn hC hq rfl dX12_faults_86 a_le a_le (aPure_i (by clear hC hq; (try simp only [bI_e0, bI_n0, decide_eq_false_iff_not, decide_eq_true_eq, Classical.not_not] at *); unfold mFault; grind))
        · show AW X 0 0 56 [some (.ref 44), some (.int (nI s)), some (.int (I 46 s)), some (.int (bI (decide ((I 45 s) = 5 ∨ (I 45 s) = 6)))), none] [] T I J R
          refine aw_iconst (v := 1) hC dX12_faults_56 (by decide) ?_
          exact aw_ireturn hC hq rfl dX12_faults_57 a_le a_le (aPure_i (by clear hC hq; (try simp only [bI_e0, bI_n0, decide_eq_false_iff_not, decide_eq_true_eq, Classical.not_not] at *); unfold mFault; grind))
