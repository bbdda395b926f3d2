def sDiff (I : aI) (J : aJ) (x a : Nat) : Prop := I 58 (3 * iN I 62 (x / 16) + a) &&& 2 = 0 ∧ sGives I J x a ≠ I 70 (3 * x + a) ∧ ¬ ((I 72 x >>> (nI a &&& 31)) &&& 1 = 1 ∧ 0 ≤ sGives I J x a ∧ sGives I J x a = I 73 (3 * x + a))
noncomputable def sDf (I : aI) (J : aJ) (x a : Nat) : Bool := @decide (sDiff I J x a) (Classical.propDecidable _)
theorem sDf_y {I : aI} {J : aJ} {x a : Nat} (h : sDiff I J x a) : (1 : Int32) = bI (sDf I J x a) := by simp [sDf, h, bI]
theorem sDf_n {I : aI} {J : aJ} {x a : Nat} (h : ¬ sDiff I J x a) : (0 : Int32) = bI (sDf I J x a) := by simp [sDf, h, bI]
theorem sDf_iff {I : aI} {J : aJ} {x a : Nat} : sDf I J x a = true ↔ sDiff I J x a := by simp [sDf]
set_option maxRecDepth 100000 in
theorem m_X12_differs {T : List aT} {I : aI} {J : aJ} {R : aR} (hT : aPT T) (hR : aPR R) {x a : Nat} (hx : x < 64) (ha : a < 3) (hs65 : SO2 I) (ht : NR I 62 4 3) (hu : NR I 61 3 3) : MX12_differs 0 0 [.ref 44, .int (nI x), .int (nI a)] T I J R (aPure (some (.int (bI (sDf I J x a)))) T I J R) := by
  refine a_met (by decide +kernel) a_le (fun X hC hq => ?_)
  show AW X 0 0 0 [some (.ref 44), some (.int (nI x)), some (.int (nI a)), none, none] [] T I J R
  refine aw_aload_n hC dX12_differs_0 rfl ?_
  refine aw_aload_n hC dX12_differs_1 rfl ?_
  refine aw_getR hC dX12_differs_2 aF_X12_62 rfl (tg_44 hT) (pr_44_21 hR) ?_
  refine aw_iload_n hC dX12_differs_5 rfl ?_
  refine aw_bipush (v := 16) hC dX12_differs_6 (by decide) ?_
  refine aw_idiv hC dX12_differs_8 (by decide) ?_
  rw [show (nI x) / 16 = nI (x / 16) from pk_div (a := x) (d := 16) (by omega) (by decide) (by decide)]
  refine aw_iaload_k (j := (x / 16)) hC dX12_differs_9 (tg_62 hT) (nI_clamp (by omega)) (vp_in_nI (by omega) (by decide)) ?_
  have hb1 := ht (x / 16) (by omega)
  rw [hb1.1]
  refine aw_iload_n hC dX12_differs_10 rfl ?_
  refine aw_iconst (v := 2) hC dX12_differs_11 (by decide) ?_
  refine kX12_330 hC rfl (m_X12_hasN hT hR (t := (iN I 62 (x / 16))) (a := a) (by omega) (by omega) (2 : Int32)) dX12_differs_12 (tg_44 hT) rfl a_le a_le a_le a_le a_le rfl aPure_x (aPure_k ?_)
  show AW X 0 0 15 [some (.ref 44), some (.int (nI x)), some (.int (nI a)), none, none] [.int (bI (decide (I 58 (3 * (iN I 62 (x / 16)) + a) &&& (2 : Int32) ≠ 0)))] T I J R
  refine aw_if_eq (tgt := 20) hC dX12_differs_15 (by decide) (fun h2 => ?_) (fun h2 => ?_)
  · show AW X 0 0 20 [some (.ref 44), some (.int (nI x)), some (.int (nI a)), none, none] [] T I J R
    refine aw_aload_n hC dX12_differs_20 rfl ?_
    refine aw_iload_n hC dX12_differs_21 rfl ?_
    refine aw_iload_n hC dX12_differs_22 rfl ?_
    refine kX12_346 hC rfl (m_X12_gives (I := I) (J := J) hT hR (x := x) (a := a) (by omega) (by omega) hs65 ht hu) dX12_differs_23 (tg_44 hT) rfl a_le a_le a_le a_le a_le rfl aPure_x (aPure_k ?_)
    show AW X 0 0 26 [some (.ref 44), some (.int (nI x)), some (.int (nI a)), none, none] [.int (sGives I J x a)] T I J R
    refine aw_istore_n (L2 := [some (.ref 44), some (.int (nI x)), some (.int (nI a)), some (.int (sGives I J x a)), none]) hC dX12_differs_26 rfl (by decide) rfl ?_
    refine aw_aload_n hC dX12_differs_27 rfl ?_
    refine aw_getR hC dX12_differs_28 aF_X12_92 rfl (tg_44 hT) (pr_44_32 hR) ?_
    refine aw_iload_n hC dX12_differs_31 rfl ?_
    refine aw_iaload_k (j := x) hC dX12_differs_32 (tg_72 hT) (nI_clamp (by omega)) (vp_in_nI (by omega) (by decide)) ?_
    refine aw_iload_n hC dX12_differs_33 rfl ?_
    refine aw_ishr hC dX12_differs_34 ?_
    refine aw_iconst (v := 1) hC dX12_differs_35 (by decide) ?_
    refine aw_iand hC dX12_differs_36 ?_
    refine aw_iconst (v := 1) hC dX12_differs_37 (by decide) ?_
    refine aw_icmp_ne (tgt := 63) hC dX12_differs_38 (by decide) (fun h3 => ?_) (fun h3 => ?_)
    · show AW X 0 0 63 [some (.ref 44), some (.int (nI x)), some (.int (nI a)), some (.int (sGives I J x a)), none] [] T I J R
      refine aw_iconst (v := 0) hC dX12_differs_63 (by decide) ?_
      refine aw_istore (L2 := [some (.ref 44), some (.int (nI x)), some (.int (nI a)), some (.int (sGives I J x a)), some (.int 0)]) hC dX12_differs_64 (by decide) rfl ?_
      refine aw_iload_n hC dX12_differs_66 rfl ?_
      refine aw_aload_n hC dX12_differs_67 rfl ?_
      refine aw_getR hC dX12_differs_68 aF_X12_86 rfl (tg_44 hT) (pr_44_30 hR) ?_
      refine aw_iconst (v := 3) hC dX12_differs_71 (by decide) ?_
      refine aw_iload_n hC dX12_differs_72 rfl ?_
      refine aw_imul hC dX12_differs_73 ?_
      rw [show 3 * (nI x) = nI (3 * x) from pk_mul 3 x]
      refine aw_iload_n hC dX12_differs_74 rfl ?_
      refine aw_iadd hC dX12_differs_75 ?_
      rw [show (nI (3 * x)) + (nI a) = nI ((3 * x) + a) from nI_add (3 * x) a]
      refine aw_iaload_k (j := ((3 * x) + a)) hC dX12_differs_76 (tg_70 hT) (nI_clamp (by omega)) (vp_in_nI (by omega) (by decide)) ?_
      refine aw_icmp_eq (tgt := 89) hC dX12_differs_77 (by decide) (fun h4 => ?_) (fun h4 => ?_)
      · show AW X 0 0 89 [some (.ref 44), some (.int (nI x)), some (.int (nI a)), some (.int (sGives I J x a)), some (.int 0)] [] T I J R
        refine aw_iconst (v := 0) hC dX12_differs_89 (by decide) ?_
        exact aw_zreturn hC hq rfl (Or.inl rfl) dX12_differs_90 a_le a_le (aPure_i (sDf_n (by (try simp only [bI_e0, bI_n0, decide_eq_false_iff_not, decide_eq_true_eq, Classical.not_not] at *); clear hC hq; unfold sDiff; grind)))
      · show AW X 0 0 80 [some (.ref 44), some (.int (nI x)), some (.int (nI a)), some (.int (sGives I J x a)), some (.int 0)] [] T I J R
        refine aw_iload hC dX12_differs_80 rfl ?_
        refine aw_if_ne (tgt := 89) hC dX12_differs_82 (by decide) (fun h5 => absurd h5 (by decide)) (fun _ => ?_)
        show AW X 0 0 85 [some (.ref 44), some (.int (nI x)), some (.int (nI a)), some (.int (sGives I J x a)), some (.int 0)] [] T I J R
        refine aw_iconst (v := 1) hC dX12_differs_85 (by decide) ?_
        refine aw_goto (tgt := 90) hC dX12_differs_86 (by decide) ?_
        exact aw_zreturn hC hq rfl (Or.inr rfl) dX12_differs_90 a_le a_le (aPure_i (sDf_y (by (try simp only [bI_e0, bI_n0, decide_eq_false_iff_not, decide_eq_true_eq, Classical.not_not] at *); clear hC hq; unfold sDiff; grind)))
    · show AW X 0 0 41 [some (.ref 44), some (.int (nI x)), some (.int (nI a)), some (.int (sGives I J x a)), none] [] T I J R
      refine aw_iload_n hC dX12_differs_41 rfl ?_
      refine aw_if_lt (tgt := 63) hC dX12_differs_42 (by decide) (fun h6 => ?_) (fun h6 => ?_)
      · show AW X 0 0 63 [some (.ref 44), some (.int (nI x)), some (.int (nI a)), some (.int (sGives I J x a)), none] [] T I J R
        refine aw_iconst (v := 0) hC dX12_differs_63 (by decide) ?_
        refine aw_istore (L2 := [some (.ref 44), some (.int (nI x)), some (.int (nI a)), some (.int (sGives I J x a)), some (.int 0)]) hC dX12_differs_64 (by decide) rfl ?_
        refine aw_iload_n hC dX12_differs_66 rfl ?_
        refine aw_aload_n hC dX12_differs_67 rfl ?_
        refine aw_getR hC dX12_differs_68 aF_X12_86 rfl (tg_44 hT) (pr_44_30 hR) ?_
        refine aw_iconst (v := 3) hC dX12_differs_71 (by decide) ?_
        refine aw_iload_n hC dX12_differs_72 rfl ?_
        refine aw_imul hC dX12_differs_73 ?_
        rw [show 3 * (nI x) = nI (3 * x) from pk_mul 3 x]
        refine aw_iload_n hC dX12_differs_74 rfl ?_
        refine aw_iadd hC dX12_differs_75 ?_
        rw [show (nI (3 * x)) + (nI a) = nI ((3 * x) + a) from nI_add (3 * x) a]
        refine aw_iaload_k (j := ((3 * x) + a)) hC dX12_differs_76 (tg_70 hT) (nI_clamp (by omega)) (vp_in_nI (by omega) (by decide)) ?_
        refine aw_icmp_eq (tgt := 89) hC dX12_differs_77 (by decide) (fun h7 => ?_) (fun h7 => ?_)
        · show AW X 0 0 89 [some (.ref 44), some (.int (nI x)), some (.int (nI a)), some (.int (sGives I J x a)), some (.int 0)] [] T I J R
          refine aw_iconst (v := 0) hC dX12_differs_89 (by decide) ?_
          exact aw_zreturn hC hq rfl (Or.inl rfl) dX12_differs_90 a_le a_le (aPure_i (sDf_n (by (try simp only [bI_e0, bI_n0, decide_eq_false_iff_not, decide_eq_true_eq, Classical.not_not] at *); clear hC hq; unfold sDiff; grind)))
        · show AW X 0 0 80 [some (.ref 44), some (.int (nI x)), some (.int (nI a)), some (.int (sGives I J x a)), some (.int 0)] [] T I J R
          refine aw_iload hC dX12_differs_80 rfl ?_
          refine aw_if_ne (tgt := 89) hC dX12_differs_82 (by decide) (fun h8 => absurd h8 (by decide)) (fun _ => ?_)
          show AW X 0 0 85 [some (.ref 44), some (.int (nI x)), some (.int (nI a)), some (.int (sGives I J x a)), some (.int 0)] [] T I J R
          refine aw_iconst (v := 1) hC dX12_differs_85 (by decide) ?_
          refine aw_goto (tgt := 90) hC dX12_differs_86 (by decide) ?_
          exact aw_zreturn hC hq rfl (Or.inr rfl) dX12_differs_90 a_le a_le (aPure_i (sDf_y (by (try simp only [bI_e0, bI_n0, decide_eq_false_iff_not, decide_eq_true_eq, Classical.not_not] at *); clear hC hq; unfold sDiff; grind)))
      · show AW X 0 0 45 [some (.ref 44), some (.int (nI x)), some (.int (nI a)), some (.int (sGives I J x a)), none] [] T I J R
        refine aw_iload_n hC dX12_differs_45 rfl ?_
        refine aw_aload_n hC dX12_differs_46 rfl ?_
        refine aw_getR hC dX12_differs_47 aF_X12_95 rfl (tg_44 hT) (pr_44_33 hR) ?_
        refine aw_iconst (v := 3) hC dX12_differs_50 (by decide) ?_
        refine aw_iload_n hC dX12_differs_51 rfl ?_
        refine aw_imul hC dX12_differs_52 ?_
        rw [show 3 * (nI x) = nI (3 * x) from pk_mul 3 x]
        refine aw_iload_n hC dX12_differs_53 rfl ?_
        refine aw_iadd hC dX12_differs_54 ?_
        rw [show (nI (3 * x)) + (nI a) = nI ((3 * x) + a) from nI_add (3 * x) a]
        refine aw_iaload_k (j := ((3 * x) + a)) hC dX12_differs_55 (tg_73 hT) (nI_clamp (by omega)) (vp_in_nI (by omega) (by decide)) ?_
        refine aw_icmp_ne (tgt := 63) hC dX12_differs_56 (by decide) (fun h9 => ?_) (fun h9 => ?_)
        · show AW X 0 0 63 [some (.ref 44), some (.int (nI x)), some (.int (nI a)), some (.int (sGives I J x a)), none] [] T I J R
          refine aw_iconst (v := 0) hC dX12_differs_63 (by decide) ?_
          refine aw_istore (L2 := [some (.ref 44), some (.int (nI x)), some (.int (nI a)), some (.int (sGives I J x a)), some (.int 0)]) hC dX12_differs_64 (by decide) rfl ?_
          refine aw_iload_n hC dX12_differs_66 rfl ?_
          refine aw_aload_n hC dX12_differs_67 rfl ?_
          refine aw_getR hC dX12_differs_68 aF_X12_86 rfl (tg_44 hT) (pr_44_30 hR) ?_
          refine aw_iconst (v := 3) hC dX12_differs_71 (by decide) ?_
          refine aw_iload_n hC dX12_differs_72 rfl ?_
          refine aw_imul hC dX12_differs_73 ?_
          rw [show 3 * (nI x) = nI (3 * x) from pk_mul 3 x]
          refine aw_iload_n hC dX12_differs_74 rfl ?_
          refine aw_iadd hC dX12_differs_75 ?_
          rw [show (nI (3 * x)) + (nI a) = nI ((3 * x) + a) from nI_add (3 * x) a]
          refine aw_iaload_k (j := ((3 * x) + a)) hC dX12_differs_76 (tg_70 hT) (nI_clamp (by omega)) (vp_in_nI (by omega) (by decide)) ?_
          refine aw_icmp_eq (tgt := 89) hC dX12_differs_77 (by decide) (fun h10 => ?_) (fun h10 => ?_)
          · show AW X 0 0 89 [some (.ref 44), some (.int (nI x)), some (.int (nI a)), some (.int (sGives I J x a)), some (.int 0)] [] T I J R
            refine aw_iconst (v := 0) hC dX12_differs_89 (by decide) ?_
            exact aw_zreturn hC hq rfl (Or.inl rfl) dX12_differs_90 a_le a_le (aPure_i (sDf_n (by (try simp only [bI_e0, bI_n0, decide_eq_false_iff_not, decide_eq_true_eq, Classical.not_not] at *); clear hC hq; unfold sDiff; grind)))
          · show AW X 0 0 80 [some (.ref 44), some (.int (nI x)), some (.int (nI a)), some (.int (sGives I J x a)), some (.int 0)] [] T I J R
            refine aw_iload hC dX12_differs_80 rfl ?_
            refine aw_if_ne (tgt := 89) hC dX12_differs_82 (by decide) (fun h11 => absurd h11 (by decide)) (fun _ => ?_)
            show AW X 0 0 85 [some (.ref 44), some (.int (nI x)), some (.int (nI a)), some (.int (sGives I J x a)), some (.int 0)] [] T I J R
            refine aw_iconst (v := 1) hC dX12_differs_85 (by decide) ?_
            refine aw_goto (tgt := 90) hC dX12_differs_86 (by decide) ?_
            exact aw_zreturn hC hq rfl (Or.inr rfl) dX12_differs_90 a_le a_le (aPure_i (sDf_y (by (try simp only [bI_e0, bI_n0, decide_eq_false_iff_not, decide_eq_true_eq, Classical.not_not] at *); clear hC hq; unfold sDiff; grind)))
        · show AW X 0 0 59 [some (.ref 44), some (.int (nI x)), some (.int (nI a)), some (.int (sGives I J x a)), none] [] T I J R
          refine aw_iconst (v := 1) hC dX12_differs_59 (by decide) ?_
          refine aw_goto (tgt := 64) hC dX12_differs_60 (by decide) ?_
          refine aw_istore (L2 := [some (.ref 44), some (.int (nI x)), some (.int (nI a)), some (.int (sGives I J x a)), some (.int 1)]) hC dX12_differs_64 (by decide) rfl ?_
          refine aw_iload_n hC dX12_differs_66 rfl ?_
          refine aw_aload_n hC dX12_differs_67 rfl ?_
          refine aw_getR hC dX12_differs_68 aF_X12_86 rfl (tg_44 hT) (pr_44_30 hR) ?_
          refine aw_iconst (v := 3) hC dX12_differs_71 (by decide) ?_
          refine aw_iload_n hC dX12_differs_72 rfl ?_
          refine aw_imul hC dX12_differs_73 ?_
          rw [show 3 * (nI x) = nI (3 * x) from pk_mul 3 x]
          refine aw_iload_n hC dX12_differs_74 rfl ?_
          refine aw_iadd hC dX12_differs_75 ?_
          rw [show (nI (3 * x)) + (nI a) = nI ((3 * x) + a) from nI_add (3 * x) a]
          refine aw_iaload_k (j := ((3 * x) + a)) hC dX12_differs_76 (tg_70 hT) (nI_clamp (by omega)) (vp_in_nI (by omega) (by decide)) ?_
          refine aw_icmp_eq (tgt := 89) hC dX12_differs_77 (by decide) (fun h12 => ?_) (fun h12 => ?_)
          · show AW X 0 0 89 [some (.ref 44), some (.int (nI x)), some (.int (nI a)), some (.int (sGives I J x a)), some (.int 1)] [] T I J R
            refine aw_iconst (v := 0) hC dX12_differs_89 (by decide) ?_
            exact aw_zreturn hC hq rfl (Or.inl rfl) dX12_differs_90 a_le a_le (aPure_i (sDf_n (by (try simp only [bI_e0, bI_n0, decide_eq_false_iff_not, decide_eq_true_eq, Classical.not_not] at *); clear hC hq; unfold sDiff; grind)))
          · show AW X 0 0 80 [some (.ref 44), some (.int (nI x)), some (.int (nI a)), some (.int (sGives I J x a)), some (.int 1)] [] T I J R
            refine aw_iload hC dX12_differs_80 rfl ?_
            refine aw_if_ne (tgt := 89) hC dX12_differs_82 (by decide) (fun _ => ?_) (fun h13 => absurd h13 (by decide))
            show AW X 0 0 89 [some (.ref 44), some (.int (nI x)), some (.int (nI a)), some (.int (sGives I J x a)), some (.int 1)] [] T I J R
            refine aw_iconst (v := 0) hC dX12_differs_89 (by decide) ?_
            exact aw_zreturn hC hq rfl (Or.inl rfl) dX12_differs_90 a_le a_le (aPure_i (sDf_n (by (try simp only [bI_e0, bI_n0, decide_eq_false_iff_not, decide_eq_true_eq, Classical.not_not] at *); clear hC hq; unfold sDiff; grind)))
  · show AW X 0 0 18 [some (.ref 44), some (.int (nI x)), some (.int (nI a)), none, none] [] T I J R
    refine aw_iconst (v := 0) hC dX12_differs_18 (by decide) ?_
    exact aw_zreturn hC hq rfl (Or.inl rfl) dX12_differs_19 a_le a_le (aPure_i (sDf_n (by (try simp only [bI_e0, bI_n0, decide_eq_false_iff_not, decide_eq_true_eq, Classical.not_not] at *); clear hC hq; unfold sDiff; grind)))
abbrev sKept (I : aI) (x : Nat) : Bool := anyB (fun j => decide (I 64 (8 * (x / 16) + j) = nI (x % 16))) (iN I 63 (x / 16))
noncomputable abbrev fD (I : aI) (J : aJ) (x : Nat) : Nat → Bool := fun k => sDf I J x k
noncomputable abbrev fF (I : aI) (J : aJ) (x : Nat) : Nat → Bool := fun k => sDf I J x k && decide (I 58 (3 * iN I 62 (x / 16) + k) &&& 1 ≠ 0)
noncomputable def sCmp (I : aI) (J : aJ) (x : Nat) : Int32 :=
  if sKept I x = false then (if 0 < I 69 x then 4 else 0) else if ¬ 0 < I 69 x then 1 else if (decide (I 71 x ≠ 0) || anyB (fF I J x) 3) = true then 3 else if anyB (fD I J x) 3 = true then 2 else 0
theorem bI_or (a b : Bool) : bI a ||| bI b = bI (a || b) := by cases a <;> cases b <;> rfl
theorem any_st {p : Nat → Bool} {k : Nat} {acc : Bool} (h : acc = anyB p k) : (acc || p k) = anyB p (k + 1) := by rw [anyB, h]
theorem fF_no {I : aI} {J : aJ} {x k : Nat} {b fo : Bool} (h : sDf I J x k = false ∨ I 58 (3 * iN I 62 (x / 16) + k) &&& 1 = 0) (e : fo = (b || anyB (fF I J x) k)) : fo = (b || anyB (fF I J x) (k + 1)) := by
  have q : fF I J x k = false := by
    show (sDf I J x k && decide (I 58 (3 * iN I 62 (x / 16) + k) &&& 1 ≠ 0)) = false
    rcases h with h | h
    · rw [h]; rfl
    · rw [decide_eq_false (not_not_intro h), Bool.and_false]
  rw [anyB, q, Bool.or_false]; exact e
theorem fF_yes {I : aI} {J : aJ} {x k : Nat} {b : Bool} (h : sDf I J x k = true) (h2 : ¬ I 58 (3 * iN I 62 (x / 16) + k) &&& 1 = 0) : true = (b || anyB (fF I J x) (k + 1)) := by
  have q : fF I J x k = true := by
    show (sDf I J x k && decide (I 58 (3 * iN I 62 (x / 16) + k) &&& 1 ≠ 0)) = true
    rw [h, decide_eq_true h2]; rfl
  rw [anyB, q, Bool.or_true, Bool.or_true]
set_option maxRecDepth 100000 in
theorem m_X12_compares {T : List aT} {I : aI} {J : aJ} {R : aR} (hT : aPT T) (hR : aPR R) {x : Nat} (hx : x < 64) (hs65 : SO2 I) (ht : NR I 62 4 3) (hu : NR I 61 3 3) (hk : NR I 63 4 9) (h71 : B01 I 71) : MX12_compares 0 0 [.ref 44, .int (nI x)] T I J R (aPure (some (.int (sCmp I J x))) T I J R) := by
  refine a_met (by decide +kernel) a_le (fun X hC hq => ?_)
  show AW X 0 0 0 [some (.ref 44), some (.int (nI x)), none, none, none, none, none] [] T I J R
  refine aw_aload_n hC dX12_compares_0 rfl ?_
  refine aw_getR hC dX12_compares_1 aF_X12_83 rfl (tg_44 hT) (pr_44_29 hR) ?_
  refine aw_iload_n hC dX12_compares_4 rfl ?_
  refine aw_iaload_k (j := x) hC dX12_compares_5 (tg_69 hT) (nI_clamp (by omega)) (vp_in_nI (by omega) (by decide)) ?_
  refine aw_if_le (tgt := 13) hC dX12_compares_6 (by decide) (fun h1 => ?_) (fun h1 => ?_)
  · show AW X 0 0 13 [some (.ref 44), some (.int (nI x)), none, none, none, none, none] [] T I J R
    refine aw_iconst (v := 0) hC dX12_compares_13 (by decide) ?_
    refine aw_istore_n (L2 := [some (.ref 44), some (.int (nI x)), some (.int 0), none, none, none, none]) hC dX12_compares_14 rfl (by decide) rfl ?_
    refine aw_aload_n hC dX12_compares_15 rfl ?_
    refine aw_iload_n hC dX12_compares_16 rfl ?_
    refine kX12_349 hC rfl (m_X12_isKept (I := I) (J := J) hT hR hk (m := x) (by omega)) dX12_compares_17 (tg_44 hT) rfl a_le a_le a_le a_le a_le rfl aPure_x (aPure_k ?_)
    show AW X 0 0 20 [some (.ref 44), some (.int (nI x)), some (.int 0), none, none, none, none] [.int (bI (sKept I x))] T I J R
    refine aw_if_ne (tgt := 33) hC dX12_compares_20 (by decide) (fun h2 => ?_) (fun h2 => ?_)
    · show AW X 0 0 33 [some (.ref 44), some (.int (nI x)), some (.int 0), none, none, none, none] [] T I J R
      refine aw_iload_n hC dX12_compares_33 rfl ?_
      refine aw_if_ne (tgt := 39) hC dX12_compares_34 (by decide) (fun h3 => absurd h3 (by decide)) (fun _ => ?_)
      show AW X 0 0 37 [some (.ref 44), some (.int (nI x)), some (.int 0), none, none, none, none] [] T I J R
      refine aw_iconst (v := 1) hC dX12_compares_37 (by decide) ?_
      exact aw_ireturn hC hq rfl dX12_compares_38 a_le a_le (aPure_i (by (try simp only [bI_e0, bI_n0] at *); unfold sCmp; simp_all))
    · show AW X 0 0 23 [some (.ref 44), some (.int (nI x)), some (.int 0), none, none, none, none] [] T I J R
      refine aw_iload_n hC dX12_compares_23 rfl ?_
      refine aw_if_eq (tgt := 31) hC dX12_compares_24 (by decide) (fun _ => ?_) (fun h4 => absurd h4 (by decide))
      show AW X 0 0 31 [some (.ref 44), some (.int (nI x)), some (.int 0), none, none, none, none] [] T I J R
      refine aw_iconst (v := 0) hC dX12_compares_31 (by decide) ?_
      exact aw_ireturn hC hq rfl dX12_compares_32 a_le a_le (aPure_i (by (try simp only [bI_e0, bI_n0] at *); unfold sCmp; simp_all))
  · show AW X 0 0 9 [some (.ref 44), some (.int (nI x)), none, none, none, none, none] [] T I J R
    refine aw_iconst (v := 1) hC dX12_compares_9 (by decide) ?_
    refine aw_goto (tgt := 14) hC dX12_compares_10 (by decide) ?_
    refine aw_istore_n (L2 := [some (.ref 44), some (.int (nI x)), some (.int 1), none, none, none, none]) hC dX12_compares_14 rfl (by decide) rfl ?_
    refine aw_aload_n hC dX12_compares_15 rfl ?_
    refine aw_iload_n hC dX12_compares_16 rfl ?_
    refine kX12_349 hC rfl (m_X12_isKept (I := I) (J := J) hT hR hk (m := x) (by omega)) dX12_compares_17 (tg_44 hT) rfl a_le a_le a_le a_le a_le rfl aPure_x (aPure_k ?_)
    show AW X 0 0 20 [some (.ref 44), some (.int (nI x)), some (.int 1), none, none, none, none] [.int (bI (sKept I x))] T I J R
    refine aw_if_ne (tgt := 33) hC dX12_compares_20 (by decide) (fun h5 => ?_) (fun h5 => ?_)
    · show AW X 0 0 33 [some (.ref 44), some (.int (nI x)), some (.int 1), none, none, none, none] [] T I J R
      refine aw_iload_n hC dX12_compares_33 rfl ?_
      refine aw_if_ne (tgt := 39) hC dX12_compares_34 (by decide) (fun _ => ?_) (fun h6 => absurd h6 (by decide))
      show AW X 0 0 39 [some (.ref 44), some (.int (nI x)), some (.int 1), none, none, none, none] [] T I J R
      refine aw_aload_n hC dX12_compares_39 rfl ?_
      refine aw_getR hC dX12_compares_40 aF_X12_89 rfl (tg_44 hT) (pr_44_31 hR) ?_
      refine aw_iload_n hC dX12_compares_43 rfl ?_
      refine aw_baload_k (j := x) hC dX12_compares_44 (tg_71 hT) (nI_clamp (by omega)) (vp_in_nI (by omega) (by decide)) ?_
      rw [b01_bI (h71 x)]
      refine aw_istore_n (L2 := [some (.ref 44), some (.int (nI x)), some (.int 1), some (.int (bI (decide (I 71 x ≠ 0)))), none, none, none]) hC dX12_compares_45 rfl (by decide) rfl ?_
      refine aw_iconst (v := 0) hC dX12_compares_46 (by decide) ?_
      refine aw_istore (L2 := [some (.ref 44), some (.int (nI x)), some (.int 1), some (.int (bI (decide (I 71 x ≠ 0)))), some (.int 0), none, none]) hC dX12_compares_47 (by decide) rfl ?_
      refine aw_iconst (v := 0) hC dX12_compares_49 (by decide) ?_
      refine aw_istore (L2 := [some (.ref 44), some (.int (nI x)), some (.int 1), some (.int (bI (decide (I 71 x ≠ 0)))), some (.int 0), some (.int 0), none]) hC dX12_compares_50 (by decide) rfl ?_
      have loop : ∀ k, k ≤ 3 → ∀ fo an : Bool, fo = (decide (I 71 x ≠ 0) || anyB (fF I J x) k) → an = anyB (fD I J x) k → AW X 0 0 52 [some (.ref 44), some (.int (nI x)), some (.int 1), some (.int (bI fo)), some (.int (bI an)), some (.int (nI k)), none] [] T I J R := by
        refine a_down 3 (fun k hk3 ih => ?_)
        intro fo an hfo han
        refine aw_iload hC dX12_compares_52 rfl ?_
        refine aw_iconst (v := 3) hC dX12_compares_54 (by decide) ?_
        refine aw_icmp_ge (tgt := 112) hC dX12_compares_55 (by decide) (fun h7 => ?_) (fun h7 => ?_)
        · show AW X 0 0 112 [some (.ref 44), some (.int (nI x)), some (.int 1), some (.int (bI fo)), some (.int (bI an)), some (.int (nI k)), none] [] T I J R
          have h7n : 3 ≤ k := (nI_leI (a := 3) (b := k) (by omega) (by omega)).mp h7
          refine aw_iload_n hC dX12_compares_112 rfl ?_
          refine aw_if_eq (tgt := 120) hC dX12_compares_113 (by decide) (fun h8 => ?_) (fun h8 => ?_)
          · show AW X 0 0 120 [some (.ref 44), some (.int (nI x)), some (.int 1), some (.int (bI fo)), some (.int (bI an)), some (.int (nI k)), none] [] T I J R
            refine aw_iload hC dX12_compares_120 rfl ?_
            refine aw_if_eq (tgt := 129) hC dX12_compares_122 (by decide) (fun h9 => ?_) (fun h9 => ?_)
            · show AW X 0 0 129 [some (.ref 44), some (.int (nI x)), some (.int 1), some (.int (bI fo)), some (.int (bI an)), some (.int (nI k)), none] [] T I J R
              refine aw_iconst (v := 0) hC dX12_compares_129 (by decide) ?_
              exact aw_ireturn hC hq rfl dX12_compares_130 a_le a_le (aPure_i (by have e3 : k = 3 := (by omega); subst e3; rw [sCmp, if_neg (by simp only [bI_n0] at *; simp_all), if_neg (by simp_all), ← hfo, ← han]; simp only [bI_e0, bI_n0] at *; simp_all))
            · show AW X 0 0 125 [some (.ref 44), some (.int (nI x)), some (.int 1), some (.int (bI fo)), some (.int (bI an)), some (.int (nI k)), none] [] T I J R
              refine aw_iconst (v := 2) hC dX12_compares_125 (by decide) ?_
              refine aw_goto (tgt := 130) hC dX12_compares_126 (by decide) ?_
              exact aw_ireturn hC hq rfl dX12_compares_130 a_le a_le (aPure_i (by have e3 : k = 3 := (by omega); subst e3; rw [sCmp, if_neg (by simp only [bI_n0] at *; simp_all), if_neg (by simp_all), ← hfo, ← han]; simp only [bI_e0, bI_n0] at *; simp_all))
          · show AW X 0 0 116 [some (.ref 44), some (.int (nI x)), some (.int 1), some (.int (bI fo)), some (.int (bI an)), some (.int (nI k)), none] [] T I J R
            refine aw_iconst (v := 3) hC dX12_compares_116 (by decide) ?_
            refine aw_goto (tgt := 130) hC dX12_compares_117 (by decide) ?_
            exact aw_ireturn hC hq rfl dX12_compares_130 a_le a_le (aPure_i (by have e3 : k = 3 := (by omega); subst e3; rw [sCmp, if_neg (by simp only [bI_n0] at *; simp_all), if_neg (by simp_all), ← hfo, ← han]; simp only [bI_e0, bI_n0] at *; simp_all))
        · show AW X 0 0 58 [some (.ref 44), some (.int (nI x)), some (.int 1), some (.int (bI fo)), some (.int (bI an)), some (.int (nI k)), none] [] T I J R
          have h7n : ¬ 3 ≤ k := fun q9 => h7 ((nI_leI (a := 3) (b := k) (by omega) (by omega)).mpr q9)
          refine aw_aload_n hC dX12_compares_58 rfl ?_
          refine aw_iload_n hC dX12_compares_59 rfl ?_
          refine aw_iload hC dX12_compares_60 rfl ?_
          refine kX12_352 hC rfl (m_X12_differs (I := I) (J := J) hT hR (x := x) (a := k) (by omega) (by omega) hs65 ht hu) dX12_compares_62 (tg_44 hT) rfl a_le a_le a_le a_le a_le rfl aPure_x (aPure_k ?_)
          show AW X 0 0 65 [some (.ref 44), some (.int (nI x)), some (.int 1), some (.int (bI fo)), some (.int (bI an)), some (.int (nI k)), none] [.int (bI (sDf I J x k))] T I J R
          refine aw_istore (L2 := [some (.ref 44), some (.int (nI x)), some (.int 1), some (.int (bI fo)), some (.int (bI an)), some (.int (nI k)), some (.int (bI (sDf I J x k)))]) hC dX12_compares_65 (by decide) rfl ?_
          refine aw_iload hC dX12_compares_67 rfl ?_
          refine aw_iload hC dX12_compares_69 rfl ?_
          refine aw_ior hC dX12_compares_71 ?_
          rw [bI_or _ _]
          refine aw_istore (L2 := [some (.ref 44), some (.int (nI x)), some (.int 1), some (.int (bI fo)), some (.int (bI (an || sDf I J x k))), some (.int (nI k)), some (.int (bI (sDf I J x k)))]) hC dX12_compares_72 (by decide) rfl ?_
          refine aw_iload_n hC dX12_compares_74 rfl ?_
          refine aw_iload hC dX12_compares_75 rfl ?_
          refine aw_if_eq (tgt := 103) hC dX12_compares_77 (by decide) (fun h10 => ?_) (fun h10 => ?_)
          · show AW X 0 0 103 [some (.ref 44), some (.int (nI x)), some (.int 1), some (.int (bI fo)), some (.int (bI (an || sDf I J x k))), some (.int (nI k)), some (.int (bI (sDf I J x k)))] [.int (bI fo)] T I J R
            refine aw_iconst (v := 0) hC dX12_compares_103 (by decide) ?_
            refine aw_ior hC dX12_compares_104 ?_
            rw [bI_or0]
            refine aw_istore_n (L2 := [some (.ref 44), some (.int (nI x)), some (.int 1), some (.int (bI fo)), some (.int (bI (an || sDf I J x k))), some (.int (nI k)), some (.int (bI (sDf I J x k)))]) hC dX12_compares_105 rfl (by decide) rfl ?_
            refine aw_iinc (v := nI (k + 1)) (L2 := [some (.ref 44), some (.int (nI x)), some (.int 1), some (.int (bI fo)), some (.int (bI (an || sDf I J x k))), some (.int (nI (k + 1))), some (.int (bI (sDf I J x k)))]) hC dX12_compares_106 rfl (nI_inc _) (by decide) rfl ?_
            refine aw_goto (tgt := 52) hC dX12_compares_109 (by decide) ?_
            refine aw_forget 6 (L2 := [some (.ref 44), some (.int (nI x)), some (.int 1), some (.int (bI fo)), some (.int (bI (an || sDf I J x k))), some (.int (nI (k + 1))), none]) rfl ?_
            exact ih (by omega) fo (an || sDf I J x k) (by first | exact fF_no (Or.inl (bI_e0.mp (by assumption))) hfo | exact fF_no (Or.inr (Decidable.not_not.mp (bI_d0.mp (by assumption)))) hfo) (any_st han)
          · show AW X 0 0 80 [some (.ref 44), some (.int (nI x)), some (.int 1), some (.int (bI fo)), some (.int (bI (an || sDf I J x k))), some (.int (nI k)), some (.int (bI (sDf I J x k)))] [.int (bI fo)] T I J R
            refine aw_aload_n hC dX12_compares_80 rfl ?_
            refine aw_aload_n hC dX12_compares_81 rfl ?_
            refine aw_getR hC dX12_compares_82 aF_X12_62 rfl (tg_44 hT) (pr_44_21 hR) ?_
            refine aw_iload_n hC dX12_compares_85 rfl ?_
            refine aw_bipush (v := 16) hC dX12_compares_86 (by decide) ?_
            refine aw_idiv hC dX12_compares_88 (by decide) ?_
            rw [show (nI x) / 16 = nI (x / 16) from pk_div (a := x) (d := 16) (by omega) (by decide) (by decide)]
            refine aw_iaload_k (j := (x / 16)) hC dX12_compares_89 (tg_62 hT) (nI_clamp (by omega)) (vp_in_nI (by omega) (by decide)) ?_
            have hb11 := ht (x / 16) (by omega)
            rw [hb11.1]
            refine aw_iload hC dX12_compares_90 rfl ?_
            refine aw_iconst (v := 1) hC dX12_compares_92 (by decide) ?_
            refine kX12_330 hC rfl (m_X12_hasN hT hR (t := (iN I 62 (x / 16))) (a := k) (by omega) (by omega) (1 : Int32)) dX12_compares_93 (tg_44 hT) rfl a_le a_le a_le a_le a_le rfl aPure_x (aPure_k ?_)
            show AW X 0 0 96 [some (.ref 44), some (.int (nI x)), some (.int 1), some (.int (bI fo)), some (.int (bI (an || sDf I J x k))), some (.int (nI k)), some (.int (bI (sDf I J x k)))] [.int (bI (decide (I 58 (3 * (iN I 62 (x / 16)) + k) &&& (1 : Int32) ≠ 0))), .int (bI fo)] T I J R
            refine aw_if_eq (tgt := 103) hC dX12_compares_96 (by decide) (fun h12 => ?_) (fun h12 => ?_)
            · show AW X 0 0 103 [some (.ref 44), some (.int (nI x)), some (.int 1), some (.int (bI fo)), some (.int (bI (an || sDf I J x k))), some (.int (nI k)), some (.int (bI (sDf I J x k)))] [.int (bI fo)] T I J R
              refine aw_iconst (v := 0) hC dX12_compares_103 (by decide) ?_
              refine aw_ior hC dX12_compares_104 ?_
              rw [bI_or0]
              refine aw_istore_n (L2 := [some (.ref 44), some (.int (nI x)), some (.int 1), some (.int (bI fo)), some (.int (bI (an || sDf I J x k))), some (.int (nI k)), some (.int (bI (sDf I J x k)))]) hC dX12_compares_105 rfl (by decide) rfl ?_
              refine aw_iinc (v := nI (k + 1)) (L2 := [some (.ref 44), some (.int (nI x)), some (.int 1), some (.int (bI fo)), some (.int (bI (an || sDf I J x k))), some (.int (nI (k + 1))), some (.int (bI (sDf I J x k)))]) hC dX12_compares_106 rfl (nI_inc _) (by decide) rfl ?_
              refine aw_goto (tgt := 52) hC dX12_compares_109 (by decide) ?_
              refine aw_forget 6 (L2 := [some (.ref 44), some (.int (nI x)), some (.int 1), some (.int (bI fo)), some (.int (bI (an || sDf I J x k))), some (.int (nI (k + 1))), none]) rfl ?_
              exact ih (by omega) fo (an || sDf I J x k) (by first | exact fF_no (Or.inl (bI_e0.mp (by assumption))) hfo | exact fF_no (Or.inr (Decidable.not_not.mp (bI_d0.mp (by assumption)))) hfo) (any_st han)
            · show AW X 0 0 99 [some (.ref 44), some (.int (nI x)), some (.int 1), some (.int (bI fo)), some (.int (bI (an || sDf I J x k))), some (.int (nI k)), some (.int (bI (sDf I J x k)))] [.int (bI fo)] T I J R
              refine aw_iconst (v := 1) hC dX12_compares_99 (by decide) ?_
              refine aw_goto (tgt := 104) hC dX12_compares_100 (by decide) ?_
              refine aw_ior hC dX12_compares_104 ?_
              rw [bI_or1]
              refine aw_istore_n (L2 := [some (.ref 44), some (.int (nI x)), some (.int 1), some (.int (bI true)), some (.int (bI (an || sDf I J x k))), some (.int (nI k)), some (.int (bI (sDf I J x k)))]) hC dX12_compares_105 rfl (by decide) rfl ?_
              refine aw_iinc (v := nI (k + 1)) (L2 := [some (.ref 44), some (.int (nI x)), some (.int 1), some (.int (bI true)), some (.int (bI (an || sDf I J x k))), some (.int (nI (k + 1))), some (.int (bI (sDf I J x k)))]) hC dX12_compares_106 rfl (nI_inc _) (by decide) rfl ?_
              refine aw_goto (tgt := 52) hC dX12_compares_109 (by decide) ?_
              refine aw_forget 6 (L2 := [some (.ref 44), some (.int (nI x)), some (.int 1), some (.int (bI true)), some (.int (bI (an || sDf I J x k))), some (.int (nI (k + 1))), none]) rfl ?_
              exact ih (by omega) true (an || sDf I J x k) (fF_yes (bI_n0.mp (by assumption)) (bI_dn.mp (by assumption))) (any_st han)
      exact loop 0 (Nat.zero_le _) _ false (by rw [anyB, Bool.or_false]) rfl
    · show AW X 0 0 23 [some (.ref 44), some (.int (nI x)), some (.int 1), none, none, none, none] [] T I J R
      refine aw_iload_n hC dX12_compares_23 rfl ?_
      refine aw_if_eq (tgt := 31) hC dX12_compares_24 (by decide) (fun h13 => absurd h13 (by decide)) (fun _ => ?_)
      show AW X 0 0 27 [some (.ref 44), some (.int (nI x)), some (.int 1), none, none, none, none] [] T I J R
      refine aw_iconst (v := 4) hC dX12_compares_27 (by decide) ?_
      refine aw_goto (tgt := 32) hC dX12_compares_28 (by decide) ?_
      exact aw_ireturn hC hq rfl dX12_compares_32 a_le a_le (aPure_i (by (try simp only [bI_e0, bI_n0] at *); unfold sCmp; simp_all))
/-- the sources: nothing, a field, an attribute of a lower generator -/
abbrev SO3 (I : aI) : Prop := ∀ j, j < 12 → I 65 j = -1 ∨ (I 65 j = nI (iN I 65 j) ∧ iN I 65 j < 22 ∧ (10 ≤ iN I 65 j → (iN I 65 j - 10) / 3 < j / 3))
abbrev GW (I : aI) (g : Nat) : Prop := g ≤ 4 ∧ I 44 20 = nI g ∧ SO3 I ∧ NR I 62 4 3 ∧ NR I 61 3 3 ∧ NR I 63 4 9 ∧ B01 I 71
theorem SO3.s2 {I : aI} (h : SO3 I) : SO2 I := fun j hj => (h j hj).imp id (fun q => ⟨q.1, q.2.1⟩)
theorem GW.g4 {I : aI} {g : Nat} (h : GW I g) : g ≤ 4 := h.1
theorem GW.gn {I : aI} {g : Nat} (h : GW I g) : I 44 20 = nI g := h.2.1
theorem GW.so {I : aI} {g : Nat} (h : GW I g) : SO3 I := h.2.2.1
theorem GW.ty {I : aI} {g : Nat} (h : GW I g) : NR I 62 4 3 := h.2.2.2.1
theorem GW.up {I : aI} {g : Nat} (h : GW I g) : NR I 61 3 3 := h.2.2.2.2.1
theorem GW.ks {I : aI} {g : Nat} (h : GW I g) : NR I 63 4 9 := h.2.2.2.2.2.1
theorem GW.bd {I : aI} {g : Nat} (h : GW I g) : B01 I 71 := h.2.2.2.2.2.2
theorem GW_cg {I I2 : aI} {g : Nat} (h0 : I2 44 20 = I 44 20) (h65 : I2 65 = I 65) (h62 : I2 62 = I 62) (h61 : I2 61 = I 61) (h63 : I2 63 = I 63) (h71 : I2 71 = I 71) (h : GW I g) : GW I2 g := by
  unfold GW SO3 NR B01 iN at *; rw [h0, h65, h62, h61, h63, h71]; exact h
theorem sVal_cg {I I2 : aI} {J J2 : aJ} (h57 : I2 44 57 = I 44 57) (hJ : J2 88 = J 88) (f : Nat) : sVal I2 J2 f = sVal I J f := by unfold sVal; rw [h57, hJ]
theorem gvB_cg {I I2 : aI} {x s : Nat} (h61 : I2 61 = I 61) (h62 : I2 62 = I 62) (h69 : I2 69 = I 69) (h70 : I2 70 = I 70) (h91 : I2 91 (16 * ((s - 10) / 3) + x % 16) = I 91 (16 * ((s - 10) / 3) + x % 16)) : gvB I2 x s = gvB I x s := by
  unfold gvB iN; rw [h61, h62, h69, h70, h91]
theorem sGives_cg {I I2 : aI} {J J2 : aJ} {x a : Nat} (hso : SO3 I) (hx : x < 64) (ha : a < 3) (h57 : I2 44 57 = I 44 57) (hJ : J2 88 = J 88) (h58 : I2 58 = I 58) (h61 : I2 61 = I 61) (h62 : I2 62 = I 62) (h65 : I2 65 = I 65) (h69 : I2 69 = I 69) (h70 : I2 70 = I 70) (h91 : ∀ y, y < 16 * (x / 16) → I2 91 y = I 91 y) : sGives I2 J2 x a = sGives I J x a := by
  have e : ∀ j, iN I2 65 j = iN I 65 j := fun j => by unfold iN; rw [h65]
  have e2 : ∀ j, iN I2 62 j = iN I 62 j := fun j => by unfold iN; rw [h62]
  have e3 : ∀ s, gvA I2 J2 x s = gvA I J x s := fun s => by unfold gvA iN; rw [sVal_cg h57 hJ, h61, h62]
  rw [sGives, sGives, e, h65, h58, e2, e3]
  by_cases c : I 65 (3 * (x / 16) + a) = -1 ∨ I 58 (3 * iN I 62 (x / 16) + a) &&& 2 ≠ 0
  · rw [if_pos c, if_pos c]
  · rw [if_neg c, if_neg c]
    by_cases d : iN I 65 (3 * (x / 16) + a) < 10
    · rw [if_pos d, if_pos d]
    · rw [if_neg d, if_neg d]
      rcases hso (3 * (x / 16) + a) (by omega) with q | q
      · exact absurd (Or.inl q) c
      · exact gvB_cg h61 h62 h69 h70 (h91 _ (by have := q.2.2 (by omega); omega))
theorem sDiff_cg {I I2 : aI} {J J2 : aJ} {x a : Nat} (hg : sGives I2 J2 x a = sGives I J x a) (h58 : I2 58 = I 58) (h62 : I2 62 = I 62) (h70 : I2 70 = I 70) (h72 : I2 72 = I 72) (h73 : I2 73 = I 73) : sDf I2 J2 x a = sDf I J x a := by
  have e : sDiff I2 J2 x a ↔ sDiff I J x a := by unfold sDiff iN; rw [hg, h58, h62, h70, h72, h73]
  exact Bool.eq_iff_iff.mpr (by rw [sDf_iff, sDf_iff]; exact e)
theorem anyB_cg {p q : Nat → Bool} : ∀ {n : Nat}, (∀ j, j < n → p j = q j) → anyB p n = anyB q n
  | 0, _ => rfl
  | n + 1, h => by rw [anyB, anyB, anyB_cg (fun j hj => h j (by omega)), h n (by omega)]
theorem sCmp_cg {I I2 : aI} {J J2 : aJ} {x : Nat} (hso : SO3 I) (hx : x < 64) (h57 : I2 44 57 = I 44 57) (hJ : J2 88 = J 88) (h : ∀ o, o ≠ 44 → o ≠ 91 → I2 o = I o) (h91 : ∀ y, y < 16 * (x / 16) → I2 91 y = I 91 y) : sCmp I2 J2 x = sCmp I J x := by
  have r := fun o h1 h2 => h o h1 h2
  have g : ∀ a, a < 3 → sDf I2 J2 x a = sDf I J x a := fun a ha => sDiff_cg (sGives_cg hso hx ha h57 hJ (r 58 (by decide) (by decide)) (r 61 (by decide) (by decide)) (r 62 (by decide) (by decide)) (r 65 (by decide) (by decide)) (r 69 (by decide) (by decide)) (r 70 (by decide) (by decide)) h91) (r 58 (by decide) (by decide)) (r 62 (by decide) (by decide)) (r 70 (by decide) (by decide)) (r 72 (by decide) (by decide)) (r 73 (by decide) (by decide))
  have gF : anyB (fF I2 J2 x) 3 = anyB (fF I J x) 3 := anyB_cg (fun j hj => by simp only [fF]; rw [g j hj, r 58 (by decide) (by decide)]; unfold iN; rw [r 62 (by decide) (by decide)])
  have gD : anyB (fD I2 J2 x) 3 = anyB (fD I J x) 3 := anyB_cg (fun j hj => g j hj)
  have gK : sKept I2 x = sKept I x := by simp only [sKept]; unfold iN; rw [r 64 (by decide) (by decide), r 63 (by decide) (by decide)]
  rw [sCmp, sCmp, gF, gD, gK, r 69 (by decide) (by decide), r 71 (by decide) (by decide)]
/-- the comparisons are right -/
def CmpOK (I : aI) (J : aJ) (g : Nat) : Prop := ∀ x, x < 16 * g → I 91 x = sCmp I J x
theorem SolP.f44 {I I2 : aI} {J J2 : aJ} {n k : Nat} (h : SolP I I2 J J2 n) (h1 : k ≠ 53) (h2 : k ≠ 57) : I2 44 k = I 44 k := by
  obtain ⟨K, P, S, -, I3, h3, h4, -⟩ := h
  rw [h4, a_u_ne (fun q => h2 q.2), a_u_ne (fun q => h1 q.2), h3.fr 44 (by decide)]
theorem SolP.gw {I I2 : aI} {J J2 : aJ} {n g : Nat} (h : SolP I I2 J J2 n) (hg : GW I g) : GW I2 g :=
  GW_cg (h.f44 (by decide) (by decide)) (h.fr 65 (by decide)) (h.fr 62 (by decide)) (h.fr 61 (by decide)) (h.fr 63 (by decide)) (h.fr 71 (by decide)) hg
theorem cmp_put {I : aI} {J : aJ} {S : Nat → Int32} {k g : Nat} (hg : g ≤ 4) (hk : k < 16 * g) (hso : SO3 I) (h : ∀ x, x < k → S x = sCmp (a_ur I 91 S) J x) : ∀ x, x < k + 1 → (fun j => if j = k then sCmp (a_ur I 91 S) J k else S j) x = sCmp (a_ur I 91 (fun j => if j = k then sCmp (a_ur I 91 S) J k else S j)) J x := fun x hx => by
  have e : sCmp (a_ur I 91 (fun j => if j = k then sCmp (a_ur I 91 S) J k else S j)) J x = sCmp (a_ur I 91 S) J x := by
    refine sCmp_cg (by unfold SO3 iN at *; rw [a_ur_ne (by decide)]; exact hso) (by omega) (by rw [a_ur_ne (by decide), a_ur_ne (by decide)]) rfl (fun o h1 h2 => by rw [a_ur_ne h2, a_ur_ne h2]) (fun y hy => ?_)
    rw [a_ur_self, a_ur_self]
    exact if_neg (by omega)
  rw [e]
  by_cases c : x = k
  · subst c; exact if_pos rfl
  · exact (if_neg c).trans (h x (by omega))
set_option maxRecDepth 100000 in
theorem m_X12_comparesAll {T : List aT} {I : aI} {J : aJ} {R : aR} (hT : aPT T) (hR : aPR R) {n g : Nat} (hS : SW I n) (hZ : Zr J) (hg : GW I g) : MX12_comparesAll 0 0 [.ref 44] T I J R (aRel (fun _ _ => none) (fun I2 J2 => ∃ I1, SolP I I1 J J2 n ∧ (∃ S, I2 = a_ur I1 91 S) ∧ CmpOK I2 J2 g) T R) := by
  refine a_met (by decide +kernel) a_le (fun X hC hq => ?_)
  show AW X 0 0 0 [some (.ref 44), none] [] T I J R
  refine aw_aload_n hC dX12_comparesAll_0 rfl ?_
  refine kX12_276 hC rfl (m_X12_solves (I := I) (J := J) (n := n) hT hR (by first | exact hS | exact hS.th) hZ) dX12_comparesAll_1 (tg_44 hT) rfl a_le a_le a_le a_le a_le rfl aRel_x (aRel_k (fun I1 J1 hQ => ?_))
  have hSol : SolP _ _ _ _ _ := hQ
  have hg1 := hSol.gw hg
  show AW X 0 0 4 [some (.ref 44), none] [] T I1 J1 R
  refine aw_iconst (v := 0) hC dX12_comparesAll_4 (by decide) ?_
  refine aw_istore_n (L2 := [some (.ref 44), some (.int 0)]) hC dX12_comparesAll_5 rfl (by decide) rfl ?_
  rw [show I1 = a_ur I1 91 (I1 91) from (a_ur_id (fun _ => rfl)).symm]
  have loop : ∀ k, k ≤ 16 * g → ∀ S : Nat → Int32, (∀ x, x < k → S x = sCmp (a_ur I1 91 S) J1 x) → AW X 0 0 6 [some (.ref 44), some (.int (nI k))] [] T (a_ur I1 91 S) J1 R := by
    refine a_down (16 * g) (fun k hkl ih => ?_)
    intro S hS
    have hgS : GW (a_ur I1 91 S) g := GW_cg (by rw [a_ur_ne (by decide)]) (a_ur_ne (by decide)) (a_ur_ne (by decide)) (a_ur_ne (by decide)) (a_ur_ne (by decide)) (a_ur_ne (by decide)) hg1
    have hg4 := hg.g4
    refine aw_iload_n hC dX12_comparesAll_6 rfl ?_
    refine aw_bipush (v := 16) hC dX12_comparesAll_7 (by decide) ?_
    refine aw_aload_n hC dX12_comparesAll_9 rfl ?_
    refine aw_getI hC dX12_comparesAll_10 aF_X12_312 rfl (tg_44 hT) ?_
    rw [a_ur_ne (f := I1) (o := 91) (a := 44) (g := S) (by decide)]
    rw [hg1.gn]
    refine aw_imul hC dX12_comparesAll_13 ?_
    rw [show 16 * (nI g) = nI (16 * g) from pk_mul 16 g]
    refine aw_icmp_ge (tgt := 34) hC dX12_comparesAll_14 (by decide) (fun h1 => ?_) (fun h1 => ?_)
    · show AW X 0 0 34 [some (.ref 44), some (.int (nI k))] [] T (a_ur I1 91 S) J1 R
      have h1n : (16 * g) ≤ k := (nI_leI (a := (16 * g)) (b := k) (by omega) (by omega)).mp h1
      exact aw_return hC hq rfl dX12_comparesAll_34 a_le a_le ⟨rfl, rfl, rfl, I1, hSol, ⟨S, rfl⟩, fun x hx => by have e9 : k = 16 * g := (by omega); subst e9; rw [a_ur_self]; exact hS x hx⟩
    · show AW X 0 0 17 [some (.ref 44), some (.int (nI k))] [] T (a_ur I1 91 S) J1 R
      have h1n : ¬ (16 * g) ≤ k := fun q9 => h1 ((nI_leI (a := (16 * g)) (b := k) (by omega) (by omega)).mpr q9)
      refine aw_aload_n hC dX12_comparesAll_17 rfl ?_
      refine aw_getR hC dX12_comparesAll_18 aF_X12_157 rfl (tg_44 hT) (pr_44_58 hR) ?_
      refine aw_iload_n hC dX12_comparesAll_21 rfl ?_
      refine aw_aload_n hC dX12_comparesAll_22 rfl ?_
      refine aw_iload_n hC dX12_comparesAll_23 rfl ?_
      refine kX12_355 hC rfl (m_X12_compares (I := a_ur I1 91 S) (J := J1) hT hR (x := k) (by omega) hgS.so.s2 hgS.ty hgS.up hgS.ks hgS.bd) dX12_comparesAll_24 (tg_44 hT) rfl a_le a_le a_le a_le a_le rfl aPure_x (aPure_k ?_)
      show AW X 0 0 27 [some (.ref 44), some (.int (nI k))] [.int (sCmp (a_ur I1 91 S) J1 k), .int (nI k), .ref 91] T (a_ur I1 91 S) J1 R
      refine aw_iastore_k (j := k) hC dX12_comparesAll_27 (tg_91 hT) (nI_clamp (by omega)) (vp_in_nI (by omega) (by decide)) ?_
      refine aw_iinc (v := nI (k + 1)) (L2 := [some (.ref 44), some (.int (nI (k + 1)))]) hC dX12_comparesAll_28 rfl (nI_inc _) (by decide) rfl ?_
      refine aw_goto (tgt := 6) hC dX12_comparesAll_31 (by decide) ?_
      rw [a_ur_put]
      exact ih (by omega) _ (cmp_put hg4 (by omega) hg1.so hS)
  exact loop 0 (Nat.zero_le _) _ (fun x hx => absurd hx (by omega))
