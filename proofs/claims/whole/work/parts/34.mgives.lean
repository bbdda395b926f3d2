abbrev SO2 (I : aI) : Prop := ∀ j, j < 12 → I 65 j = -1 ∨ (I 65 j = nI (iN I 65 j) ∧ iN I 65 j < 22)
/-- the source of an attribute of a name gives (s: the source, a natural), by the sets that are found -/
abbrev gvA (I : aI) (J : aJ) (x s : Nat) : Int32 := if sVal I J s < 0 then -1 else sVal I J s <<< (nI (iN I 61 (iN I 62 (x / 16))) &&& 31)
abbrev gvB (I : aI) (x s : Nat) : Int32 := if I 69 (16 * ((s - 10) / 3) + x % 16) = 0 ∨ 2 < I 91 (16 * ((s - 10) / 3) + x % 16) then -1 else (I 70 (3 * (16 * ((s - 10) / 3) + x % 16) + (s - 10) % 3) >>> (nI (iN I 61 (iN I 62 ((s - 10) / 3))) &&& 31)) <<< (nI (iN I 61 (iN I 62 (x / 16))) &&& 31)
def sGives (I : aI) (J : aJ) (x a : Nat) : Int32 :=
  if I 65 (3 * (x / 16) + a) = -1 ∨ I 58 (3 * iN I 62 (x / 16) + a) &&& 2 ≠ 0 then 0
  else if iN I 65 (3 * (x / 16) + a) < 10 then gvA I J x (iN I 65 (3 * (x / 16) + a)) else gvB I x (iN I 65 (3 * (x / 16) + a))
theorem gv_0 {I : aI} {J : aJ} {x a : Nat} (h : I 65 (3 * (x / 16) + a) = -1 ∨ I 58 (3 * iN I 62 (x / 16) + a) &&& 2 ≠ 0) : 0 = sGives I J x a := (if_pos h).symm
theorem nI_ne1 {m : Nat} (h : m < 22) : ¬ nI m = -1 := fun q => by
  have := (i_eq _ _).mp q; rw [nI_toInt (by omega), show (-1 : Int32).toInt = -1 from by decide] at this; omega
theorem gv_a {I : aI} {J : aJ} {x a : Nat} {v : Int32} (h1 : I 65 (3 * (x / 16) + a) = nI (iN I 65 (3 * (x / 16) + a)) ∧ iN I 65 (3 * (x / 16) + a) < 22) (h2 : ¬ I 58 (3 * iN I 62 (x / 16) + a) &&& 2 ≠ 0) (h3 : iN I 65 (3 * (x / 16) + a) < 10) (hv : v = gvA I J x (iN I 65 (3 * (x / 16) + a))) : v = sGives I J x a := by
  rw [sGives, if_neg (fun q => q.elim (fun q => nI_ne1 h1.2 (h1.1.symm.trans q)) h2), if_pos h3]; exact hv
theorem gv_b {I : aI} {J : aJ} {x a : Nat} {v : Int32} (h1 : I 65 (3 * (x / 16) + a) = nI (iN I 65 (3 * (x / 16) + a)) ∧ iN I 65 (3 * (x / 16) + a) < 22) (h2 : ¬ I 58 (3 * iN I 62 (x / 16) + a) &&& 2 ≠ 0) (h3 : ¬ iN I 65 (3 * (x / 16) + a) < 10) (hv : v = gvB I x (iN I 65 (3 * (x / 16) + a))) : v = sGives I J x a := by
  rw [sGives, if_neg (fun q => q.elim (fun q => nI_ne1 h1.2 (h1.1.symm.trans q)) h2), if_neg h3]; exact hv
set_option maxRecDepth 100000 in
theorem m_X12_gives {T : List aT} {I : aI} {J : aJ} {R : aR} (hT : aPT T) (hR : aPR R) {x a : Nat} (hx : x < 64) (ha : a < 3) (hs65 : SO2 I) (ht : NR I 62 4 3) (hu : NR I 61 3 3) : MX12_gives 0 0 [.ref 44, .int (nI x), .int (nI a)] T I J R (aPure (some (.int (sGives I J x a))) T I J R) := by
  refine a_met (by decide +kernel) a_le (fun X hC hq => ?_)
  show AW X 0 0 0 [some (.ref 44), some (.int (nI x)), some (.int (nI a)), none, none, none, none] [] T I J R
  refine aw_iload_n hC dX12_gives_0 rfl ?_
  refine aw_bipush (v := 16) hC dX12_gives_1 (by decide) ?_
  refine aw_idiv hC dX12_gives_3 (by decide) ?_
  rw [show (nI x) / 16 = nI (x / 16) from pk_div (a := x) (d := 16) (by omega) (by decide) (by decide)]
  refine aw_istore_n (L2 := [some (.ref 44), some (.int (nI x)), some (.int (nI a)), some (.int (nI (x / 16))), none, none, none]) hC dX12_gives_4 rfl (by decide) rfl ?_
  refine aw_aload_n hC dX12_gives_5 rfl ?_
  refine aw_getR hC dX12_gives_6 aF_X12_71 rfl (tg_44 hT) (pr_44_24 hR) ?_
  refine aw_iconst (v := 3) hC dX12_gives_9 (by decide) ?_
  refine aw_iload_n hC dX12_gives_10 rfl ?_
  refine aw_imul hC dX12_gives_11 ?_
  rw [show 3 * (nI (x / 16)) = nI (3 * (x / 16)) from pk_mul 3 (x / 16)]
  refine aw_iload_n hC dX12_gives_12 rfl ?_
  refine aw_iadd hC dX12_gives_13 ?_
  rw [show (nI (3 * (x / 16))) + (nI a) = nI ((3 * (x / 16)) + a) from nI_add (3 * (x / 16)) a]
  refine aw_iaload_k (j := ((3 * (x / 16)) + a)) hC dX12_gives_14 (tg_65 hT) (nI_clamp (by omega)) (vp_in_nI (by omega) (by decide)) ?_
  rcases hs65 (3 * (x / 16) + a) (by omega) with e5 | e5
  · rw [show I 65 ((3 * (x / 16)) + a) = -1 from e5]
    refine aw_istore (L2 := [some (.ref 44), some (.int (nI x)), some (.int (nI a)), some (.int (nI (x / 16))), some (.int (-1)), none, none]) hC dX12_gives_15 (by decide) rfl ?_
    refine aw_iload hC dX12_gives_17 rfl ?_
    refine aw_iconst (v := (-1)) hC dX12_gives_19 (by decide) ?_
    refine aw_icmp_eq (tgt := 38) hC dX12_gives_20 (by decide) (fun _ => ?_) (fun h => absurd rfl h)
    show AW X 0 0 38 [some (.ref 44), some (.int (nI x)), some (.int (nI a)), some (.int (nI (x / 16))), some (.int (-1)), none, none] [] T I J R
    refine aw_iconst (v := 0) hC dX12_gives_38 (by decide) ?_
    exact aw_ireturn hC hq rfl dX12_gives_39 a_le a_le (aPure_i (gv_0 (by first | exact Or.inl e5 | exact Or.inr (bI_dn.mp (by assumption)))))
  · rw [show I 65 ((3 * (x / 16)) + a) = nI (iN I 65 (3 * (x / 16) + a)) from e5.1]
    refine aw_istore (L2 := [some (.ref 44), some (.int (nI x)), some (.int (nI a)), some (.int (nI (x / 16))), some (.int (nI (iN I 65 (3 * (x / 16) + a)))), none, none]) hC dX12_gives_15 (by decide) rfl ?_
    refine aw_iload hC dX12_gives_17 rfl ?_
    refine aw_iconst (v := (-1)) hC dX12_gives_19 (by decide) ?_
    refine aw_icmp_eq (tgt := 38) hC dX12_gives_20 (by decide) (fun h => absurd h (nI_ne1 e5.2)) (fun _ => ?_)
    show AW X 0 0 23 [some (.ref 44), some (.int (nI x)), some (.int (nI a)), some (.int (nI (x / 16))), some (.int (nI (iN I 65 (3 * (x / 16) + a)))), none, none] [] T I J R
    refine aw_aload_n hC dX12_gives_23 rfl ?_
    refine aw_aload_n hC dX12_gives_24 rfl ?_
    refine aw_getR hC dX12_gives_25 aF_X12_62 rfl (tg_44 hT) (pr_44_21 hR) ?_
    refine aw_iload_n hC dX12_gives_28 rfl ?_
    refine aw_iaload_k (j := (x / 16)) hC dX12_gives_29 (tg_62 hT) (nI_clamp (by omega)) (vp_in_nI (by omega) (by decide)) ?_
    have hb1 := ht (x / 16) (by omega)
    rw [hb1.1]
    refine aw_iload_n hC dX12_gives_30 rfl ?_
    refine aw_iconst (v := 2) hC dX12_gives_31 (by decide) ?_
    refine kX12_330 hC rfl (m_X12_hasN hT hR (t := (iN I 62 (x / 16))) (a := a) (by omega) (by omega) (2 : Int32)) dX12_gives_32 (tg_44 hT) rfl a_le a_le a_le a_le a_le rfl aPure_x (aPure_k ?_)
    show AW X 0 0 35 [some (.ref 44), some (.int (nI x)), some (.int (nI a)), some (.int (nI (x / 16))), some (.int (nI (iN I 65 (3 * (x / 16) + a)))), none, none] [.int (bI (decide (I 58 (3 * (iN I 62 (x / 16)) + a) &&& (2 : Int32) ≠ 0)))] T I J R
    refine aw_if_eq (tgt := 40) hC dX12_gives_35 (by decide) (fun h2 => ?_) (fun h2 => ?_)
    · show AW X 0 0 40 [some (.ref 44), some (.int (nI x)), some (.int (nI a)), some (.int (nI (x / 16))), some (.int (nI (iN I 65 (3 * (x / 16) + a)))), none, none] [] T I J R
      refine aw_iload hC dX12_gives_40 rfl ?_
      refine aw_bipush (v := 10) hC dX12_gives_42 (by decide) ?_
      refine aw_icmp_ge (tgt := 79) hC dX12_gives_44 (by decide) (fun h3 => ?_) (fun h3 => ?_)
      · show AW X 0 0 79 [some (.ref 44), some (.int (nI x)), some (.int (nI a)), some (.int (nI (x / 16))), some (.int (nI (iN I 65 (3 * (x / 16) + a)))), none, none] [] T I J R
        have h3n : 10 ≤ (iN I 65 (3 * (x / 16) + a)) := (nI_leI (a := 10) (b := (iN I 65 (3 * (x / 16) + a))) (by omega) (by omega)).mp h3
        refine aw_iload hC dX12_gives_79 rfl ?_
        refine kX12_333 hC rfl (m_X12_sourceOfN (m := (iN I 65 (3 * (x / 16) + a))) (by omega) (by omega)) dX12_gives_81 rfl a_le a_le a_le a_le a_le rfl aPure_x (aPure_k ?_)
        show AW X 0 0 84 [some (.ref 44), some (.int (nI x)), some (.int (nI a)), some (.int (nI (x / 16))), some (.int (nI (iN I 65 (3 * (x / 16) + a)))), none, none] [.int (nI (((iN I 65 (3 * (x / 16) + a)) - 10) / 3))] T I J R
        refine aw_istore (L2 := [some (.ref 44), some (.int (nI x)), some (.int (nI a)), some (.int (nI (x / 16))), some (.int (nI (iN I 65 (3 * (x / 16) + a)))), some (.int (nI (((iN I 65 (3 * (x / 16) + a)) - 10) / 3))), none]) hC dX12_gives_84 (by decide) rfl ?_
        refine aw_bipush (v := 16) hC dX12_gives_86 (by decide) ?_
        refine aw_iload hC dX12_gives_88 rfl ?_
        refine aw_imul hC dX12_gives_90 ?_
        rw [show 16 * (nI (((iN I 65 (3 * (x / 16) + a)) - 10) / 3)) = nI (16 * (((iN I 65 (3 * (x / 16) + a)) - 10) / 3)) from pk_mul 16 (((iN I 65 (3 * (x / 16) + a)) - 10) / 3)]
        refine aw_iload_n hC dX12_gives_91 rfl ?_
        refine aw_bipush (v := 16) hC dX12_gives_92 (by decide) ?_
        refine aw_irem hC dX12_gives_94 (by decide) ?_
        rw [show (nI x) - (nI x) / 16 * 16 = nI (x % 16) from pk_rem (a := x) (d := 16) (by omega) (by decide) (by decide)]
        refine aw_iadd hC dX12_gives_95 ?_
        rw [show (nI (16 * (((iN I 65 (3 * (x / 16) + a)) - 10) / 3))) + (nI (x % 16)) = nI ((16 * (((iN I 65 (3 * (x / 16) + a)) - 10) / 3)) + (x % 16)) from nI_add (16 * (((iN I 65 (3 * (x / 16) + a)) - 10) / 3)) (x % 16)]
        refine aw_istore (L2 := [some (.ref 44), some (.int (nI x)), some (.int (nI a)), some (.int (nI (x / 16))), some (.int (nI (iN I 65 (3 * (x / 16) + a)))), some (.int (nI (((iN I 65 (3 * (x / 16) + a)) - 10) / 3))), some (.int (nI ((16 * (((iN I 65 (3 * (x / 16) + a)) - 10) / 3)) + (x % 16))))]) hC dX12_gives_96 (by decide) rfl ?_
        refine aw_aload_n hC dX12_gives_98 rfl ?_
        refine aw_getR hC dX12_gives_99 aF_X12_83 rfl (tg_44 hT) (pr_44_29 hR) ?_
        refine aw_iload hC dX12_gives_102 rfl ?_
        refine aw_iaload_k (j := ((16 * (((iN I 65 (3 * (x / 16) + a)) - 10) / 3)) + (x % 16))) hC dX12_gives_104 (tg_69 hT) (nI_clamp (by omega)) (vp_in_nI (by omega) (by decide)) ?_
        refine aw_if_eq (tgt := 119) hC dX12_gives_105 (by decide) (fun h4 => ?_) (fun h4 => ?_)
        · show AW X 0 0 119 [some (.ref 44), some (.int (nI x)), some (.int (nI a)), some (.int (nI (x / 16))), some (.int (nI (iN I 65 (3 * (x / 16) + a)))), some (.int (nI (((iN I 65 (3 * (x / 16) + a)) - 10) / 3))), some (.int (nI ((16 * (((iN I 65 (3 * (x / 16) + a)) - 10) / 3)) + (x % 16))))] [] T I J R
          refine aw_iconst (v := (-1)) hC dX12_gives_119 (by decide) ?_
          exact aw_ireturn hC hq rfl dX12_gives_120 a_le a_le (aPure_i (gv_b e5 (bI_d0.mp (by assumption)) (by omega) (by clear hC hq; (try simp only [bI_e0, bI_n0, decide_eq_false_iff_not, decide_eq_true_eq, Classical.not_not] at *); grind)))
        · show AW X 0 0 108 [some (.ref 44), some (.int (nI x)), some (.int (nI a)), some (.int (nI (x / 16))), some (.int (nI (iN I 65 (3 * (x / 16) + a)))), some (.int (nI (((iN I 65 (3 * (x / 16) + a)) - 10) / 3))), some (.int (nI ((16 * (((iN I 65 (3 * (x / 16) + a)) - 10) / 3)) + (x % 16))))] [] T I J R
          refine aw_aload_n hC dX12_gives_108 rfl ?_
          refine aw_getR hC dX12_gives_109 aF_X12_157 rfl (tg_44 hT) (pr_44_58 hR) ?_
          refine aw_iload hC dX12_gives_112 rfl ?_
          refine aw_iaload_k (j := ((16 * (((iN I 65 (3 * (x / 16) + a)) - 10) / 3)) + (x % 16))) hC dX12_gives_114 (tg_91 hT) (nI_clamp (by omega)) (vp_in_nI (by omega) (by decide)) ?_
          refine aw_iconst (v := 2) hC dX12_gives_115 (by decide) ?_
          refine aw_icmp_le (tgt := 121) hC dX12_gives_116 (by decide) (fun h5 => ?_) (fun h5 => ?_)
          · show AW X 0 0 121 [some (.ref 44), some (.int (nI x)), some (.int (nI a)), some (.int (nI (x / 16))), some (.int (nI (iN I 65 (3 * (x / 16) + a)))), some (.int (nI (((iN I 65 (3 * (x / 16) + a)) - 10) / 3))), some (.int (nI ((16 * (((iN I 65 (3 * (x / 16) + a)) - 10) / 3)) + (x % 16))))] [] T I J R
            refine aw_aload_n hC dX12_gives_121 rfl ?_
            refine aw_getR hC dX12_gives_122 aF_X12_86 rfl (tg_44 hT) (pr_44_30 hR) ?_
            refine aw_iconst (v := 3) hC dX12_gives_125 (by decide) ?_
            refine aw_iload hC dX12_gives_126 rfl ?_
            refine aw_imul hC dX12_gives_128 ?_
            rw [show 3 * (nI ((16 * (((iN I 65 (3 * (x / 16) + a)) - 10) / 3)) + (x % 16))) = nI (3 * ((16 * (((iN I 65 (3 * (x / 16) + a)) - 10) / 3)) + (x % 16))) from pk_mul 3 ((16 * (((iN I 65 (3 * (x / 16) + a)) - 10) / 3)) + (x % 16))]
            refine aw_iload hC dX12_gives_129 rfl ?_
            refine aw_bipush (v := 10) hC dX12_gives_131 (by decide) ?_
            refine aw_isub hC dX12_gives_133 ?_
            rw [show (nI (iN I 65 (3 * (x / 16) + a))) - 10 = nI ((iN I 65 (3 * (x / 16) + a)) - 10) from pk_sub (a := (iN I 65 (3 * (x / 16) + a))) (b := 10) (by omega)]
            refine aw_iconst (v := 3) hC dX12_gives_134 (by decide) ?_
            refine aw_irem hC dX12_gives_135 (by decide) ?_
            rw [show (nI ((iN I 65 (3 * (x / 16) + a)) - 10)) - (nI ((iN I 65 (3 * (x / 16) + a)) - 10)) / 3 * 3 = nI (((iN I 65 (3 * (x / 16) + a)) - 10) % 3) from pk_rem (a := ((iN I 65 (3 * (x / 16) + a)) - 10)) (d := 3) (by omega) (by decide) (by decide)]
            refine aw_iadd hC dX12_gives_136 ?_
            rw [show (nI (3 * ((16 * (((iN I 65 (3 * (x / 16) + a)) - 10) / 3)) + (x % 16)))) + (nI (((iN I 65 (3 * (x / 16) + a)) - 10) % 3)) = nI ((3 * ((16 * (((iN I 65 (3 * (x / 16) + a)) - 10) / 3)) + (x % 16))) + (((iN I 65 (3 * (x / 16) + a)) - 10) % 3)) from nI_add (3 * ((16 * (((iN I 65 (3 * (x / 16) + a)) - 10) / 3)) + (x % 16))) (((iN I 65 (3 * (x / 16) + a)) - 10) % 3)]
            refine aw_iaload_k (j := ((3 * ((16 * (((iN I 65 (3 * (x / 16) + a)) - 10) / 3)) + (x % 16))) + (((iN I 65 (3 * (x / 16) + a)) - 10) % 3))) hC dX12_gives_137 (tg_70 hT) (nI_clamp (by omega)) (vp_in_nI (by omega) (by decide)) ?_
            refine aw_aload_n hC dX12_gives_138 rfl ?_
            refine aw_getR hC dX12_gives_139 aF_X12_59 rfl (tg_44 hT) (pr_44_19 hR) ?_
            refine aw_aload_n hC dX12_gives_142 rfl ?_
            refine aw_getR hC dX12_gives_143 aF_X12_62 rfl (tg_44 hT) (pr_44_21 hR) ?_
            refine aw_iload hC dX12_gives_146 rfl ?_
            refine aw_iaload_k (j := (((iN I 65 (3 * (x / 16) + a)) - 10) / 3)) hC dX12_gives_148 (tg_62 hT) (nI_clamp (by omega)) (vp_in_nI (by omega) (by decide)) ?_
            have hb6 := ht (((iN I 65 (3 * (x / 16) + a)) - 10) / 3) (by omega)
            rw [hb6.1]
            refine aw_iaload_k (j := (iN I 62 (((iN I 65 (3 * (x / 16) + a)) - 10) / 3))) hC dX12_gives_149 (tg_61 hT) (nI_clamp (by omega)) (vp_in_nI (by omega) (by decide)) ?_
            have hb7 := hu (iN I 62 (((iN I 65 (3 * (x / 16) + a)) - 10) / 3)) (by omega)
            rw [hb7.1]
            refine aw_ishr hC dX12_gives_150 ?_
            refine aw_aload_n hC dX12_gives_151 rfl ?_
            refine aw_getR hC dX12_gives_152 aF_X12_59 rfl (tg_44 hT) (pr_44_19 hR) ?_
            refine aw_aload_n hC dX12_gives_155 rfl ?_
            refine aw_getR hC dX12_gives_156 aF_X12_62 rfl (tg_44 hT) (pr_44_21 hR) ?_
            refine aw_iload_n hC dX12_gives_159 rfl ?_
            refine aw_iaload_k (j := (x / 16)) hC dX12_gives_160 (tg_62 hT) (nI_clamp (by omega)) (vp_in_nI (by omega) (by decide)) ?_
            have hb8 := ht (x / 16) (by omega)
            rw [hb8.1]
            refine aw_iaload_k (j := (iN I 62 (x / 16))) hC dX12_gives_161 (tg_61 hT) (nI_clamp (by omega)) (vp_in_nI (by omega) (by decide)) ?_
            have hb9 := hu (iN I 62 (x / 16)) (by omega)
            rw [hb9.1]
            refine aw_ishl hC dX12_gives_162 ?_
            exact aw_ireturn hC hq rfl dX12_gives_163 a_le a_le (aPure_i (gv_b e5 (bI_d0.mp (by assumption)) (by omega) (by clear hC hq; (try simp only [bI_e0, bI_n0, decide_eq_false_iff_not, decide_eq_true_eq, Classical.not_not] at *); grind)))
          · show AW X 0 0 119 [some (.ref 44), some (.int (nI x)), some (.int (nI a)), some (.int (nI (x / 16))), some (.int (nI (iN I 65 (3 * (x / 16) + a)))), some (.int (nI (((iN I 65 (3 * (x / 16) + a)) - 10) / 3))), some (.int (nI ((16 * (((iN I 65 (3 * (x / 16) + a)) - 10) / 3)) + (x % 16))))] [] T I J R
            refine aw_iconst (v := (-1)) hC dX12_gives_119 (by decide) ?_
            exact aw_ireturn hC hq rfl dX12_gives_120 a_le a_le (aPure_i (gv_b e5 (bI_d0.mp (by assumption)) (by omega) (by clear hC hq; (try simp only [bI_e0, bI_n0, decide_eq_false_iff_not, decide_eq_true_eq, Classical.not_not] at *); grind)))
      · show AW X 0 0 47 [some (.ref 44), some (.int (nI x)), some (.int (nI a)), some (.int (nI (x / 16))), some (.int (nI (iN I 65 (3 * (x / 16) + a)))), none, none] [] T I J R
        have h3n : ¬ 10 ≤ (iN I 65 (3 * (x / 16) + a)) := fun q9 => h3 ((nI_leI (a := 10) (b := (iN I 65 (3 * (x / 16) + a))) (by omega) (by omega)).mpr q9)
        refine aw_aload_n hC dX12_gives_47 rfl ?_
        refine aw_iload hC dX12_gives_48 rfl ?_
        refine kX12_285 hC rfl (m_X12_valueOf (J := J) hT hR (f := (iN I 65 (3 * (x / 16) + a))) (by omega)) dX12_gives_50 (tg_44 hT) rfl a_le a_le a_le a_le a_le rfl aPure_x (aPure_k ?_)
        show AW X 0 0 53 [some (.ref 44), some (.int (nI x)), some (.int (nI a)), some (.int (nI (x / 16))), some (.int (nI (iN I 65 (3 * (x / 16) + a)))), none, none] [.int (sVal I J (iN I 65 (3 * (x / 16) + a)))] T I J R
        refine aw_istore (L2 := [some (.ref 44), some (.int (nI x)), some (.int (nI a)), some (.int (nI (x / 16))), some (.int (nI (iN I 65 (3 * (x / 16) + a)))), some (.int (sVal I J (iN I 65 (3 * (x / 16) + a)))), none]) hC dX12_gives_53 (by decide) rfl ?_
        refine aw_iload hC dX12_gives_55 rfl ?_
        refine aw_if_ge (tgt := 64) hC dX12_gives_57 (by decide) (fun h10 => ?_) (fun h10 => ?_)
        · show AW X 0 0 64 [some (.ref 44), some (.int (nI x)), some (.int (nI a)), some (.int (nI (x / 16))), some (.int (nI (iN I 65 (3 * (x / 16) + a)))), some (.int (sVal I J (iN I 65 (3 * (x / 16) + a)))), none] [] T I J R
          refine aw_iload hC dX12_gives_64 rfl ?_
          refine aw_aload_n hC dX12_gives_66 rfl ?_
          refine aw_getR hC dX12_gives_67 aF_X12_59 rfl (tg_44 hT) (pr_44_19 hR) ?_
          refine aw_aload_n hC dX12_gives_70 rfl ?_
          refine aw_getR hC dX12_gives_71 aF_X12_62 rfl (tg_44 hT) (pr_44_21 hR) ?_
          refine aw_iload_n hC dX12_gives_74 rfl ?_
          refine aw_iaload_k (j := (x / 16)) hC dX12_gives_75 (tg_62 hT) (nI_clamp (by omega)) (vp_in_nI (by omega) (by decide)) ?_
          have hb11 := ht (x / 16) (by omega)
          rw [hb11.1]
          refine aw_iaload_k (j := (iN I 62 (x / 16))) hC dX12_gives_76 (tg_61 hT) (nI_clamp (by omega)) (vp_in_nI (by omega) (by decide)) ?_
          have hb12 := hu (iN I 62 (x / 16)) (by omega)
          rw [hb12.1]
          refine aw_ishl hC dX12_gives_77 ?_
          exact aw_ireturn hC hq rfl dX12_gives_78 a_le a_le (aPure_i (gv_a e5 (bI_d0.mp (by assumption)) (by omega) (by clear hC hq; (try simp only [bI_e0, bI_n0, decide_eq_false_iff_not, decide_eq_true_eq, Classical.not_not] at *); simp only [gvA]; first | rw [if_pos (by assumption)] | rw [if_neg (Int32.not_lt.mpr (by assumption))] | grind)))
        · show AW X 0 0 60 [some (.ref 44), some (.int (nI x)), some (.int (nI a)), some (.int (nI (x / 16))), some (.int (nI (iN I 65 (3 * (x / 16) + a)))), some (.int (sVal I J (iN I 65 (3 * (x / 16) + a)))), none] [] T I J R
          refine aw_iconst (v := (-1)) hC dX12_gives_60 (by decide) ?_
          refine aw_goto (tgt := 78) hC dX12_gives_61 (by decide) ?_
          exact aw_ireturn hC hq rfl dX12_gives_78 a_le a_le (aPure_i (gv_a e5 (bI_d0.mp (by assumption)) (by omega) (by clear hC hq; (try simp only [bI_e0, bI_n0, decide_eq_false_iff_not, decide_eq_true_eq, Classical.not_not] at *); simp only [gvA]; first | rw [if_pos (by assumption)] | rw [if_neg (Int32.not_lt.mpr (by assumption))] | grind)))
    · show AW X 0 0 38 [some (.ref 44), some (.int (nI x)), some (.int (nI a)), some (.int (nI (x / 16))), some (.int (nI (iN I 65 (3 * (x / 16) + a)))), none, none] [] T I J R
      refine aw_iconst (v := 0) hC dX12_gives_38 (by decide) ?_
      exact aw_ireturn hC hq rfl dX12_gives_39 a_le a_le (aPure_i (gv_0 (by first | exact Or.inl e5 | exact Or.inr (bI_dn.mp (by assumption)))))
