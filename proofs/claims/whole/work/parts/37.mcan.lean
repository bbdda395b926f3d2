def allB (p : Nat → Bool) : Nat → Bool
  | 0 => true
  | k + 1 => allB p k && p k
theorem allB_iff {p : Nat → Bool} : ∀ {n : Nat}, allB p n = true ↔ ∀ k, k < n → p k = true
  | 0 => by simp [allB]
  | n + 1 => by
    rw [allB, Bool.and_eq_true, allB_iff]
    exact ⟨fun h k hk => by by_cases e : k = n
                            · rw [e]; exact h.2
                            · exact h.1 k (by omega), fun h => ⟨fun k hk => h k (by omega), h n (by omega)⟩⟩
theorem all_st {p : Nat → Bool} {k : Nat} {acc : Bool} (h : acc = allB p k) : (acc && p k) = allB p (k + 1) := by rw [allB, h]
theorem bI_and (a b : Bool) : bI a &&& bI b = bI (a && b) := by cases a <;> cases b <;> rfl
theorem bI_and1 (a : Bool) : bI a &&& 1 = bI a := by cases a <;> rfl
theorem bI_and0 (a : Bool) : bI a &&& 0 = bI false := by cases a <;> rfl
abbrev hkB (I : aI) (h : Nat) (x : Int32) : Bool := anyB (fun j => decide (I 64 (8 * h + j) = x)) (iN I 63 h)
abbrev csK (I : aI) (g s : Nat) : Nat → Bool := fun k => hkB I ((s - 10) / 3) (I 64 (8 * g + k))
def cS (I : aI) (J : aJ) (g a : Nat) (v : Int32) : Bool :=
  if I 65 (3 * g + a) = -1 then true
  else if iN I 65 (3 * g + a) < 10 then decide (0 ≤ sVal I J (iN I 65 (3 * g + a))) && (decide ((v >>> (nI (iN I 65 (3 * g + a)) &&& 31)) &&& 1 = 0) || decide (I 58 (3 * iN I 62 g + a) &&& 4 ≠ 0))
  else allB (csK I g (iN I 65 (3 * g + a))) (iN I 63 g)
theorem cS_0 {I : aI} {J : aJ} {g a : Nat} {v : Int32} (h : I 65 (3 * g + a) = -1) : true = cS I J g a v := by rw [cS, if_pos h]
theorem cS_a {I : aI} {J : aJ} {g a s : Nat} {v : Int32} {b : Bool} (hs : s = iN I 65 (3 * g + a)) (h1 : I 65 (3 * g + a) = nI s ∧ s < 22) (h3 : s < 10) (hv : b = (decide (0 ≤ sVal I J s) && (decide ((v >>> (nI s &&& 31)) &&& 1 = 0) || decide (I 58 (3 * iN I 62 g + a) &&& 4 ≠ 0)))) : b = cS I J g a v := by
  subst hs; rw [cS, if_neg (fun q => nI_ne1 h1.2 (h1.1.symm.trans q)), if_pos h3]; exact hv
theorem cS_b {I : aI} {J : aJ} {g a s : Nat} {v : Int32} {b : Bool} (hs : s = iN I 65 (3 * g + a)) (h1 : I 65 (3 * g + a) = nI s ∧ s < 22) (h3 : ¬ s < 10) (hv : b = allB (csK I g s) (iN I 63 g)) : b = cS I J g a v := by
  subst hs; rw [cS, if_neg (fun q => nI_ne1 h1.2 (h1.1.symm.trans q)), if_neg h3]; exact hv
set_option maxRecDepth 100000 in
theorem m_X12_canSource {T : List aT} {I : aI} {J : aJ} {R : aR} (hT : aPT T) (hR : aPR R) {g a : Nat} (hg : g < 4) (ha : a < 3) (hs65 : SO3 I) (ht : NR I 62 4 3) (hk : NR I 63 4 9) (v : Int32) : MX12_canSource 0 0 [.ref 44, .int (nI g), .int (nI a), .int v] T I J R (aPure (some (.int (bI (cS I J g a v)))) T I J R) := by
  refine a_met (by decide +kernel) a_le (fun X hC hq => ?_)
  show AW X 0 0 0 [some (.ref 44), some (.int (nI g)), some (.int (nI a)), some (.int v), none, none, none] [] T I J R
  have hs65' : ∀ s, s = iN I 65 (3 * g + a) → I 65 (3 * g + a) = nI s → 10 ≤ s → (s - 10) / 3 < g := fun s hs h1 h2 => by subst hs; rcases hs65 (3 * g + a) (by omega) with q | q; exact absurd h2 (by rw [iN, q]; decide); have := q.2.2 h2; omega
  refine aw_aload_n hC dX12_canSource_0 rfl ?_
  refine aw_getR hC dX12_canSource_1 aF_X12_71 rfl (tg_44 hT) (pr_44_24 hR) ?_
  refine aw_iconst (v := 3) hC dX12_canSource_4 (by decide) ?_
  refine aw_iload_n hC dX12_canSource_5 rfl ?_
  refine aw_imul hC dX12_canSource_6 ?_
  rw [show 3 * (nI g) = nI (3 * g) from pk_mul 3 g]
  refine aw_iload_n hC dX12_canSource_7 rfl ?_
  refine aw_iadd hC dX12_canSource_8 ?_
  rw [show (nI (3 * g)) + (nI a) = nI ((3 * g) + a) from nI_add (3 * g) a]
  refine aw_iaload_k (j := ((3 * g) + a)) hC dX12_canSource_9 (tg_65 hT) (nI_clamp (by omega)) (vp_in_nI (by omega) (by decide)) ?_
  rcases hs65.s2 (3 * g + a) (by omega) with e5 | e5
  · rw [show I 65 ((3 * g) + a) = -1 from e5]
    refine aw_istore (L2 := [some (.ref 44), some (.int (nI g)), some (.int (nI a)), some (.int v), some (.int (-1)), none, none]) hC dX12_canSource_10 (by decide) rfl ?_
    refine aw_iconst (v := 1) hC dX12_canSource_12 (by decide) ?_
    refine aw_istore (L2 := [some (.ref 44), some (.int (nI g)), some (.int (nI a)), some (.int v), some (.int (-1)), some (.int 1), none]) hC dX12_canSource_13 (by decide) rfl ?_
    refine aw_iload hC dX12_canSource_15 rfl ?_
    refine aw_if_lt (tgt := 67) hC dX12_canSource_17 (by decide) (fun _ => ?_) (fun h => absurd (by decide) h)
    show AW X 0 0 67 [some (.ref 44), some (.int (nI g)), some (.int (nI a)), some (.int v), some (.int (-1)), some (.int 1), none] [] T I J R
    refine aw_iconst (v := 0) hC dX12_canSource_67 (by decide) ?_
    refine aw_istore (L2 := [some (.ref 44), some (.int (nI g)), some (.int (nI a)), some (.int v), some (.int (-1)), some (.int 1), some (.int 0)]) hC dX12_canSource_68 (by decide) rfl ?_
    refine aw_iload hC dX12_canSource_70 rfl ?_
    refine aw_aload_n hC dX12_canSource_72 rfl ?_
    refine aw_getR hC dX12_canSource_73 aF_X12_65 rfl (tg_44 hT) (pr_44_22 hR) ?_
    refine aw_iload_n hC dX12_canSource_76 rfl ?_
    refine aw_iaload_k (j := g) hC dX12_canSource_77 (tg_63 hT) (nI_clamp (by omega)) (vp_in_nI (by omega) (by decide)) ?_
    have hb1 := hk g (by omega)
    rw [hb1.1]
    refine aw_icmp_ge (tgt := 120) hC dX12_canSource_78 (by decide) (fun h2 => ?_) (fun h2 => ?_)
    · show AW X 0 0 120 [some (.ref 44), some (.int (nI g)), some (.int (nI a)), some (.int v), some (.int (-1)), some (.int 1), some (.int 0)] [] T I J R
      have h2n : (iN I 63 g) ≤ 0 := (nI_leI (a := (iN I 63 g)) (b := 0) (by omega) (by omega)).mp h2
      refine aw_iload hC dX12_canSource_120 rfl ?_
      exact aw_zreturn hC hq rfl (Or.inr rfl) dX12_canSource_122 a_le a_le (aPure_i (show (1 : Int32) = _ from congrArg bI (cS_0 (v := v) e5)))
    · show AW X 0 0 81 [some (.ref 44), some (.int (nI g)), some (.int (nI a)), some (.int v), some (.int (-1)), some (.int 1), some (.int 0)] [] T I J R
      have h2n : ¬ (iN I 63 g) ≤ 0 := fun q9 => h2 ((nI_leI (a := (iN I 63 g)) (b := 0) (by omega) (by omega)).mpr q9)
      refine aw_iload hC dX12_canSource_81 rfl ?_
      refine aw_bipush (v := 10) hC dX12_canSource_83 (by decide) ?_
      refine aw_icmp_lt (tgt := 120) hC dX12_canSource_85 (by decide) (fun _ => ?_) (fun h3 => absurd h3 (by decide))
      show AW X 0 0 120 [some (.ref 44), some (.int (nI g)), some (.int (nI a)), some (.int v), some (.int (-1)), some (.int 1), some (.int 0)] [] T I J R
      refine aw_iload hC dX12_canSource_120 rfl ?_
      exact aw_zreturn hC hq rfl (Or.inr rfl) dX12_canSource_122 a_le a_le (aPure_i (show (1 : Int32) = _ from congrArg bI (cS_0 (v := v) e5)))
  · rw [show I 65 ((3 * g) + a) = nI (iN I 65 (3 * g + a)) from e5.1]
    obtain ⟨s, hsd⟩ : ∃ s, s = iN I 65 (3 * g + a) := ⟨_, rfl⟩
    rw [← hsd] at e5 ⊢
    have hso := hs65' s hsd e5.1
    refine aw_istore (L2 := [some (.ref 44), some (.int (nI g)), some (.int (nI a)), some (.int v), some (.int (nI s)), none, none]) hC dX12_canSource_10 (by decide) rfl ?_
    refine aw_iconst (v := 1) hC dX12_canSource_12 (by decide) ?_
    refine aw_istore (L2 := [some (.ref 44), some (.int (nI g)), some (.int (nI a)), some (.int v), some (.int (nI s)), some (.int 1), none]) hC dX12_canSource_13 (by decide) rfl ?_
    refine aw_iload hC dX12_canSource_15 rfl ?_
    refine aw_if_lt (tgt := 67) hC dX12_canSource_17 (by decide) (fun h => absurd ((nI_ltI (a := s) (b := 0) (by omega) (by omega)).mp h) (by omega)) (fun _ => ?_)
    show AW X 0 0 20 [some (.ref 44), some (.int (nI g)), some (.int (nI a)), some (.int v), some (.int (nI s)), some (.int 1), none] [] T I J R
    refine aw_iload hC dX12_canSource_20 rfl ?_
    refine aw_bipush (v := 10) hC dX12_canSource_22 (by decide) ?_
    refine aw_icmp_ge (tgt := 67) hC dX12_canSource_24 (by decide) (fun h4 => ?_) (fun h4 => ?_)
    · show AW X 0 0 67 [some (.ref 44), some (.int (nI g)), some (.int (nI a)), some (.int v), some (.int (nI s)), some (.int 1), none] [] T I J R
      have h4n : 10 ≤ s := (nI_leI (a := 10) (b := s) (by omega) (by omega)).mp h4
      refine aw_iconst (v := 0) hC dX12_canSource_67 (by decide) ?_
      refine aw_istore (L2 := [some (.ref 44), some (.int (nI g)), some (.int (nI a)), some (.int v), some (.int (nI s)), some (.int 1), some (.int 0)]) hC dX12_canSource_68 (by decide) rfl ?_
      have loop : ∀ k, k ≤ iN I 63 g → ∀ c : Bool, c = allB (csK I g s) k → AW X 0 0 70 [some (.ref 44), some (.int (nI g)), some (.int (nI a)), some (.int v), some (.int (nI s)), some (.int (bI c)), some (.int (nI k))] [] T I J R := by
        refine a_down (iN I 63 g) (fun k hkl ih => ?_)
        intro c hc
        refine aw_iload hC dX12_canSource_70 rfl ?_
        refine aw_aload_n hC dX12_canSource_72 rfl ?_
        refine aw_getR hC dX12_canSource_73 aF_X12_65 rfl (tg_44 hT) (pr_44_22 hR) ?_
        refine aw_iload_n hC dX12_canSource_76 rfl ?_
        refine aw_iaload_k (j := g) hC dX12_canSource_77 (tg_63 hT) (nI_clamp (by omega)) (vp_in_nI (by omega) (by decide)) ?_
        have hb5 := hk g (by omega)
        rw [hb5.1]
        refine aw_icmp_ge (tgt := 120) hC dX12_canSource_78 (by decide) (fun h6 => ?_) (fun h6 => ?_)
        · show AW X 0 0 120 [some (.ref 44), some (.int (nI g)), some (.int (nI a)), some (.int v), some (.int (nI s)), some (.int (bI c)), some (.int (nI k))] [] T I J R
          have h6n : (iN I 63 g) ≤ k := (nI_leI (a := (iN I 63 g)) (b := k) (by omega) (by omega)).mp h6
          refine aw_iload hC dX12_canSource_120 rfl ?_
          exact aw_zreturn hC hq rfl (bI_01 _) dX12_canSource_122 a_le a_le (aPure_i (congrArg bI (cS_b hsd e5 (by omega) (by rw [hc]; congr 1; omega))))
        · show AW X 0 0 81 [some (.ref 44), some (.int (nI g)), some (.int (nI a)), some (.int v), some (.int (nI s)), some (.int (bI c)), some (.int (nI k))] [] T I J R
          have h6n : ¬ (iN I 63 g) ≤ k := fun q9 => h6 ((nI_leI (a := (iN I 63 g)) (b := k) (by omega) (by omega)).mpr q9)
          refine aw_iload hC dX12_canSource_81 rfl ?_
          refine aw_bipush (v := 10) hC dX12_canSource_83 (by decide) ?_
          refine aw_icmp_lt (tgt := 120) hC dX12_canSource_85 (by decide) (fun h7 => ?_) (fun h7 => ?_)
          · show AW X 0 0 120 [some (.ref 44), some (.int (nI g)), some (.int (nI a)), some (.int v), some (.int (nI s)), some (.int (bI c)), some (.int (nI k))] [] T I J R
            have h7n : s < 10 := (nI_ltI (a := s) (b := 10) (by omega) (by omega)).mp h7
            refine aw_iload hC dX12_canSource_120 rfl ?_
            exact aw_zreturn hC hq rfl (bI_01 _) dX12_canSource_122 a_le a_le (aPure_i (congrArg bI (cS_b hsd e5 (by omega) (by rw [hc]; congr 1; omega))))
          · show AW X 0 0 88 [some (.ref 44), some (.int (nI g)), some (.int (nI a)), some (.int v), some (.int (nI s)), some (.int (bI c)), some (.int (nI k))] [] T I J R
            have h7n : ¬ s < 10 := fun q9 => h7 ((nI_ltI (a := s) (b := 10) (by omega) (by omega)).mpr q9)
            refine aw_iload hC dX12_canSource_88 rfl ?_
            refine aw_aload_n hC dX12_canSource_90 rfl ?_
            refine aw_iload hC dX12_canSource_91 rfl ?_
            refine kX12_333 hC rfl (m_X12_sourceOfN (m := s) (by omega) (by omega)) dX12_canSource_93 rfl a_le a_le a_le a_le a_le rfl aPure_x (aPure_k ?_)
            show AW X 0 0 96 [some (.ref 44), some (.int (nI g)), some (.int (nI a)), some (.int v), some (.int (nI s)), some (.int (bI c)), some (.int (nI k))] [.int (nI ((s - 10) / 3)), .ref 44, .int (bI c)] T I J R
            refine aw_aload_n hC dX12_canSource_96 rfl ?_
            refine aw_getR hC dX12_canSource_97 aF_X12_68 rfl (tg_44 hT) (pr_44_23 hR) ?_
            refine aw_bipush (v := 8) hC dX12_canSource_100 (by decide) ?_
            refine aw_iload_n hC dX12_canSource_102 rfl ?_
            refine aw_imul hC dX12_canSource_103 ?_
            rw [show 8 * (nI g) = nI (8 * g) from pk_mul 8 g]
            refine aw_iload hC dX12_canSource_104 rfl ?_
            refine aw_iadd hC dX12_canSource_106 ?_
            rw [show (nI (8 * g)) + (nI k) = nI ((8 * g) + k) from nI_add (8 * g) k]
            refine aw_iaload_k (j := ((8 * g) + k)) hC dX12_canSource_107 (tg_64 hT) (nI_clamp (by omega)) (vp_in_nI (by omega) (by decide)) ?_
            refine kX12_327 hC rfl (m_X12_hasKey (I := I) (J := J) hT hR (g := ((s - 10) / 3)) (by omega) hk (I 64 ((8 * g) + k))) dX12_canSource_108 (tg_44 hT) rfl a_le a_le a_le a_le a_le rfl aPure_x (aPure_k ?_)
            show AW X 0 0 111 [some (.ref 44), some (.int (nI g)), some (.int (nI a)), some (.int v), some (.int (nI s)), some (.int (bI c)), some (.int (nI k))] [.int (bI (hkB I ((s - 10) / 3) (I 64 ((8 * g) + k)))), .int (bI c)] T I J R
            refine aw_iand hC dX12_canSource_111 ?_
            rw [bI_and _ _]
            refine aw_istore (L2 := [some (.ref 44), some (.int (nI g)), some (.int (nI a)), some (.int v), some (.int (nI s)), some (.int (bI (c && hkB I ((s - 10) / 3) (I 64 ((8 * g) + k))))), some (.int (nI k))]) hC dX12_canSource_112 (by decide) rfl ?_
            refine aw_iinc (v := nI (k + 1)) (L2 := [some (.ref 44), some (.int (nI g)), some (.int (nI a)), some (.int v), some (.int (nI s)), some (.int (bI (c && hkB I ((s - 10) / 3) (I 64 ((8 * g) + k))))), some (.int (nI (k + 1)))]) hC dX12_canSource_114 rfl (nI_inc _) (by decide) rfl ?_
            refine aw_goto (tgt := 70) hC dX12_canSource_117 (by decide) ?_
            exact ih (by omega) _ (all_st hc)
      exact loop 0 (Nat.zero_le _) true rfl
    · show AW X 0 0 27 [some (.ref 44), some (.int (nI g)), some (.int (nI a)), some (.int v), some (.int (nI s)), some (.int 1), none] [] T I J R
      have h4n : ¬ 10 ≤ s := fun q9 => h4 ((nI_leI (a := 10) (b := s) (by omega) (by omega)).mpr q9)
      refine aw_aload_n hC dX12_canSource_27 rfl ?_
      refine aw_iload hC dX12_canSource_28 rfl ?_
      refine kX12_285 hC rfl (m_X12_valueOf (J := J) hT hR (f := s) (by omega)) dX12_canSource_30 (tg_44 hT) rfl a_le a_le a_le a_le a_le rfl aPure_x (aPure_k ?_)
      show AW X 0 0 33 [some (.ref 44), some (.int (nI g)), some (.int (nI a)), some (.int v), some (.int (nI s)), some (.int 1), none] [.int (sVal I J s)] T I J R
      refine aw_if_lt (tgt := 64) hC dX12_canSource_33 (by decide) (fun h8 => ?_) (fun h8 => ?_)
      · show AW X 0 0 64 [some (.ref 44), some (.int (nI g)), some (.int (nI a)), some (.int v), some (.int (nI s)), some (.int 1), none] [] T I J R
        refine aw_iconst (v := 0) hC dX12_canSource_64 (by decide) ?_
        refine aw_istore (L2 := [some (.ref 44), some (.int (nI g)), some (.int (nI a)), some (.int v), some (.int (nI s)), some (.int 0), none]) hC dX12_canSource_65 (by decide) rfl ?_
        refine aw_iconst (v := 0) hC dX12_canSource_67 (by decide) ?_
        refine aw_istore (L2 := [some (.ref 44), some (.int (nI g)), some (.int (nI a)), some (.int v), some (.int (nI s)), some (.int 0), some (.int 0)]) hC dX12_canSource_68 (by decide) rfl ?_
        refine aw_iload hC dX12_canSource_70 rfl ?_
        refine aw_aload_n hC dX12_canSource_72 rfl ?_
        refine aw_getR hC dX12_canSource_73 aF_X12_65 rfl (tg_44 hT) (pr_44_22 hR) ?_
        refine aw_iload_n hC dX12_canSource_76 rfl ?_
        refine aw_iaload_k (j := g) hC dX12_canSource_77 (tg_63 hT) (nI_clamp (by omega)) (vp_in_nI (by omega) (by decide)) ?_
        have hb9 := hk g (by omega)
        rw [hb9.1]
        refine aw_icmp_ge (tgt := 120) hC dX12_canSource_78 (by decide) (fun h10 => ?_) (fun h10 => ?_)
        · show AW X 0 0 120 [some (.ref 44), some (.int (nI g)), some (.int (nI a)), some (.int v), some (.int (nI s)), some (.int 0), some (.int 0)] [] T I J R
          have h10n : (iN I 63 g) ≤ 0 := (nI_leI (a := (iN I 63 g)) (b := 0) (by omega) (by omega)).mp h10
          refine aw_iload hC dX12_canSource_120 rfl ?_
          exact aw_zreturn hC hq rfl (Or.inl rfl) dX12_canSource_122 a_le a_le (aPure_i (show bI false = _ from congrArg bI (cS_a hsd e5 (by omega) (by first | (rw [decide_eq_false (Int32.not_le.mpr (by assumption : sVal I J s < 0))]; rfl) | (simp only [bI_d0, bI_dn, Int32.not_le, Int32.not_lt, Classical.not_not] at *; simp_all)))))
        · show AW X 0 0 81 [some (.ref 44), some (.int (nI g)), some (.int (nI a)), some (.int v), some (.int (nI s)), some (.int 0), some (.int 0)] [] T I J R
          have h10n : ¬ (iN I 63 g) ≤ 0 := fun q9 => h10 ((nI_leI (a := (iN I 63 g)) (b := 0) (by omega) (by omega)).mpr q9)
          refine aw_iload hC dX12_canSource_81 rfl ?_
          refine aw_bipush (v := 10) hC dX12_canSource_83 (by decide) ?_
          refine aw_icmp_lt (tgt := 120) hC dX12_canSource_85 (by decide) (fun h11 => ?_) (fun h11 => ?_)
          · show AW X 0 0 120 [some (.ref 44), some (.int (nI g)), some (.int (nI a)), some (.int v), some (.int (nI s)), some (.int 0), some (.int 0)] [] T I J R
            have h11n : s < 10 := (nI_ltI (a := s) (b := 10) (by omega) (by omega)).mp h11
            refine aw_iload hC dX12_canSource_120 rfl ?_
            exact aw_zreturn hC hq rfl (Or.inl rfl) dX12_canSource_122 a_le a_le (aPure_i (show bI false = _ from congrArg bI (cS_a hsd e5 (by omega) (by first | (rw [decide_eq_false (Int32.not_le.mpr (by assumption : sVal I J s < 0))]; rfl) | (simp only [bI_d0, bI_dn, Int32.not_le, Int32.not_lt, Classical.not_not] at *; simp_all)))))
          · show AW X 0 0 88 [some (.ref 44), some (.int (nI g)), some (.int (nI a)), some (.int v), some (.int (nI s)), some (.int 0), some (.int 0)] [] T I J R
            have h11n : ¬ s < 10 := fun q9 => h11 ((nI_ltI (a := s) (b := 10) (by omega) (by omega)).mpr q9)
            exfalso; omega
      · show AW X 0 0 36 [some (.ref 44), some (.int (nI g)), some (.int (nI a)), some (.int v), some (.int (nI s)), some (.int 1), none] [] T I J R
        refine aw_iload_n hC dX12_canSource_36 rfl ?_
        refine aw_iload hC dX12_canSource_37 rfl ?_
        refine aw_ishr hC dX12_canSource_39 ?_
        refine aw_iconst (v := 1) hC dX12_canSource_40 (by decide) ?_
        refine aw_iand hC dX12_canSource_41 ?_
        refine aw_if_eq (tgt := 60) hC dX12_canSource_42 (by decide) (fun h12 => ?_) (fun h12 => ?_)
        · show AW X 0 0 60 [some (.ref 44), some (.int (nI g)), some (.int (nI a)), some (.int v), some (.int (nI s)), some (.int 1), none] [] T I J R
          refine aw_iconst (v := 1) hC dX12_canSource_60 (by decide) ?_
          refine aw_goto (tgt := 65) hC dX12_canSource_61 (by decide) ?_
          refine aw_istore (L2 := [some (.ref 44), some (.int (nI g)), some (.int (nI a)), some (.int v), some (.int (nI s)), some (.int 1), none]) hC dX12_canSource_65 (by decide) rfl ?_
          refine aw_iconst (v := 0) hC dX12_canSource_67 (by decide) ?_
          refine aw_istore (L2 := [some (.ref 44), some (.int (nI g)), some (.int (nI a)), some (.int v), some (.int (nI s)), some (.int 1), some (.int 0)]) hC dX12_canSource_68 (by decide) rfl ?_
          refine aw_iload hC dX12_canSource_70 rfl ?_
          refine aw_aload_n hC dX12_canSource_72 rfl ?_
          refine aw_getR hC dX12_canSource_73 aF_X12_65 rfl (tg_44 hT) (pr_44_22 hR) ?_
          refine aw_iload_n hC dX12_canSource_76 rfl ?_
          refine aw_iaload_k (j := g) hC dX12_canSource_77 (tg_63 hT) (nI_clamp (by omega)) (vp_in_nI (by omega) (by decide)) ?_
          have hb13 := hk g (by omega)
          rw [hb13.1]
          refine aw_icmp_ge (tgt := 120) hC dX12_canSource_78 (by decide) (fun h14 => ?_) (fun h14 => ?_)
          · show AW X 0 0 120 [some (.ref 44), some (.int (nI g)), some (.int (nI a)), some (.int v), some (.int (nI s)), some (.int 1), some (.int 0)] [] T I J R
            have h14n : (iN I 63 g) ≤ 0 := (nI_leI (a := (iN I 63 g)) (b := 0) (by omega) (by omega)).mp h14
            refine aw_iload hC dX12_canSource_120 rfl ?_
            exact aw_zreturn hC hq rfl (Or.inr rfl) dX12_canSource_122 a_le a_le (aPure_i (show bI true = _ from congrArg bI (cS_a hsd e5 (by omega) (by first | (rw [decide_eq_false (Int32.not_le.mpr (by assumption : sVal I J s < 0))]; rfl) | (simp only [bI_d0, bI_dn, Int32.not_le, Int32.not_lt, Classical.not_not] at *; simp_all)))))
          · show AW X 0 0 81 [some (.ref 44), some (.int (nI g)), some (.int (nI a)), some (.int v), some (.int (nI s)), some (.int 1), some (.int 0)] [] T I J R
            have h14n : ¬ (iN I 63 g) ≤ 0 := fun q9 => h14 ((nI_leI (a := (iN I 63 g)) (b := 0) (by omega) (by omega)).mpr q9)
            refine aw_iload hC dX12_canSource_81 rfl ?_
            refine aw_bipush (v := 10) hC dX12_canSource_83 (by decide) ?_
            refine aw_icmp_lt (tgt := 120) hC dX12_canSource_85 (by decide) (fun h15 => ?_) (fun h15 => ?_)
            · show AW X 0 0 120 [some (.ref 44), some (.int (nI g)), some (.int (nI a)), some (.int v), some (.int (nI s)), some (.int 1), some (.int 0)] [] T I J R
              have h15n : s < 10 := (nI_ltI (a := s) (b := 10) (by omega) (by omega)).mp h15
              refine aw_iload hC dX12_canSource_120 rfl ?_
              exact aw_zreturn hC hq rfl (Or.inr rfl) dX12_canSource_122 a_le a_le (aPure_i (show bI true = _ from congrArg bI (cS_a hsd e5 (by omega) (by first | (rw [decide_eq_false (Int32.not_le.mpr (by assumption : sVal I J s < 0))]; rfl) | (simp only [bI_d0, bI_dn, Int32.not_le, Int32.not_lt, Classical.not_not] at *; simp_all)))))
            · show AW X 0 0 88 [some (.ref 44), some (.int (nI g)), some (.int (nI a)), some (.int v), some (.int (nI s)), some (.int 1), some (.int 0)] [] T I J R
              have h15n : ¬ s < 10 := fun q9 => h15 ((nI_ltI (a := s) (b := 10) (by omega) (by omega)).mpr q9)
              exfalso; omega
        · show AW X 0 0 45 [some (.ref 44), some (.int (nI g)), some (.int (nI a)), some (.int v), some (.int (nI s)), some (.int 1), none] [] T I J R
          refine aw_aload_n hC dX12_canSource_45 rfl ?_
          refine aw_aload_n hC dX12_canSource_46 rfl ?_
          refine aw_getR hC dX12_canSource_47 aF_X12_62 rfl (tg_44 hT) (pr_44_21 hR) ?_
          refine aw_iload_n hC dX12_canSource_50 rfl ?_
          refine aw_iaload_k (j := g) hC dX12_canSource_51 (tg_62 hT) (nI_clamp (by omega)) (vp_in_nI (by omega) (by decide)) ?_
          have hb16 := ht g (by omega)
          rw [hb16.1]
          refine aw_iload_n hC dX12_canSource_52 rfl ?_
          refine aw_iconst (v := 4) hC dX12_canSource_53 (by decide) ?_
          refine kX12_330 hC rfl (m_X12_hasN hT hR (t := (iN I 62 g)) (a := a) (by omega) (by omega) (4 : Int32)) dX12_canSource_54 (tg_44 hT) rfl a_le a_le a_le a_le a_le rfl aPure_x (aPure_k ?_)
          show AW X 0 0 57 [some (.ref 44), some (.int (nI g)), some (.int (nI a)), some (.int v), some (.int (nI s)), some (.int 1), none] [.int (bI (decide (I 58 (3 * (iN I 62 g) + a) &&& (4 : Int32) ≠ 0)))] T I J R
          refine aw_if_eq (tgt := 64) hC dX12_canSource_57 (by decide) (fun h17 => ?_) (fun h17 => ?_)
          · show AW X 0 0 64 [some (.ref 44), some (.int (nI g)), some (.int (nI a)), some (.int v), some (.int (nI s)), some (.int 1), none] [] T I J R
            refine aw_iconst (v := 0) hC dX12_canSource_64 (by decide) ?_
            refine aw_istore (L2 := [some (.ref 44), some (.int (nI g)), some (.int (nI a)), some (.int v), some (.int (nI s)), some (.int 0), none]) hC dX12_canSource_65 (by decide) rfl ?_
            refine aw_iconst (v := 0) hC dX12_canSource_67 (by decide) ?_
            refine aw_istore (L2 := [some (.ref 44), some (.int (nI g)), some (.int (nI a)), some (.int v), some (.int (nI s)), some (.int 0), some (.int 0)]) hC dX12_canSource_68 (by decide) rfl ?_
            refine aw_iload hC dX12_canSource_70 rfl ?_
            refine aw_aload_n hC dX12_canSource_72 rfl ?_
            refine aw_getR hC dX12_canSource_73 aF_X12_65 rfl (tg_44 hT) (pr_44_22 hR) ?_
            refine aw_iload_n hC dX12_canSource_76 rfl ?_
            refine aw_iaload_k (j := g) hC dX12_canSource_77 (tg_63 hT) (nI_clamp (by omega)) (vp_in_nI (by omega) (by decide)) ?_
            have hb18 := hk g (by omega)
            rw [hb18.1]
            refine aw_icmp_ge (tgt := 120) hC dX12_canSource_78 (by decide) (fun h19 => ?_) (fun h19 => ?_)
            · show AW X 0 0 120 [some (.ref 44), some (.int (nI g)), some (.int (nI a)), some (.int v), some (.int (nI s)), some (.int 0), some (.int 0)] [] T I J R
              have h19n : (iN I 63 g) ≤ 0 := (nI_leI (a := (iN I 63 g)) (b := 0) (by omega) (by omega)).mp h19
              refine aw_iload hC dX12_canSource_120 rfl ?_
              exact aw_zreturn hC hq rfl (Or.inl rfl) dX12_canSource_122 a_le a_le (aPure_i (show bI false = _ from congrArg bI (cS_a hsd e5 (by omega) (by first | (rw [decide_eq_false (Int32.not_le.mpr (by assumption : sVal I J s < 0))]; rfl) | (simp only [bI_d0, bI_dn, Int32.not_le, Int32.not_lt, Classical.not_not] at *; simp_all)))))
            · show AW X 0 0 81 [some (.ref 44), some (.int (nI g)), some (.int (nI a)), some (.int v), some (.int (nI s)), some (.int 0), some (.int 0)] [] T I J R
              have h19n : ¬ (iN I 63 g) ≤ 0 := fun q9 => h19 ((nI_leI (a := (iN I 63 g)) (b := 0) (by omega) (by omega)).mpr q9)
              refine aw_iload hC dX12_canSource_81 rfl ?_
              refine aw_bipush (v := 10) hC dX12_canSource_83 (by decide) ?_
              refine aw_icmp_lt (tgt := 120) hC dX12_canSource_85 (by decide) (fun h20 => ?_) (fun h20 => ?_)
              · show AW X 0 0 120 [some (.ref 44), some (.int (nI g)), some (.int (nI a)), some (.int v), some (.int (nI s)), some (.int 0), some (.int 0)] [] T I J R
                have h20n : s < 10 := (nI_ltI (a := s) (b := 10) (by omega) (by omega)).mp h20
                refine aw_iload hC dX12_canSource_120 rfl ?_
                exact aw_zreturn hC hq rfl (Or.inl rfl) dX12_canSource_122 a_le a_le (aPure_i (show bI false = _ from congrArg bI (cS_a hsd e5 (by omega) (by first | (rw [decide_eq_false (Int32.not_le.mpr (by assumption : sVal I J s < 0))]; rfl) | (simp only [bI_d0, bI_dn, Int32.not_le, Int32.not_lt, Classical.not_not] at *; simp_all)))))
              · show AW X 0 0 88 [some (.ref 44), some (.int (nI g)), some (.int (nI a)), some (.int v), some (.int (nI s)), some (.int 0), some (.int 0)] [] T I J R
                have h20n : ¬ s < 10 := fun q9 => h20 ((nI_ltI (a := s) (b := 10) (by omega) (by omega)).mpr q9)
                exfalso; omega
          · show AW X 0 0 60 [some (.ref 44), some (.int (nI g)), some (.int (nI a)), some (.int v), some (.int (nI s)), some (.int 1), none] [] T I J R
            refine aw_iconst (v := 1) hC dX12_canSource_60 (by decide) ?_
            refine aw_goto (tgt := 65) hC dX12_canSource_61 (by decide) ?_
            refine aw_istore (L2 := [some (.ref 44), some (.int (nI g)), some (.int (nI a)), some (.int v), some (.int (nI s)), some (.int 1), none]) hC dX12_canSource_65 (by decide) rfl ?_
            refine aw_iconst (v := 0) hC dX12_canSource_67 (by decide) ?_
            refine aw_istore (L2 := [some (.ref 44), some (.int (nI g)), some (.int (nI a)), some (.int v), some (.int (nI s)), some (.int 1), some (.int 0)]) hC dX12_canSource_68 (by decide) rfl ?_
            refine aw_iload hC dX12_canSource_70 rfl ?_
            refine aw_aload_n hC dX12_canSource_72 rfl ?_
            refine aw_getR hC dX12_canSource_73 aF_X12_65 rfl (tg_44 hT) (pr_44_22 hR) ?_
            refine aw_iload_n hC dX12_canSource_76 rfl ?_
            refine aw_iaload_k (j := g) hC dX12_canSource_77 (tg_63 hT) (nI_clamp (by omega)) (vp_in_nI (by omega) (by decide)) ?_
            have hb21 := hk g (by omega)
            rw [hb21.1]
            refine aw_icmp_ge (tgt := 120) hC dX12_canSource_78 (by decide) (fun h22 => ?_) (fun h22 => ?_)
            · show AW X 0 0 120 [some (.ref 44), some (.int (nI g)), some (.int (nI a)), some (.int v), some (.int (nI s)), some (.int 1), some (.int 0)] [] T I J R
              have h22n : (iN I 63 g) ≤ 0 := (nI_leI (a := (iN I 63 g)) (b := 0) (by omega) (by omega)).mp h22
              refine aw_iload hC dX12_canSource_120 rfl ?_
              exact aw_zreturn hC hq rfl (Or.inr rfl) dX12_canSource_122 a_le a_le (aPure_i (show bI true = _ from congrArg bI (cS_a hsd e5 (by omega) (by first | (rw [decide_eq_false (Int32.not_le.mpr (by assumption : sVal I J s < 0))]; rfl) | (simp only [bI_d0, bI_dn, Int32.not_le, Int32.not_lt, Classical.not_not] at *; simp_all)))))
            · show AW X 0 0 81 [some (.ref 44), some (.int (nI g)), some (.int (nI a)), some (.int v), some (.int (nI s)), some (.int 1), some (.int 0)] [] T I J R
              have h22n : ¬ (iN I 63 g) ≤ 0 := fun q9 => h22 ((nI_leI (a := (iN I 63 g)) (b := 0) (by omega) (by omega)).mpr q9)
              refine aw_iload hC dX12_canSource_81 rfl ?_
              refine aw_bipush (v := 10) hC dX12_canSource_83 (by decide) ?_
              refine aw_icmp_lt (tgt := 120) hC dX12_canSource_85 (by decide) (fun h23 => ?_) (fun h23 => ?_)
              · show AW X 0 0 120 [some (.ref 44), some (.int (nI g)), some (.int (nI a)), some (.int v), some (.int (nI s)), some (.int 1), some (.int 0)] [] T I J R
                have h23n : s < 10 := (nI_ltI (a := s) (b := 10) (by omega) (by omega)).mp h23
                refine aw_iload hC dX12_canSource_120 rfl ?_
                exact aw_zreturn hC hq rfl (Or.inr rfl) dX12_canSource_122 a_le a_le (aPure_i (show bI true = _ from congrArg bI (cS_a hsd e5 (by omega) (by first | (rw [decide_eq_false (Int32.not_le.mpr (by assumption : sVal I J s < 0))]; rfl) | (simp only [bI_d0, bI_dn, Int32.not_le, Int32.not_lt, Classical.not_not] at *; simp_all)))))
              · show AW X 0 0 88 [some (.ref 44), some (.int (nI g)), some (.int (nI a)), some (.int v), some (.int (nI s)), some (.int 1), some (.int 0)] [] T I J R
                have h23n : ¬ s < 10 := fun q9 => h23 ((nI_ltI (a := s) (b := 10) (by omega) (by omega)).mpr q9)
                exfalso; omega
theorem and_y {p : Nat → Bool} {b acc : Bool} {k : Nat} (h : acc = (b && allB p k)) (hp : p k = true) : acc = (b && allB p (k + 1)) := by rw [allB, hp, Bool.and_true]; exact h
theorem and_n {p : Nat → Bool} {b : Bool} {k : Nat} (hp : p k = false) : false = (b && allB p (k + 1)) := by rw [allB, hp, Bool.and_false, Bool.and_false]
theorem and_st {p : Nat → Bool} {b acc : Bool} {k : Nat} (h : acc = (b && allB p k)) : (acc && p k) = (b && allB p (k + 1)) := by rw [allB, h, Bool.and_assoc]
abbrev cF (I : aI) : Nat → Bool := fun s => decide (I 86 s = 0)
def cG (I : aI) (J : aJ) (v : Int32) : Nat → Bool := fun i => if iN I 63 i = 0 then true else allB (fun k => cS I J i k v) 3
theorem cG_0 {I : aI} {J : aJ} {v : Int32} {i m : Nat} {b c : Bool} (h : iN I 63 i = 0 ∨ m = 3) (hm : m = 0 ∨ 0 < iN I 63 i) (e : c = (b && allB (fun k => cS I J i k v) m)) : c = (b && cG I J v i) := by
  unfold cG
  rcases h with h | h
  · rw [if_pos h, e]; rcases hm with hm | hm
    · subst hm; rfl
    · omega
  · subst h; rw [if_neg (by omega)]; exact e
noncomputable def cP (I : aI) (J : aJ) (n g : Nat) : Bool := (decide (I 44 57 = 0) && allB (cF I) n) && allB (cG I J (tnt I J n)) g
set_option maxRecDepth 100000 in
theorem m_X12_canPlan {T : List aT} {I : aI} {J : aJ} {R : aR} (hT : aPT T) (hR : aPR R) {n g : Nat} (hS : SW I n) (hgk : GOK I n) (hg : GW I g) : MX12_canPlan 0 0 [.ref 44] T I J R (aPure (some (.int (bI (cP I J n g)))) T I J R) := by
  refine a_met (by decide +kernel) a_le (fun X hC hq => ?_)
  show AW X 0 0 0 [some (.ref 44), none, none, none, none] [] T I J R
  have join12 : ∀ c : Bool, c = decide (I 44 57 = 0) → AW X 0 0 12 [some (.ref 44), none, none, none, none] [.int (bI c)] T I J R := by
    intro c hc0
    have hg4 := hg.g4
    have hn9 := hS.n30
    refine aw_istore_n (L2 := [some (.ref 44), some (.int (bI c)), none, none, none]) hC dX12_canPlan_12 rfl (by decide) rfl ?_
    refine aw_iconst (v := 0) hC dX12_canPlan_13 (by decide) ?_
    refine aw_istore_n (L2 := [some (.ref 44), some (.int (bI c)), some (.int 0), none, none]) hC dX12_canPlan_14 rfl (by decide) rfl ?_
    have loop1 : ∀ k, k ≤ n → ∀ c1 : Bool, c1 = (c && allB (cF I) k) → AW X 0 0 15 [some (.ref 44), some (.int (bI c1)), some (.int (nI k)), none, none] [] T I J R := by
      refine a_down n (fun k hk1 ih1 => ?_)
      intro c1 hc1
      refine aw_iload_n hC dX12_canPlan_15 rfl ?_
      refine aw_aload_n hC dX12_canPlan_16 rfl ?_
      refine aw_getI hC dX12_canPlan_17 aF_X12_183 rfl (tg_44 hT) ?_
      rw [hS.cnt]
      refine aw_icmp_ge (tgt := 46) hC dX12_canPlan_20 (by decide) (fun h1 => ?_) (fun h1 => ?_)
      · show AW X 0 0 46 [some (.ref 44), some (.int (bI c1)), some (.int (nI k)), none, none] [] T I J R
        have h1n : n ≤ k := (nI_leI (a := n) (b := k) (by omega) (by omega)).mp h1
        refine aw_aload_n hC dX12_canPlan_46 rfl ?_
        refine kX12_308 hC rfl (m_X12_taints (I := I) (J := J) hT hR (n := n) hS hgk) dX12_canPlan_47 (tg_44 hT) rfl a_le a_le a_le a_le a_le rfl aPure_x (aPure_k ?_)
        show AW X 0 0 50 [some (.ref 44), some (.int (bI c1)), some (.int (nI k)), none, none] [.int (tnt I J n)] T I J R
        refine aw_istore_n (L2 := [some (.ref 44), some (.int (bI c1)), some (.int (tnt I J n)), none, none]) hC dX12_canPlan_50 rfl (by decide) rfl ?_
        refine aw_iconst (v := 0) hC dX12_canPlan_51 (by decide) ?_
        refine aw_istore_n (L2 := [some (.ref 44), some (.int (bI c1)), some (.int (tnt I J n)), some (.int 0), none]) hC dX12_canPlan_52 rfl (by decide) rfl ?_
        have hc2 : c1 = (decide (I 44 57 = 0) && allB (cF I) n) := by rw [hc1, hc0, show k = n from by omega]
        obtain ⟨v, hv⟩ : ∃ v, v = tnt I J n := ⟨_, rfl⟩
        rw [← hv]
        have loop2 : ∀ i, i ≤ g → ∀ c2 : Bool, c2 = (c1 && allB (cG I J v) i) → AW X 0 0 53 [some (.ref 44), some (.int (bI c2)), some (.int v), some (.int (nI i)), none] [] T I J R := by
          refine a_down g (fun i hk2 ih2 => ?_)
          intro c2 hc3
          refine aw_iload_n hC dX12_canPlan_53 rfl ?_
          refine aw_aload_n hC dX12_canPlan_54 rfl ?_
          refine aw_getI hC dX12_canPlan_55 aF_X12_312 rfl (tg_44 hT) ?_
          rw [hg.gn]
          refine aw_icmp_ge (tgt := 102) hC dX12_canPlan_58 (by decide) (fun h2 => ?_) (fun h2 => ?_)
          · show AW X 0 0 102 [some (.ref 44), some (.int (bI c2)), some (.int v), some (.int (nI i)), none] [] T I J R
            have h2n : g ≤ i := (nI_leI (a := g) (b := i) (by omega) (by omega)).mp h2
            refine aw_iload_n hC dX12_canPlan_102 rfl ?_
            exact aw_zreturn hC hq rfl (bI_01 _) dX12_canPlan_103 a_le a_le (aPure_i (congrArg bI (by rw [hc3, hc2, hv, show i = g from by omega]; rfl)))
          · show AW X 0 0 61 [some (.ref 44), some (.int (bI c2)), some (.int v), some (.int (nI i)), none] [] T I J R
            have h2n : ¬ g ≤ i := fun q9 => h2 ((nI_leI (a := g) (b := i) (by omega) (by omega)).mpr q9)
            refine aw_iconst (v := 0) hC dX12_canPlan_61 (by decide) ?_
            refine aw_istore (L2 := [some (.ref 44), some (.int (bI c2)), some (.int v), some (.int (nI i)), some (.int 0)]) hC dX12_canPlan_62 (by decide) rfl ?_
            have loop3 : ∀ m, m ≤ 3 → ∀ c3 : Bool, (m = 0 ∨ 0 < iN I 63 i) → c3 = (c2 && allB (fun k => cS I J i k v) m) → AW X 0 0 64 [some (.ref 44), some (.int (bI c3)), some (.int v), some (.int (nI i)), some (.int (nI m))] [] T I J R := by
              refine a_down 3 (fun m hk3 ih3 => ?_)
              intro c3 hm3 hc4
              refine aw_iload hC dX12_canPlan_64 rfl ?_
              refine aw_iconst (v := 3) hC dX12_canPlan_66 (by decide) ?_
              refine aw_icmp_ge (tgt := 96) hC dX12_canPlan_67 (by decide) (fun h3 => ?_) (fun h3 => ?_)
              · show AW X 0 0 96 [some (.ref 44), some (.int (bI c3)), some (.int v), some (.int (nI i)), some (.int (nI m))] [] T I J R
                have h3n : 3 ≤ m := (nI_leI (a := 3) (b := m) (by omega) (by omega)).mp h3
                refine aw_iinc (v := nI (i + 1)) (L2 := [some (.ref 44), some (.int (bI c3)), some (.int v), some (.int (nI (i + 1))), some (.int (nI m))]) hC dX12_canPlan_96 rfl (nI_inc _) (by decide) rfl ?_
                refine aw_goto (tgt := 53) hC dX12_canPlan_99 (by decide) ?_
                refine aw_forget 4 (L2 := [some (.ref 44), some (.int (bI c3)), some (.int v), some (.int (nI (i + 1))), none]) rfl ?_
                exact ih2 (by omega) c3 (by rw [cG_0 (by omega) (by omega) hc4, hc3, Bool.and_assoc]; rfl)
              · show AW X 0 0 70 [some (.ref 44), some (.int (bI c3)), some (.int v), some (.int (nI i)), some (.int (nI m))] [] T I J R
                have h3n : ¬ 3 ≤ m := fun q9 => h3 ((nI_leI (a := 3) (b := m) (by omega) (by omega)).mpr q9)
                refine aw_aload_n hC dX12_canPlan_70 rfl ?_
                refine aw_getR hC dX12_canPlan_71 aF_X12_65 rfl (tg_44 hT) (pr_44_22 hR) ?_
                refine aw_iload_n hC dX12_canPlan_74 rfl ?_
                refine aw_iaload_k (j := i) hC dX12_canPlan_75 (tg_63 hT) (nI_clamp (by omega)) (vp_in_nI (by omega) (by decide)) ?_
                have hb4 := hg.ks i (by omega)
                rw [hb4.1]
                refine aw_if_le (tgt := 96) hC dX12_canPlan_76 (by decide) (fun h5 => ?_) (fun h5 => ?_)
                · show AW X 0 0 96 [some (.ref 44), some (.int (bI c3)), some (.int v), some (.int (nI i)), some (.int (nI m))] [] T I J R
                  have h5n : (iN I 63 i) ≤ 0 := (nI_leI (a := (iN I 63 i)) (b := 0) (by omega) (by omega)).mp h5
                  refine aw_iinc (v := nI (i + 1)) (L2 := [some (.ref 44), some (.int (bI c3)), some (.int v), some (.int (nI (i + 1))), some (.int (nI m))]) hC dX12_canPlan_96 rfl (nI_inc _) (by decide) rfl ?_
                  refine aw_goto (tgt := 53) hC dX12_canPlan_99 (by decide) ?_
                  refine aw_forget 4 (L2 := [some (.ref 44), some (.int (bI c3)), some (.int v), some (.int (nI (i + 1))), none]) rfl ?_
                  exact ih2 (by omega) c3 (by rw [cG_0 (by omega) (by omega) hc4, hc3, Bool.and_assoc]; rfl)
                · show AW X 0 0 79 [some (.ref 44), some (.int (bI c3)), some (.int v), some (.int (nI i)), some (.int (nI m))] [] T I J R
                  have h5n : ¬ (iN I 63 i) ≤ 0 := fun q9 => h5 ((nI_leI (a := (iN I 63 i)) (b := 0) (by omega) (by omega)).mpr q9)
                  refine aw_iload_n hC dX12_canPlan_79 rfl ?_
                  refine aw_aload_n hC dX12_canPlan_80 rfl ?_
                  refine aw_iload_n hC dX12_canPlan_81 rfl ?_
                  refine aw_iload hC dX12_canPlan_82 rfl ?_
                  refine aw_iload_n hC dX12_canPlan_84 rfl ?_
                  refine kX12_358 hC rfl (m_X12_canSource (I := I) (J := J) hT hR (g := i) (a := m) (by omega) (by omega) hg.so hg.ty hg.ks v) dX12_canPlan_85 (tg_44 hT) rfl a_le a_le a_le a_le a_le rfl aPure_x (aPure_k ?_)
                  show AW X 0 0 88 [some (.ref 44), some (.int (bI c3)), some (.int v), some (.int (nI i)), some (.int (nI m))] [.int (bI (cS I J i m v)), .int (bI c3)] T I J R
                  refine aw_iand hC dX12_canPlan_88 ?_
                  rw [bI_and _ _]
                  refine aw_istore_n (L2 := [some (.ref 44), some (.int (bI (c3 && cS I J i m v))), some (.int v), some (.int (nI i)), some (.int (nI m))]) hC dX12_canPlan_89 rfl (by decide) rfl ?_
                  refine aw_iinc (v := nI (m + 1)) (L2 := [some (.ref 44), some (.int (bI (c3 && cS I J i m v))), some (.int v), some (.int (nI i)), some (.int (nI (m + 1)))]) hC dX12_canPlan_90 rfl (nI_inc _) (by decide) rfl ?_
                  refine aw_goto (tgt := 64) hC dX12_canPlan_93 (by decide) ?_
                  exact ih3 (by omega) _ (Or.inr (by omega)) (and_st hc4)
            exact loop3 0 (Nat.zero_le _) c2 (Or.inl rfl) (by rw [allB, Bool.and_true])
        exact loop2 0 (Nat.zero_le _) c1 (by rw [allB, Bool.and_true])
      · show AW X 0 0 23 [some (.ref 44), some (.int (bI c1)), some (.int (nI k)), none, none] [] T I J R
        have h1n : ¬ n ≤ k := fun q9 => h1 ((nI_leI (a := n) (b := k) (by omega) (by omega)).mpr q9)
        refine aw_iload_n hC dX12_canPlan_23 rfl ?_
        refine aw_aload_n hC dX12_canPlan_24 rfl ?_
        refine aw_getR hC dX12_canPlan_25 aF_X12_141 rfl (tg_44 hT) (pr_44_51 hR) ?_
        refine aw_iload_n hC dX12_canPlan_28 rfl ?_
        refine aw_iaload_k (j := k) hC dX12_canPlan_29 (tg_86 hT) (nI_clamp (by omega)) (vp_in_nI (by omega) (by decide)) ?_
        refine aw_if_ne (tgt := 37) hC dX12_canPlan_30 (by decide) (fun h6 => ?_) (fun h6 => ?_)
        · show AW X 0 0 37 [some (.ref 44), some (.int (bI c1)), some (.int (nI k)), none, none] [.int (bI c1)] T I J R
          refine aw_iconst (v := 0) hC dX12_canPlan_37 (by decide) ?_
          refine aw_iand hC dX12_canPlan_38 ?_
          rw [bI_and0 _]
          refine aw_istore_n (L2 := [some (.ref 44), some (.int (bI false)), some (.int (nI k)), none, none]) hC dX12_canPlan_39 rfl (by decide) rfl ?_
          refine aw_iinc (v := nI (k + 1)) (L2 := [some (.ref 44), some (.int (bI false)), some (.int (nI (k + 1))), none, none]) hC dX12_canPlan_40 rfl (nI_inc _) (by decide) rfl ?_
          refine aw_goto (tgt := 15) hC dX12_canPlan_43 (by decide) ?_
          exact ih1 (by omega) false (and_n (decide_eq_false (by assumption)))
        · show AW X 0 0 33 [some (.ref 44), some (.int (bI c1)), some (.int (nI k)), none, none] [.int (bI c1)] T I J R
          refine aw_iconst (v := 1) hC dX12_canPlan_33 (by decide) ?_
          refine aw_goto (tgt := 38) hC dX12_canPlan_34 (by decide) ?_
          refine aw_iand hC dX12_canPlan_38 ?_
          rw [bI_and1 _]
          refine aw_istore_n (L2 := [some (.ref 44), some (.int (bI c1)), some (.int (nI k)), none, none]) hC dX12_canPlan_39 rfl (by decide) rfl ?_
          refine aw_iinc (v := nI (k + 1)) (L2 := [some (.ref 44), some (.int (bI c1)), some (.int (nI (k + 1))), none, none]) hC dX12_canPlan_40 rfl (nI_inc _) (by decide) rfl ?_
          refine aw_goto (tgt := 15) hC dX12_canPlan_43 (by decide) ?_
          exact ih1 (by omega) c1 (and_y hc1 (decide_eq_true (by assumption)))
    exact loop1 0 (Nat.zero_le _) c (by rw [allB, Bool.and_true])
  refine aw_aload_n hC dX12_canPlan_0 rfl ?_
  refine aw_getI hC dX12_canPlan_1 aF_X12_267 rfl (tg_44 hT) ?_
  refine aw_if_ne (tgt := 11) hC dX12_canPlan_4 (by decide) (fun h7 => ?_) (fun h7 => ?_)
  · show AW X 0 0 11 [some (.ref 44), none, none, none, none] [] T I J R
    refine aw_iconst (v := 0) hC dX12_canPlan_11 (by decide) ?_
    exact join12 false (by simp_all)
  · show AW X 0 0 7 [some (.ref 44), none, none, none, none] [] T I J R
    refine aw_iconst (v := 1) hC dX12_canPlan_7 (by decide) ?_
    refine aw_goto (tgt := 12) hC dX12_canPlan_8 (by decide) ?_
    exact join12 true (by simp_all)
