theorem bI_cg {p q : Prop} [Decidable p] [Decidable q] (h : p ↔ q) : bI (decide p) = bI (decide q) := congrArg bI (decide_eq_decide.mpr h)
abbrev GOK (I : aI) (n : Nat) : Prop := ∀ s, s < n → 0 ≤ I 85 s → vp_in (I 85 s) 30 ∧ vp_in (I 46 (I 85 s).toNatClampNeg) 10
abbrev AOK (I : aI) (n : Nat) : Prop := (I 44 53 = 0 ∨ I 44 53 = 1) ∧ (I 44 53 = 1 → ∀ s, s < n → I 87 s = 0 ∨ I 87 s = 1)
theorem m_X12_countsU {T : List aT} {I : aI} {J : aJ} {R : aR} (hT : aPT T) (hR : aPR R) {n s : Nat} (hs : s < n) (hn : n ≤ 30) (hg : GOK I n) (hA : AOK I n) : MX12_counts 0 0 [.ref 44, .int (nI s)] T I J R (aPure (some (.int (bI (decide (cOn I (J 88) s))))) T I J R) := by
  rcases hA.1 with e | e
  · have q := m_X12_counts (J := J) hT hR (s := s) (by omega) (hg s hs) e
    rw [bI_cg (p := mCounts I J s) (q := cOn I (J 88) s) ⟨fun h => Or.inl ⟨e, h⟩, fun h => h.elim (fun h => h.2) (fun h => absurd e h.1)⟩] at q
    exact q
  · have q := m_X12_countsA (J := J) hT hR (s := s) (by omega) (hA.2 e s hs) e
    rw [show I 87 s = bI (decide (cOn I (J 88) s)) from ?_] at q
    · exact q
    · have e0 : I 44 53 ≠ 0 := by rw [e]; decide
      rcases hA.2 e s hs with f | f
      · exact f.trans (bI_no (fun h => h.elim (fun h => e0 h.1) (fun h => h.2 f)))
      · exact f.trans (bI_yes (Or.inr ⟨e0, by rw [f]; decide⟩))
abbrev isPr (I : aI) (s : Nat) : Prop := I 45 s = 5 ∨ I 45 s = 6
theorem sUpd_out {S : Nat → Int64} {f j : Nat} {v : Int64} (h : j ≠ f) : sUpd S f v j = S j := if_neg h
theorem nBy_out {I : aI} {s j : Nat} {S : Nat → Int64} (h1 : j ≠ iN I 46 s) (h2 : isPr I s → j ≠ iN I 47 s) : nBy I s S j = S j := by
  unfold nBy
  split; · exact sUpd_out h1
  split; · exact sUpd_out h1
  split; · exact sUpd_out h1
  split; · exact sUpd_out h1
  split
  · next h => rw [sUpd_out (h2 (Or.inl h)), sUpd_out h1]
  split
  · next h => rw [sUpd_out (h2 (Or.inr h)), sUpd_out h1]
  rfl
theorem nBy_same {I : aI} {s : Nat} {S : Nat → Int64} (h1 : nBy I s S (iN I 46 s) = S (iN I 46 s)) (h2 : isPr I s → nBy I s S (iN I 47 s) = S (iN I 47 s)) : nBy I s S = S := funext fun j => by
  by_cases e : j = iN I 46 s
  · rw [e]; exact h1
  · by_cases p : isPr I s
    · by_cases f : j = iN I 47 s
      · rw [f]; exact h2 p
      · exact nBy_out e (fun _ => f)
    · exact nBy_out e (fun q => absurd q p)
abbrev LN (I : aI) (n : Nat) (S0 S1 S2 : Nat → Int64) (k : Nat) (gs : Int32) : Prop := SLe S2 S1 ∧ (∀ T, SLe T S0 → Stb I n T → SLe T S2) ∧ ((gs = 0 ∧ S2 = S1 ∧ ∀ s, s < k → cOn I S2 s → nBy I s S2 = S2) ∨ (gs = 1 ∧ sumC S2 10 < sumC S1 10))
theorem LN.skip {I : aI} {n : Nat} {S0 S1 S2 : Nat → Int64} {k : Nat} {gs : Int32} (h : LN I n S0 S1 S2 k gs) (ok : cOn I S2 k → nBy I k S2 = S2) : LN I n S0 S1 S2 (k + 1) gs := by
  refine ⟨h.1, h.2.1, h.2.2.imp (fun q => ⟨q.1, q.2.1, fun s hs => ?_⟩) id⟩
  by_cases e : s = k
  · subst e; exact ok
  · exact q.2.2 s (by omega)
theorem LN.put {I : aI} {n : Nat} {S0 S1 S2 : Nat → Int64} {k j : Nat} {gs : Int32} (h : LN I n S0 S1 S2 k gs) (hk : k < n) (hc : cOn I S2 k) (hj : j < 10) (hne : nBy I k S2 j ≠ S2 j) : LN I n S0 S1 (nBy I k S2) (k + 1) 1 := by
  refine ⟨SLe_t (nBy_le _ _ _) h.1, fun T hT hs => Stb_below hk (h.2.1 T hT hs) hs hc, Or.inr ⟨rfl, ?_⟩⟩
  have q := sumC_lt (nBy_le I k S2) hne 10 hj
  have := sumC_mono h.1 10
  omega
theorem LN.gs {I : aI} {n : Nat} {S0 S1 S2 : Nat → Int64} {k : Nat} {gs : Int32} (h : LN I n S0 S1 S2 k gs) : gs = 0 ∨ gs = 1 := h.2.2.imp (fun q => q.1) (fun q => q.1)
theorem gs_or1 {gs : Int32} (h : gs = 0 ∨ gs = 1) : gs ||| 1 = 1 := by rcases h with rfl | rfl <;> rfl
set_option maxRecDepth 100000 in
theorem m_X12_narrows {T : List aT} {I : aI} {J : aJ} {R : aR} (hT : aPT T) (hR : aPR R) {n : Nat} (hS : SW I n) (hg : GOK I n) (hA : AOK I n) : MX12_narrows 0 0 [.ref 44] T I J R (aRel (fun _ _ => none) (fun I2 J2 => I2 = I ∧ ∃ S, Fix I n (J 88) S ∧ J2 = a_ur J 88 S) T R) := by
  refine a_met (by decide +kernel) a_le (fun X hC hq => ?_)
  show AW X 0 0 0 [some (.ref 44), none, none, none, none, none, none, none, none] [] T I J R
  refine aw_iconst (v := 1) hC dX12_narrows_0 (by decide) ?_
  refine aw_istore_n (L2 := [some (.ref 44), some (.int 1), none, none, none, none, none, none, none]) hC dX12_narrows_1 rfl (by decide) rfl ?_
  rw [show J = a_ur J 88 (J 88) from (a_ur_id (fun _ => rfl)).symm]
  have loopW : ∀ c (S1 : Nat → Int64), sumC S1 10 ≤ c → SLe S1 (J 88) → (∀ T, SLe T (J 88) → Stb I n T → SLe T S1) → AW X 0 0 2 [some (.ref 44), some (.int 1), none, none, none, none, none, none, none] [] T I (a_ur J 88 S1) R := by
    refine upN (fun c ihW => ?_)
    intro S1 hc hS1 hgr
    refine aw_iload_n hC dX12_narrows_2 rfl ?_
    refine aw_if_eq (tgt := 121) hC dX12_narrows_3 (by decide) (fun h1 => absurd h1 (by decide)) (fun _ => ?_)
    show AW X 0 0 6 [some (.ref 44), some (.int 1), none, none, none, none, none, none, none] [] T I (a_ur J 88 S1) R
    refine aw_iconst (v := 0) hC dX12_narrows_6 (by decide) ?_
    refine aw_istore_n (L2 := [some (.ref 44), some (.int 0), none, none, none, none, none, none, none]) hC dX12_narrows_7 rfl (by decide) rfl ?_
    refine aw_iconst (v := 0) hC dX12_narrows_8 (by decide) ?_
    refine aw_istore_n (L2 := [some (.ref 44), some (.int 0), some (.int 0), none, none, none, none, none, none]) hC dX12_narrows_9 rfl (by decide) rfl ?_
    have loopI : ∀ k, k ≤ n → ∀ (gs : Int32) (S2 : Nat → Int64), LN I n (J 88) S1 S2 k gs → AW X 0 0 10 [some (.ref 44), some (.int gs), some (.int (nI k)), none, none, none, none, none, none] [] T I (a_ur J 88 S2) R := by
      refine a_down n (fun k hkI ihI => ?_)
      intro gs S2 hLN
      have hn9 := hS.n30
      refine aw_iload_n hC dX12_narrows_10 rfl ?_
      refine aw_aload_n hC dX12_narrows_11 rfl ?_
      refine aw_getI hC dX12_narrows_12 aF_X12_183 rfl (tg_44 hT) ?_
      rw [hS.cnt]
      refine aw_icmp_ge (tgt := 118) hC dX12_narrows_15 (by decide) (fun h2 => ?_) (fun h2 => ?_)
      · show AW X 0 0 118 [some (.ref 44), some (.int gs), some (.int (nI k)), none, none, none, none, none, none] [] T I (a_ur J 88 S2) R
        have h2n : n ≤ k := (nI_leI (a := n) (b := k) (by omega) (by omega)).mp h2
        refine aw_goto (tgt := 2) hC dX12_narrows_118 (by decide) ?_
        have e9 : k = n := by omega
        subst e9
        rcases hLN.2.2 with ⟨rfl, rfl, hok⟩ | ⟨rfl, hlt⟩
        · refine aw_iload_n hC dX12_narrows_2 rfl ?_
          refine aw_if_eq (tgt := 121) hC dX12_narrows_3 (by decide) (fun _ => ?_) (fun h => absurd rfl h)
          exact aw_return hC hq rfl dX12_narrows_121 a_le a_le ⟨rfl, rfl, rfl, rfl, _, ⟨hS1, fun s hs => hok s hs, hgr⟩, rfl⟩
        · refine aw_forget 2 rfl ?_
          exact ihW _ (by omega) S2 (Nat.le_refl _) (SLe_t hLN.1 hS1) hLN.2.1
      · show AW X 0 0 18 [some (.ref 44), some (.int gs), some (.int (nI k)), none, none, none, none, none, none] [] T I (a_ur J 88 S2) R
        have h2n : ¬ n ≤ k := fun q9 => h2 ((nI_leI (a := n) (b := k) (by omega) (by omega)).mpr q9)
        refine aw_aload_n hC dX12_narrows_18 rfl ?_
        refine aw_getR hC dX12_narrows_19 aF_X12_13 rfl (tg_44 hT) (pr_44_2 hR) ?_
        refine aw_iload_n hC dX12_narrows_22 rfl ?_
        refine aw_iaload_k (j := k) hC dX12_narrows_23 (tg_46 hT) (nI_clamp (by omega)) (vp_in_nI (by omega) (by decide)) ?_
        have hb3 := hS.fd k (by omega)
        rw [hb3.1]
        refine aw_istore_n (L2 := [some (.ref 44), some (.int gs), some (.int (nI k)), some (.int (nI (iN I 46 k))), none, none, none, none, none]) hC dX12_narrows_24 rfl (by decide) rfl ?_
        refine aw_aload_n hC dX12_narrows_25 rfl ?_
        refine aw_getR hC dX12_narrows_26 aF_X12_7 rfl (tg_44 hT) (pr_44_1 hR) ?_
        refine aw_iload_n hC dX12_narrows_29 rfl ?_
        refine aw_iaload_k (j := k) hC dX12_narrows_30 (tg_45 hT) (nI_clamp (by omega)) (vp_in_nI (by omega) (by decide)) ?_
        have hb4 := hS.kd k (by omega)
        rw [hb4.1]
        refine kX12_177 hC rfl (m_X12_isPair (nI (iN I 45 k))) dX12_narrows_31 rfl a_le a_le a_le a_le a_le rfl aPure_x (aPure_k ?_)
        show AW X 0 0 34 [some (.ref 44), some (.int gs), some (.int (nI k)), some (.int (nI (iN I 46 k))), none, none, none, none, none] [.int (bI (decide ((nI (iN I 45 k)) = 5 ∨ (nI (iN I 45 k)) = 6)))] T I (a_ur J 88 S2) R
        refine aw_if_eq (tgt := 46) hC dX12_narrows_34 (by decide) (fun h5 => ?_) (fun h5 => ?_)
        · show AW X 0 0 46 [some (.ref 44), some (.int gs), some (.int (nI k)), some (.int (nI (iN I 46 k))), none, none, none, none, none] [] T I (a_ur J 88 S2) R
          have hpr : ¬ isPr I k := by have h9 := bI_d0.mp (by assumption); rw [← (hS.kd k (by omega)).1] at h9; exact h9
          refine aw_iconst (v := 0) hC dX12_narrows_46 (by decide) ?_
          refine aw_istore (L2 := [some (.ref 44), some (.int gs), some (.int (nI k)), some (.int (nI (iN I 46 k))), some (.int 0), none, none, none, none]) hC dX12_narrows_47 (by decide) rfl ?_
          refine aw_aload_n hC dX12_narrows_49 rfl ?_
          refine aw_iload_n hC dX12_narrows_50 rfl ?_
          refine kX12_250 hC rfl (m_X12_countsU hT hR (n := n) (s := k) (by omega) hS.n30 hg hA) dX12_narrows_51 (tg_44 hT) rfl a_le a_le a_le a_le a_le rfl aPure_x (aPure_k ?_)
          show AW X 0 0 54 [some (.ref 44), some (.int gs), some (.int (nI k)), some (.int (nI (iN I 46 k))), some (.int 0), none, none, none, none] [.int (bI (decide (cOn I ((a_ur J 88 S2) 88) k)))] T I (a_ur J 88 S2) R
          rw [show (a_ur J 88 S2) 88 = S2 from a_ur_self]
          refine aw_if_eq (tgt := 112) hC dX12_narrows_54 (by decide) (fun h6 => ?_) (fun h6 => ?_)
          · show AW X 0 0 112 [some (.ref 44), some (.int gs), some (.int (nI k)), some (.int (nI (iN I 46 k))), some (.int 0), none, none, none, none] [] T I (a_ur J 88 S2) R
            refine aw_iinc (v := nI (k + 1)) (L2 := [some (.ref 44), some (.int gs), some (.int (nI (k + 1))), some (.int (nI (iN I 46 k))), some (.int 0), none, none, none, none]) hC dX12_narrows_112 rfl (nI_inc _) (by decide) rfl ?_
            refine aw_goto (tgt := 10) hC dX12_narrows_115 (by decide) ?_
            refine aw_forget 3 (L2 := [some (.ref 44), some (.int gs), some (.int (nI (k + 1))), none, some (.int 0), none, none, none, none]) rfl ?_
            refine aw_forget 4 (L2 := [some (.ref 44), some (.int gs), some (.int (nI (k + 1))), none, none, none, none, none, none]) rfl ?_
            exact ihI (by omega) gs S2 (LN.skip hLN (fun hw => absurd hw (bI_d0.mp (by assumption))))
          · show AW X 0 0 57 [some (.ref 44), some (.int gs), some (.int (nI k)), some (.int (nI (iN I 46 k))), some (.int 0), none, none, none, none] [] T I (a_ur J 88 S2) R
            have hcn := bI_dn.mp (by assumption : ¬ bI (decide (cOn I S2 k)) = 0)
            refine aw_aload_n hC dX12_narrows_57 rfl ?_
            refine aw_getR hC dX12_narrows_58 aF_X12_147 rfl (tg_44 hT) (pr_44_54 hR) ?_
            refine aw_iload_n hC dX12_narrows_61 rfl ?_
            refine aw_laload_k (j := (iN I 46 k)) hC dX12_narrows_62 (tg_88 hT) (nI_clamp (by omega)) (vp_in_nI (by omega) (by decide)) ?_
            rw [a_ur_self (f := J) (o := 88) (g := S2)]
            refine aw_lstore (L2 := [some (.ref 44), some (.int gs), some (.int (nI k)), some (.int (nI (iN I 46 k))), some (.int 0), some (.long (S2 (iN I 46 k))), none, none, none]) hC dX12_narrows_63 (by decide) rfl ?_
            refine aw_aload_n hC dX12_narrows_65 rfl ?_
            refine aw_getR hC dX12_narrows_66 aF_X12_147 rfl (tg_44 hT) (pr_44_54 hR) ?_
            refine aw_iload hC dX12_narrows_69 rfl ?_
            refine aw_laload_k (j := 0) hC dX12_narrows_71 (tg_88 hT) (by decide) (by unfold vp_in; decide) ?_
            rw [a_ur_self (f := J) (o := 88) (g := S2)]
            refine aw_lstore (L2 := [some (.ref 44), some (.int gs), some (.int (nI k)), some (.int (nI (iN I 46 k))), some (.int 0), some (.long (S2 (iN I 46 k))), none, some (.long (S2 0)), none]) hC dX12_narrows_72 (by decide) rfl ?_
            refine aw_aload_n hC dX12_narrows_74 rfl ?_
            refine aw_iload_n hC dX12_narrows_75 rfl ?_
            refine kX12_253 hC rfl (m_X12_narrowsBy hT hR (n := n) (s := k) hS (by omega)) dX12_narrows_76 (tg_44 hT) rfl a_le a_le a_le a_le a_le rfl aPure_x (aPure_k ?_)
            rw [show a_ur (a_ur J 88 S2) 88 (nBy I k ((a_ur J 88 S2) 88)) = a_ur J 88 (nBy I k S2) from by rw [show (a_ur J 88 S2) 88 = S2 from a_ur_self, a_ur_2]]
            show AW X 0 0 79 [some (.ref 44), some (.int gs), some (.int (nI k)), some (.int (nI (iN I 46 k))), some (.int 0), some (.long (S2 (iN I 46 k))), none, some (.long (S2 0)), none] [] T I (a_ur J 88 (nBy I k S2)) R
            refine aw_iload_n hC dX12_narrows_79 rfl ?_
            refine aw_aload_n hC dX12_narrows_80 rfl ?_
            refine aw_getR hC dX12_narrows_81 aF_X12_147 rfl (tg_44 hT) (pr_44_54 hR) ?_
            refine aw_iload_n hC dX12_narrows_84 rfl ?_
            refine aw_laload_k (j := (iN I 46 k)) hC dX12_narrows_85 (tg_88 hT) (nI_clamp (by omega)) (vp_in_nI (by omega) (by decide)) ?_
            rw [a_ur_self (f := J) (o := 88) (g := nBy I k S2)]
            refine aw_lload hC dX12_narrows_86 rfl ?_
            refine aw_lcmp hC dX12_narrows_88 ?_
            refine aw_if_ne (tgt := 105) hC dX12_narrows_89 (by decide) (fun h7 => ?_) (fun h7 => ?_)
            · show AW X 0 0 105 [some (.ref 44), some (.int gs), some (.int (nI k)), some (.int (nI (iN I 46 k))), some (.int 0), some (.long (S2 (iN I 46 k))), none, some (.long (S2 0)), none] [.int gs] T I (a_ur J 88 (nBy I k S2)) R
              refine aw_iconst (v := 1) hC dX12_narrows_105 (by decide) ?_
              refine aw_goto (tgt := 110) hC dX12_narrows_106 (by decide) ?_
              refine aw_ior hC dX12_narrows_110 ?_
              rw [gs_or1 (LN.gs hLN)]
              refine aw_istore_n (L2 := [some (.ref 44), some (.int 1), some (.int (nI k)), some (.int (nI (iN I 46 k))), some (.int 0), some (.long (S2 (iN I 46 k))), none, some (.long (S2 0)), none]) hC dX12_narrows_111 rfl (by decide) rfl ?_
              refine aw_iinc (v := nI (k + 1)) (L2 := [some (.ref 44), some (.int 1), some (.int (nI (k + 1))), some (.int (nI (iN I 46 k))), some (.int 0), some (.long (S2 (iN I 46 k))), none, some (.long (S2 0)), none]) hC dX12_narrows_112 rfl (nI_inc _) (by decide) rfl ?_
              refine aw_goto (tgt := 10) hC dX12_narrows_115 (by decide) ?_
              refine aw_forget 3 (L2 := [some (.ref 44), some (.int 1), some (.int (nI (k + 1))), none, some (.int 0), some (.long (S2 (iN I 46 k))), none, some (.long (S2 0)), none]) rfl ?_
              refine aw_forget 4 (L2 := [some (.ref 44), some (.int 1), some (.int (nI (k + 1))), none, none, some (.long (S2 (iN I 46 k))), none, some (.long (S2 0)), none]) rfl ?_
              refine aw_forget 5 (L2 := [some (.ref 44), some (.int 1), some (.int (nI (k + 1))), none, none, none, none, some (.long (S2 0)), none]) rfl ?_
              refine aw_forget 7 (L2 := [some (.ref 44), some (.int 1), some (.int (nI (k + 1))), none, none, none, none, none, none]) rfl ?_
              first | exact ihI (by omega) 1 _ (LN.put (j := iN I 46 k) hLN (by omega) hcn (by omega) (fun q => absurd ((lgc0 _ _).mpr q) (by assumption))) | exact ihI (by omega) 1 _ (LN.put (j := iN I 47 k) hLN (by omega) hcn (by omega) (fun q => absurd ((lgc0 _ _).mpr q) (by assumption))) | exact ihI (by omega) 1 _ (LN.put (j := 0) hLN (by omega) hcn (by omega) (fun q => absurd ((lgc0 _ _).mpr q) (by assumption)))
            · show AW X 0 0 92 [some (.ref 44), some (.int gs), some (.int (nI k)), some (.int (nI (iN I 46 k))), some (.int 0), some (.long (S2 (iN I 46 k))), none, some (.long (S2 0)), none] [.int gs] T I (a_ur J 88 (nBy I k S2)) R
              refine aw_aload_n hC dX12_narrows_92 rfl ?_
              refine aw_getR hC dX12_narrows_93 aF_X12_147 rfl (tg_44 hT) (pr_44_54 hR) ?_
              refine aw_iload hC dX12_narrows_96 rfl ?_
              refine aw_laload_k (j := 0) hC dX12_narrows_98 (tg_88 hT) (by decide) (by unfold vp_in; decide) ?_
              rw [a_ur_self (f := J) (o := 88) (g := nBy I k S2)]
              refine aw_lload hC dX12_narrows_99 rfl ?_
              refine aw_lcmp hC dX12_narrows_101 ?_
              refine aw_if_eq (tgt := 109) hC dX12_narrows_102 (by decide) (fun h8 => ?_) (fun h8 => ?_)
              · show AW X 0 0 109 [some (.ref 44), some (.int gs), some (.int (nI k)), some (.int (nI (iN I 46 k))), some (.int 0), some (.long (S2 (iN I 46 k))), none, some (.long (S2 0)), none] [.int gs] T I (a_ur J 88 (nBy I k S2)) R
                refine aw_iconst (v := 0) hC dX12_narrows_109 (by decide) ?_
                refine aw_ior hC dX12_narrows_110 ?_
                rw [Int32.or_zero]
                refine aw_istore_n (L2 := [some (.ref 44), some (.int gs), some (.int (nI k)), some (.int (nI (iN I 46 k))), some (.int 0), some (.long (S2 (iN I 46 k))), none, some (.long (S2 0)), none]) hC dX12_narrows_111 rfl (by decide) rfl ?_
                refine aw_iinc (v := nI (k + 1)) (L2 := [some (.ref 44), some (.int gs), some (.int (nI (k + 1))), some (.int (nI (iN I 46 k))), some (.int 0), some (.long (S2 (iN I 46 k))), none, some (.long (S2 0)), none]) hC dX12_narrows_112 rfl (nI_inc _) (by decide) rfl ?_
                refine aw_goto (tgt := 10) hC dX12_narrows_115 (by decide) ?_
                refine aw_forget 3 (L2 := [some (.ref 44), some (.int gs), some (.int (nI (k + 1))), none, some (.int 0), some (.long (S2 (iN I 46 k))), none, some (.long (S2 0)), none]) rfl ?_
                refine aw_forget 4 (L2 := [some (.ref 44), some (.int gs), some (.int (nI (k + 1))), none, none, some (.long (S2 (iN I 46 k))), none, some (.long (S2 0)), none]) rfl ?_
                refine aw_forget 5 (L2 := [some (.ref 44), some (.int gs), some (.int (nI (k + 1))), none, none, none, none, some (.long (S2 0)), none]) rfl ?_
                refine aw_forget 7 (L2 := [some (.ref 44), some (.int gs), some (.int (nI (k + 1))), none, none, none, none, none, none]) rfl ?_
                have hsm : nBy I k S2 = S2 := nBy_same ((lgc0 _ _).mp (by assumption)) (fun q => by first | exact absurd q hpr | exact (lgc0 _ _).mp (by assumption))
                rw [hsm]
                exact ihI (by omega) gs S2 (LN.skip hLN (fun _ => hsm))
              · show AW X 0 0 105 [some (.ref 44), some (.int gs), some (.int (nI k)), some (.int (nI (iN I 46 k))), some (.int 0), some (.long (S2 (iN I 46 k))), none, some (.long (S2 0)), none] [.int gs] T I (a_ur J 88 (nBy I k S2)) R
                refine aw_iconst (v := 1) hC dX12_narrows_105 (by decide) ?_
                refine aw_goto (tgt := 110) hC dX12_narrows_106 (by decide) ?_
                refine aw_ior hC dX12_narrows_110 ?_
                rw [gs_or1 (LN.gs hLN)]
                refine aw_istore_n (L2 := [some (.ref 44), some (.int 1), some (.int (nI k)), some (.int (nI (iN I 46 k))), some (.int 0), some (.long (S2 (iN I 46 k))), none, some (.long (S2 0)), none]) hC dX12_narrows_111 rfl (by decide) rfl ?_
                refine aw_iinc (v := nI (k + 1)) (L2 := [some (.ref 44), some (.int 1), some (.int (nI (k + 1))), some (.int (nI (iN I 46 k))), some (.int 0), some (.long (S2 (iN I 46 k))), none, some (.long (S2 0)), none]) hC dX12_narrows_112 rfl (nI_inc _) (by decide) rfl ?_
                refine aw_goto (tgt := 10) hC dX12_narrows_115 (by decide) ?_
                refine aw_forget 3 (L2 := [some (.ref 44), some (.int 1), some (.int (nI (k + 1))), none, some (.int 0), some (.long (S2 (iN I 46 k))), none, some (.long (S2 0)), none]) rfl ?_
                refine aw_forget 4 (L2 := [some (.ref 44), some (.int 1), some (.int (nI (k + 1))), none, none, some (.long (S2 (iN I 46 k))), none, some (.long (S2 0)), none]) rfl ?_
                refine aw_forget 5 (L2 := [some (.ref 44), some (.int 1), some (.int (nI (k + 1))), none, none, none, none, some (.long (S2 0)), none]) rfl ?_
                refine aw_forget 7 (L2 := [some (.ref 44), some (.int 1), some (.int (nI (k + 1))), none, none, none, none, none, none]) rfl ?_
                first | exact ihI (by omega) 1 _ (LN.put (j := iN I 46 k) hLN (by omega) hcn (by omega) (fun q => absurd ((lgc0 _ _).mpr q) (by assumption))) | exact ihI (by omega) 1 _ (LN.put (j := iN I 47 k) hLN (by omega) hcn (by omega) (fun q => absurd ((lgc0 _ _).mpr q) (by assumption))) | exact ihI (by omega) 1 _ (LN.put (j := 0) hLN (by omega) hcn (by omega) (fun q => absurd ((lgc0 _ _).mpr q) (by assumption)))
        · show AW X 0 0 37 [some (.ref 44), some (.int gs), some (.int (nI k)), some (.int (nI (iN I 46 k))), none, none, none, none, none] [] T I (a_ur J 88 S2) R
          have hpr : isPr I k := by have h9 := bI_dn.mp (by assumption); rw [← (hS.kd k (by omega)).1] at h9; exact h9
          have h56 := hS.k56 k (by omega) (hpr.imp (fun q => by rw [iN, q]; rfl) (fun q => by rw [iN, q]; rfl))
          refine aw_aload_n hC dX12_narrows_37 rfl ?_
          refine aw_getR hC dX12_narrows_38 aF_X12_16 rfl (tg_44 hT) (pr_44_3 hR) ?_
          refine aw_iload_n hC dX12_narrows_41 rfl ?_
          refine aw_iaload_k (j := k) hC dX12_narrows_42 (tg_47 hT) (nI_clamp (by omega)) (vp_in_nI (by omega) (by decide)) ?_
          have hb9 := hS.on k (by omega)
          rw [hb9.1]
          refine aw_goto (tgt := 47) hC dX12_narrows_43 (by decide) ?_
          refine aw_istore (L2 := [some (.ref 44), some (.int gs), some (.int (nI k)), some (.int (nI (iN I 46 k))), some (.int (nI (iN I 47 k))), none, none, none, none]) hC dX12_narrows_47 (by decide) rfl ?_
          refine aw_aload_n hC dX12_narrows_49 rfl ?_
          refine aw_iload_n hC dX12_narrows_50 rfl ?_
          refine kX12_250 hC rfl (m_X12_countsU hT hR (n := n) (s := k) (by omega) hS.n30 hg hA) dX12_narrows_51 (tg_44 hT) rfl a_le a_le a_le a_le a_le rfl aPure_x (aPure_k ?_)
          show AW X 0 0 54 [some (.ref 44), some (.int gs), some (.int (nI k)), some (.int (nI (iN I 46 k))), some (.int (nI (iN I 47 k))), none, none, none, none] [.int (bI (decide (cOn I ((a_ur J 88 S2) 88) k)))] T I (a_ur J 88 S2) R
          rw [show (a_ur J 88 S2) 88 = S2 from a_ur_self]
          refine aw_if_eq (tgt := 112) hC dX12_narrows_54 (by decide) (fun h10 => ?_) (fun h10 => ?_)
          · show AW X 0 0 112 [some (.ref 44), some (.int gs), some (.int (nI k)), some (.int (nI (iN I 46 k))), some (.int (nI (iN I 47 k))), none, none, none, none] [] T I (a_ur J 88 S2) R
            refine aw_iinc (v := nI (k + 1)) (L2 := [some (.ref 44), some (.int gs), some (.int (nI (k + 1))), some (.int (nI (iN I 46 k))), some (.int (nI (iN I 47 k))), none, none, none, none]) hC dX12_narrows_112 rfl (nI_inc _) (by decide) rfl ?_
            refine aw_goto (tgt := 10) hC dX12_narrows_115 (by decide) ?_
            refine aw_forget 3 (L2 := [some (.ref 44), some (.int gs), some (.int (nI (k + 1))), none, some (.int (nI (iN I 47 k))), none, none, none, none]) rfl ?_
            refine aw_forget 4 (L2 := [some (.ref 44), some (.int gs), some (.int (nI (k + 1))), none, none, none, none, none, none]) rfl ?_
            exact ihI (by omega) gs S2 (LN.skip hLN (fun hw => absurd hw (bI_d0.mp (by assumption))))
          · show AW X 0 0 57 [some (.ref 44), some (.int gs), some (.int (nI k)), some (.int (nI (iN I 46 k))), some (.int (nI (iN I 47 k))), none, none, none, none] [] T I (a_ur J 88 S2) R
            have hcn := bI_dn.mp (by assumption : ¬ bI (decide (cOn I S2 k)) = 0)
            refine aw_aload_n hC dX12_narrows_57 rfl ?_
            refine aw_getR hC dX12_narrows_58 aF_X12_147 rfl (tg_44 hT) (pr_44_54 hR) ?_
            refine aw_iload_n hC dX12_narrows_61 rfl ?_
            refine aw_laload_k (j := (iN I 46 k)) hC dX12_narrows_62 (tg_88 hT) (nI_clamp (by omega)) (vp_in_nI (by omega) (by decide)) ?_
            rw [a_ur_self (f := J) (o := 88) (g := S2)]
            refine aw_lstore (L2 := [some (.ref 44), some (.int gs), some (.int (nI k)), some (.int (nI (iN I 46 k))), some (.int (nI (iN I 47 k))), some (.long (S2 (iN I 46 k))), none, none, none]) hC dX12_narrows_63 (by decide) rfl ?_
            refine aw_aload_n hC dX12_narrows_65 rfl ?_
            refine aw_getR hC dX12_narrows_66 aF_X12_147 rfl (tg_44 hT) (pr_44_54 hR) ?_
            refine aw_iload hC dX12_narrows_69 rfl ?_
            refine aw_laload_k (j := (iN I 47 k)) hC dX12_narrows_71 (tg_88 hT) (nI_clamp (by omega)) (vp_in_nI (by omega) (by decide)) ?_
            rw [a_ur_self (f := J) (o := 88) (g := S2)]
            refine aw_lstore (L2 := [some (.ref 44), some (.int gs), some (.int (nI k)), some (.int (nI (iN I 46 k))), some (.int (nI (iN I 47 k))), some (.long (S2 (iN I 46 k))), none, some (.long (S2 (iN I 47 k))), none]) hC dX12_narrows_72 (by decide) rfl ?_
            refine aw_aload_n hC dX12_narrows_74 rfl ?_
            refine aw_iload_n hC dX12_narrows_75 rfl ?_
            refine kX12_253 hC rfl (m_X12_narrowsBy hT hR (n := n) (s := k) hS (by omega)) dX12_narrows_76 (tg_44 hT) rfl a_le a_le a_le a_le a_le rfl aPure_x (aPure_k ?_)
            rw [show a_ur (a_ur J 88 S2) 88 (nBy I k ((a_ur J 88 S2) 88)) = a_ur J 88 (nBy I k S2) from by rw [show (a_ur J 88 S2) 88 = S2 from a_ur_self, a_ur_2]]
            show AW X 0 0 79 [some (.ref 44), some (.int gs), some (.int (nI k)), some (.int (nI (iN I 46 k))), some (.int (nI (iN I 47 k))), some (.long (S2 (iN I 46 k))), none, some (.long (S2 (iN I 47 k))), none] [] T I (a_ur J 88 (nBy I k S2)) R
            refine aw_iload_n hC dX12_narrows_79 rfl ?_
            refine aw_aload_n hC dX12_narrows_80 rfl ?_
            refine aw_getR hC dX12_narrows_81 aF_X12_147 rfl (tg_44 hT) (pr_44_54 hR) ?_
            refine aw_iload_n hC dX12_narrows_84 rfl ?_
            refine aw_laload_k (j := (iN I 46 k)) hC dX12_narrows_85 (tg_88 hT) (nI_clamp (by omega)) (vp_in_nI (by omega) (by decide)) ?_
            rw [a_ur_self (f := J) (o := 88) (g := nBy I k S2)]
            refine aw_lload hC dX12_narrows_86 rfl ?_
            refine aw_lcmp hC dX12_narrows_88 ?_
            refine aw_if_ne (tgt := 105) hC dX12_narrows_89 (by decide) (fun h11 => ?_) (fun h11 => ?_)
            · show AW X 0 0 105 [some (.ref 44), some (.int gs), some (.int (nI k)), some (.int (nI (iN I 46 k))), some (.int (nI (iN I 47 k))), some (.long (S2 (iN I 46 k))), none, some (.long (S2 (iN I 47 k))), none] [.int gs] T I (a_ur J 88 (nBy I k S2)) R
              refine aw_iconst (v := 1) hC dX12_narrows_105 (by decide) ?_
              refine aw_goto (tgt := 110) hC dX12_narrows_106 (by decide) ?_
              refine aw_ior hC dX12_narrows_110 ?_
              rw [gs_or1 (LN.gs hLN)]
              refine aw_istore_n (L2 := [some (.ref 44), some (.int 1), some (.int (nI k)), some (.int (nI (iN I 46 k))), some (.int (nI (iN I 47 k))), some (.long (S2 (iN I 46 k))), none, some (.long (S2 (iN I 47 k))), none]) hC dX12_narrows_111 rfl (by decide) rfl ?_
              refine aw_iinc (v := nI (k + 1)) (L2 := [some (.ref 44), some (.int 1), some (.int (nI (k + 1))), some (.int (nI (iN I 46 k))), some (.int (nI (iN I 47 k))), some (.long (S2 (iN I 46 k))), none, some (.long (S2 (iN I 47 k))), none]) hC dX12_narrows_112 rfl (nI_inc _) (by decide) rfl ?_
              refine aw_goto (tgt := 10) hC dX12_narrows_115 (by decide) ?_
              refine aw_forget 3 (L2 := [some (.ref 44), some (.int 1), some (.int (nI (k + 1))), none, some (.int (nI (iN I 47 k))), some (.long (S2 (iN I 46 k))), none, some (.long (S2 (iN I 47 k))), none]) rfl ?_
              refine aw_forget 4 (L2 := [some (.ref 44), some (.int 1), some (.int (nI (k + 1))), none, none, some (.long (S2 (iN I 46 k))), none, some (.long (S2 (iN I 47 k))), none]) rfl ?_
              refine aw_forget 5 (L2 := [some (.ref 44), some (.int 1), some (.int (nI (k + 1))), none, none, none, none, some (.long (S2 (iN I 47 k))), none]) rfl ?_
              refine aw_forget 7 (L2 := [some (.ref 44), some (.int 1), some (.int (nI (k + 1))), none, none, none, none, none, none]) rfl ?_
              first | exact ihI (by omega) 1 _ (LN.put (j := iN I 46 k) hLN (by omega) hcn (by omega) (fun q => absurd ((lgc0 _ _).mpr q) (by assumption))) | exact ihI (by omega) 1 _ (LN.put (j := iN I 47 k) hLN (by omega) hcn (by omega) (fun q => absurd ((lgc0 _ _).mpr q) (by assumption))) | exact ihI (by omega) 1 _ (LN.put (j := 0) hLN (by omega) hcn (by omega) (fun q => absurd ((lgc0 _ _).mpr q) (by assumption)))
            · show AW X 0 0 92 [some (.ref 44), some (.int gs), some (.int (nI k)), some (.int (nI (iN I 46 k))), some (.int (nI (iN I 47 k))), some (.long (S2 (iN I 46 k))), none, some (.long (S2 (iN I 47 k))), none] [.int gs] T I (a_ur J 88 (nBy I k S2)) R
              refine aw_aload_n hC dX12_narrows_92 rfl ?_
              refine aw_getR hC dX12_narrows_93 aF_X12_147 rfl (tg_44 hT) (pr_44_54 hR) ?_
              refine aw_iload hC dX12_narrows_96 rfl ?_
              refine aw_laload_k (j := (iN I 47 k)) hC dX12_narrows_98 (tg_88 hT) (nI_clamp (by omega)) (vp_in_nI (by omega) (by decide)) ?_
              rw [a_ur_self (f := J) (o := 88) (g := nBy I k S2)]
              refine aw_lload hC dX12_narrows_99 rfl ?_
              refine aw_lcmp hC dX12_narrows_101 ?_
              refine aw_if_eq (tgt := 109) hC dX12_narrows_102 (by decide) (fun h12 => ?_) (fun h12 => ?_)
              · show AW X 0 0 109 [some (.ref 44), some (.int gs), some (.int (nI k)), some (.int (nI (iN I 46 k))), some (.int (nI (iN I 47 k))), some (.long (S2 (iN I 46 k))), none, some (.long (S2 (iN I 47 k))), none] [.int gs] T I (a_ur J 88 (nBy I k S2)) R
                refine aw_iconst (v := 0) hC dX12_narrows_109 (by decide) ?_
                refine aw_ior hC dX12_narrows_110 ?_
                rw [Int32.or_zero]
                refine aw_istore_n (L2 := [some (.ref 44), some (.int gs), some (.int (nI k)), some (.int (nI (iN I 46 k))), some (.int (nI (iN I 47 k))), some (.long (S2 (iN I 46 k))), none, some (.long (S2 (iN I 47 k))), none]) hC dX12_narrows_111 rfl (by decide) rfl ?_
                refine aw_iinc (v := nI (k + 1)) (L2 := [some (.ref 44), some (.int gs), some (.int (nI (k + 1))), some (.int (nI (iN I 46 k))), some (.int (nI (iN I 47 k))), some (.long (S2 (iN I 46 k))), none, some (.long (S2 (iN I 47 k))), none]) hC dX12_narrows_112 rfl (nI_inc _) (by decide) rfl ?_
                refine aw_goto (tgt := 10) hC dX12_narrows_115 (by decide) ?_
                refine aw_forget 3 (L2 := [some (.ref 44), some (.int gs), some (.int (nI (k + 1))), none, some (.int (nI (iN I 47 k))), some (.long (S2 (iN I 46 k))), none, some (.long (S2 (iN I 47 k))), none]) rfl ?_
                refine aw_forget 4 (L2 := [some (.ref 44), some (.int gs), some (.int (nI (k + 1))), none, none, some (.long (S2 (iN I 46 k))), none, some (.long (S2 (iN I 47 k))), none]) rfl ?_
                refine aw_forget 5 (L2 := [some (.ref 44), some (.int gs), some (.int (nI (k + 1))), none, none, none, none, some (.long (S2 (iN I 47 k))), none]) rfl ?_
                refine aw_forget 7 (L2 := [some (.ref 44), some (.int gs), some (.int (nI (k + 1))), none, none, none, none, none, none]) rfl ?_
                have hsm : nBy I k S2 = S2 := nBy_same ((lgc0 _ _).mp (by assumption)) (fun q => by first | exact absurd q hpr | exact (lgc0 _ _).mp (by assumption))
                rw [hsm]
                exact ihI (by omega) gs S2 (LN.skip hLN (fun _ => hsm))
              · show AW X 0 0 105 [some (.ref 44), some (.int gs), some (.int (nI k)), some (.int (nI (iN I 46 k))), some (.int (nI (iN I 47 k))), some (.long (S2 (iN I 46 k))), none, some (.long (S2 (iN I 47 k))), none] [.int gs] T I (a_ur J 88 (nBy I k S2)) R
                refine aw_iconst (v := 1) hC dX12_narrows_105 (by decide) ?_
                refine aw_goto (tgt := 110) hC dX12_narrows_106 (by decide) ?_
                refine aw_ior hC dX12_narrows_110 ?_
                rw [gs_or1 (LN.gs hLN)]
                refine aw_istore_n (L2 := [some (.ref 44), some (.int 1), some (.int (nI k)), some (.int (nI (iN I 46 k))), some (.int (nI (iN I 47 k))), some (.long (S2 (iN I 46 k))), none, some (.long (S2 (iN I 47 k))), none]) hC dX12_narrows_111 rfl (by decide) rfl ?_
                refine aw_iinc (v := nI (k + 1)) (L2 := [some (.ref 44), some (.int 1), some (.int (nI (k + 1))), some (.int (nI (iN I 46 k))), some (.int (nI (iN I 47 k))), some (.long (S2 (iN I 46 k))), none, some (.long (S2 (iN I 47 k))), none]) hC dX12_narrows_112 rfl (nI_inc _) (by decide) rfl ?_
                refine aw_goto (tgt := 10) hC dX12_narrows_115 (by decide) ?_
                refine aw_forget 3 (L2 := [some (.ref 44), some (.int 1), some (.int (nI (k + 1))), none, some (.int (nI (iN I 47 k))), some (.long (S2 (iN I 46 k))), none, some (.long (S2 (iN I 47 k))), none]) rfl ?_
                refine aw_forget 4 (L2 := [some (.ref 44), some (.int 1), some (.int (nI (k + 1))), none, none, some (.long (S2 (iN I 46 k))), none, some (.long (S2 (iN I 47 k))), none]) rfl ?_
                refine aw_forget 5 (L2 := [some (.ref 44), some (.int 1), some (.int (nI (k + 1))), none, none, none, none, some (.long (S2 (iN I 47 k))), none]) rfl ?_
                refine aw_forget 7 (L2 := [some (.ref 44), some (.int 1), some (.int (nI (k + 1))), none, none, none, none, none, none]) rfl ?_
                first | exact ihI (by omega) 1 _ (LN.put (j := iN I 46 k) hLN (by omega) hcn (by omega) (fun q => absurd ((lgc0 _ _).mpr q) (by assumption))) | exact ihI (by omega) 1 _ (LN.put (j := iN I 47 k) hLN (by omega) hcn (by omega) (fun q => absurd ((lgc0 _ _).mpr q) (by assumption))) | exact ihI (by omega) 1 _ (LN.put (j := 0) hLN (by omega) hcn (by omega) (fun q => absurd ((lgc0 _ _).mpr q) (by assumption)))
    exact loopI 0 (Nat.zero_le _) 0 S1 ⟨SLe_r _, hgr, Or.inl ⟨rfl, rfl, fun s hs => absurd hs (by omega)⟩⟩
  refine loopW _ (J 88) (Nat.le_refl _) (SLe_r _) (fun T h _ => h)
