theorem nCh_f {I : aI} {s : Nat} {S : Nat → Int64} (h : nCh I s S = false) : nBy I s S = S := Classical.byContradiction fun q => by rw [nCh_iff.mpr q] at h; cases h
theorem nCh_t {I : aI} {n s : Nat} {S : Nat → Int64} (hS : SW I n) (hs : s < n) (h : nCh I s S = true) : ∃ j, j < 10 ∧ nBy I s S j ≠ S j := by
  have q := nCh_iff.mp h
  apply Classical.byContradiction; intro g
  apply q
  refine nBy_same ?_ (fun p => ?_)
  · exact Classical.byContradiction fun z => g ⟨_, (hS.fd s hs).2, z⟩
  · exact Classical.byContradiction fun z => g ⟨_, hS.k56 s hs (isPr_n hS hs p), z⟩
theorem sumC_640 (S : Nat → Int64) : sumC S 10 ≤ 640 := sumC_le S 10
set_option maxRecDepth 100000 in
theorem m_X10_narrowAll {T : List aT} {I : aI} {J : aJ} {R : aR} (hT : aPT T) (hR : aPR R) {m : aI} {n : Nat} {sq : Nat → Nat} (hSt : CSt T I R m n sq) (hD : CDr I R m n sq) (hS : SW m n) (h53 : m 44 53 = 0) {b a : Nat} (hb : HSet T R b a) : MX10_narrowAll 0 0 [.ref 8, .ref b] T I J R (aRelV (fun v I2 J2 => v = none ∧ I2 = I ∧ ∃ S, Fix m n (J a) S ∧ J2 = a_ur J a S) T R) := by
  refine a_met (by decide +kernel) a_le (fun X hC hq => ?_)
  show AW X 0 0 0 [some (.ref 8), some (.ref b), none, none, none, none] [] T I J R
  refine aw_iconst (v := 1) hC dX10_narrowAll_0 (by decide) ?_
  refine aw_istore_n (L2 := [some (.ref 8), some (.ref b), some (.int 1), none, none, none]) hC dX10_narrowAll_1 rfl (by decide) rfl ?_
  refine aw_iconst (v := 0) hC dX10_narrowAll_2 (by decide) ?_
  refine aw_istore_n (L2 := [some (.ref 8), some (.ref b), some (.int 1), some (.int 0), none, none]) hC dX10_narrowAll_3 rfl (by decide) rfl ?_
  refine aw_setJ (J2 := a_ur J a (J a)) (a_ur_id (fun _ => rfl)).symm ?_
  have loopW : ∀ c (r : Nat) (S1 : Nat → Int64), sumC S1 10 ≤ c → r + sumC S1 10 ≤ 640 → SLe S1 (J a) → (∀ T, SLe T (J a) → Stb m n T → SLe T S1) → AW X 0 0 4 [some (.ref 8), some (.ref b), some (.int 1), some (.int (nI r)), none, none] [] T I (a_ur J a S1) R := by
    refine upN (fun c ihW => ?_)
    intro r S1 hc hr9 hS1 hgr
    refine aw_iload_n hC dX10_narrowAll_4 rfl ?_
    refine aw_if_eq (tgt := 73) hC dX10_narrowAll_5 (by decide) (fun h1 => absurd h1 (by decide)) (fun _ => ?_)
    show AW X 0 0 8 [some (.ref 8), some (.ref b), some (.int 1), some (.int (nI r)), none, none] [] T I (a_ur J a S1) R
    refine aw_iload_n hC dX10_narrowAll_8 rfl ?_
    refine aw_ldc (v := 1000000) hC dX10_narrowAll_9 gK_X10_113 ?_
    refine aw_icmp_ge (tgt := 73) hC dX10_narrowAll_11 (by decide) (fun h2 => ?_) (fun h2 => ?_)
    · show AW X 0 0 73 [some (.ref 8), some (.ref b), some (.int 1), some (.int (nI r)), none, none] [] T I (a_ur J a S1) R
      have h2n : 1000000 ≤ r := (nI_leI (a := 1000000) (b := r) (by omega) (by omega)).mp h2
      exact aw_return hC hq rfl dX10_narrowAll_73 a_le a_le (by exfalso; omega)
    · show AW X 0 0 14 [some (.ref 8), some (.ref b), some (.int 1), some (.int (nI r)), none, none] [] T I (a_ur J a S1) R
      have h2n : ¬ 1000000 ≤ r := fun q9 => h2 ((nI_leI (a := 1000000) (b := r) (by omega) (by omega)).mpr q9)
      refine aw_iconst (v := 0) hC dX10_narrowAll_14 (by decide) ?_
      refine aw_istore_n (L2 := [some (.ref 8), some (.ref b), some (.int 0), some (.int (nI r)), none, none]) hC dX10_narrowAll_15 rfl (by decide) rfl ?_
      refine aw_iconst (v := 0) hC dX10_narrowAll_16 (by decide) ?_
      refine aw_istore (L2 := [some (.ref 8), some (.ref b), some (.int 0), some (.int (nI r)), some (.int 0), none]) hC dX10_narrowAll_17 (by decide) rfl ?_
      have loopI : ∀ k, k ≤ n → ∀ (gs : Int32) (S2 : Nat → Int64), LN m n (J a) S1 S2 k gs → AW X 0 0 19 [some (.ref 8), some (.ref b), some (.int gs), some (.int (nI r)), some (.int (nI k)), none] [] T I (a_ur J a S2) R := by
        refine a_down n (fun k hkI ihI => ?_)
        intro gs S2 hLN
        have hn9 := hS.n30
        refine aw_iload hC dX10_narrowAll_19 rfl ?_
        refine aw_aload_n hC dX10_narrowAll_21 rfl ?_
        refine aw_getR hC dX10_narrowAll_22 aF_X10_40 rfl (tg_8 hT) (pr_8_0 hR) ?_
        refine aw_getI hC dX10_narrowAll_25 aF_X10_60 rfl (tg_1 hT) ?_
        rw [hSt.cnt]
        refine aw_icmp_ge (tgt := 67) hC dX10_narrowAll_28 (by decide) (fun h3 => ?_) (fun h3 => ?_)
        · show AW X 0 0 67 [some (.ref 8), some (.ref b), some (.int gs), some (.int (nI r)), some (.int (nI k)), none] [] T I (a_ur J a S2) R
          have h3n : n ≤ k := (nI_leI (a := n) (b := k) (by omega) (by omega)).mp h3
          refine aw_iinc (v := nI (r + 1)) (L2 := [some (.ref 8), some (.ref b), some (.int gs), some (.int (nI (r + 1))), some (.int (nI k)), none]) hC dX10_narrowAll_67 rfl (nI_inc _) (by decide) rfl ?_
          refine aw_goto (tgt := 4) hC dX10_narrowAll_70 (by decide) ?_
          have e9 : k = n := by omega
          subst e9
          rcases hLN.2.2 with ⟨rfl, rfl, hok⟩ | ⟨rfl, hlt⟩
          · refine aw_iload_n hC dX10_narrowAll_4 rfl ?_
            refine aw_if_eq (tgt := 73) hC dX10_narrowAll_5 (by decide) (fun _ => ?_) (fun h => absurd rfl h)
            exact aw_return hC hq rfl dX10_narrowAll_73 a_le a_le ⟨_, rfl, rfl, rfl, rfl, rfl, _, ⟨hS1, fun s hs => hok s hs, hgr⟩, rfl⟩
          · refine aw_forget 4 rfl ?_
            exact ihW _ (by omega) (r + 1) S2 (Nat.le_refl _) (by omega) (SLe_t hLN.1 hS1) hLN.2.1
        · show AW X 0 0 31 [some (.ref 8), some (.ref b), some (.int gs), some (.int (nI r)), some (.int (nI k)), none] [] T I (a_ur J a S2) R
          have h3n : ¬ n ≤ k := fun q9 => h3 ((nI_leI (a := n) (b := k) (by omega) (by omega)).mpr q9)
          refine aw_aload_n hC dX10_narrowAll_31 rfl ?_
          refine aw_getR hC dX10_narrowAll_32 aF_X10_40 rfl (tg_8 hT) (pr_8_0 hR) ?_
          refine aw_getR hC dX10_narrowAll_35 aF_X10_64 rfl (tg_1 hT) (pr_1_0 hR) ?_
          refine aw_iload hC dX10_narrowAll_38 rfl ?_
          refine aw_aaloadR_k (j := k) hC dX10_narrowAll_40 (tg_2 hT) (nI_clamp (by omega)) (vp_in_nI (by omega) (by decide)) (hSt.rf (by omega)) ?_
          refine aw_astore (L2 := [some (.ref 8), some (.ref b), some (.int gs), some (.int (nI r)), some (.int (nI k)), some (.ref (sq k))]) hC dX10_narrowAll_41 (by decide) rfl ?_
          refine aw_aload hC dX10_narrowAll_43 rfl ?_
          refine aw_aload_n hC dX10_narrowAll_45 rfl ?_
          refine kX10_67 hC rfl (m_X10_isCounting (J := a_ur J a S2) hSt hD hS h53 hb (s := k) (by omega)) dX10_narrowAll_46 rfl a_le a_le a_le a_le a_le rfl aPure_x (aPure_k ?_)
          show AW X 0 0 49 [some (.ref 8), some (.ref b), some (.int gs), some (.int (nI r)), some (.int (nI k)), some (.ref (sq k))] [.int (bI (decide (cOn m ((a_ur J a S2) a) k)))] T I (a_ur J a S2) R
          rw [show (a_ur J a S2) a = S2 from a_ur_self]
          refine aw_if_eq (tgt := 61) hC dX10_narrowAll_49 (by decide) (fun h4 => ?_) (fun h4 => ?_)
          · show AW X 0 0 61 [some (.ref 8), some (.ref b), some (.int gs), some (.int (nI r)), some (.int (nI k)), some (.ref (sq k))] [] T I (a_ur J a S2) R
            refine aw_iinc (v := nI (k + 1)) (L2 := [some (.ref 8), some (.ref b), some (.int gs), some (.int (nI r)), some (.int (nI (k + 1))), some (.ref (sq k))]) hC dX10_narrowAll_61 rfl (nI_inc _) (by decide) rfl ?_
            refine aw_goto (tgt := 19) hC dX10_narrowAll_64 (by decide) ?_
            refine aw_forget 5 (L2 := [some (.ref 8), some (.ref b), some (.int gs), some (.int (nI r)), some (.int (nI (k + 1))), none]) rfl ?_
            exact ihI (by omega) gs S2 (LN.skip hLN (fun hw => absurd hw (bI_d0.mp (by assumption))))
          · show AW X 0 0 52 [some (.ref 8), some (.ref b), some (.int gs), some (.int (nI r)), some (.int (nI k)), some (.ref (sq k))] [] T I (a_ur J a S2) R
            refine aw_iload_n hC dX10_narrowAll_52 rfl ?_
            refine aw_aload_n hC dX10_narrowAll_53 rfl ?_
            refine aw_aload hC dX10_narrowAll_54 rfl ?_
            refine kX10_118 hC rfl (m_X7_narrow (J := a_ur J a S2) hSt hS hb (s := k) (by omega)) dX10_narrowAll_56 hb.1 rfl a_le a_le a_le a_le a_le rfl aPure_x (aPure_k ?_)
            rw [show a_ur (a_ur J a S2) a (nBy m k ((a_ur J a S2) a)) = a_ur J a (nBy m k S2) from by rw [a_ur_2, a_ur_self]]
            show AW X 0 0 59 [some (.ref 8), some (.ref b), some (.int gs), some (.int (nI r)), some (.int (nI k)), some (.ref (sq k))] [.int (bI (nCh m k ((a_ur J a S2) a))), .int gs] T I (a_ur J a (nBy m k S2)) R
            rw [show ((a_ur J a S2) a) = S2 from a_ur_self]
            refine aw_ior hC dX10_narrowAll_59 ?_
            refine aw_istore_n (L2 := [some (.ref 8), some (.ref b), some (.int (gs ||| (bI (nCh m k S2)))), some (.int (nI r)), some (.int (nI k)), some (.ref (sq k))]) hC dX10_narrowAll_60 rfl (by decide) rfl ?_
            refine aw_iinc (v := nI (k + 1)) (L2 := [some (.ref 8), some (.ref b), some (.int (gs ||| (bI (nCh m k S2)))), some (.int (nI r)), some (.int (nI (k + 1))), some (.ref (sq k))]) hC dX10_narrowAll_61 rfl (nI_inc _) (by decide) rfl ?_
            refine aw_goto (tgt := 19) hC dX10_narrowAll_64 (by decide) ?_
            cases e9 : nCh m k S2 with
            | false =>
              rw [show gs ||| bI false = gs from Int32.or_zero, nCh_f e9]
              refine aw_forget 5 (L2 := [some (.ref 8), some (.ref b), some (.int gs), some (.int (nI r)), some (.int (nI (k + 1))), none]) rfl ?_
              exact ihI (by omega) gs S2 (LN.skip hLN (fun _ => nCh_f e9))
            | true =>
              rw [show gs ||| bI true = 1 from gs_or1 hLN.gs]
              refine aw_forget 5 (L2 := [some (.ref 8), some (.ref b), some (.int 1), some (.int (nI r)), some (.int (nI (k + 1))), none]) rfl ?_
              obtain ⟨j9, hj1, hj2⟩ := nCh_t hS (by omega) e9
              exact ihI (by omega) 1 _ (LN.put hLN (by omega) (bI_dn.mp (by assumption)) hj1 hj2)
      exact loopI 0 (Nat.zero_le _) 0 S1 ⟨SLe_r _, hgr, Or.inl ⟨rfl, rfl, fun s hs => absurd hs (by omega)⟩⟩
  exact loopW 640 0 (J a) (sumC_640 _) (by have := sumC_640 (J a); omega) (SLe_r _) (fun T h _ => h)
abbrev BI (m : aI) (n : Nat) (S0 S : Nat → Int64) : Prop := SLe S S0 ∧ ∀ T, SLe T S0 → Stb m n T → SLe T S
theorem BI.put {m : aI} {n s : Nat} {S0 S : Nat → Int64} (hs : s < n) (h : BI m n S0 S) (hc : cOn m S s) : BI m n S0 (nBy m s S) := ⟨SLe_t (nBy_le _ _ _) h.1, fun T hT g => Stb_below hs (h.2 T hT g) g hc⟩
set_option maxRecDepth 100000 in
theorem m_X10_narrowOut {T : List aT} {I : aI} {J : aJ} {R : aR} (hT : aPT T) (hR : aPR R) {m : aI} {n : Nat} {sq : Nat → Nat} (hSt : CSt T I R m n sq) (hD : CDr I R m n sq) (hS : SW m n) (h53 : m 44 53 = 0) {s : Nat} (hs : s < n) (S0 : Nat → Int64) (hB : BI m n S0 (J 15)) : MX10_narrowOut 0 0 [.ref 8, .ref (sq s)] T I J R (aRelV (fun v I2 J2 => I2 = I ∧ ∃ S, J2 = a_ur J 15 S ∧ BI m n S0 S ∧ SLe S (J 15) ∧ (cOn m S s → nBy m s S = S) ∧ ∃ ch, v = some (.int (bI ch)) ∧ ((ch = false ∧ S = J 15) ∨ (ch = true ∧ sumC S 10 < sumC (J 15) 10))) T R) := by
  refine a_met (by decide +kernel) a_le (fun X hC hq => ?_)
  show AW X 0 0 0 [some (.ref 8), some (.ref (sq s)), none] [] T I J R
  have hb15 : HSet T R 14 15 := ⟨tg_14 hT, pr_14_0 hR, tg_15 hT⟩
  refine aw_iconst (v := 0) hC dX10_narrowOut_0 (by decide) ?_
  refine aw_istore_n (L2 := [some (.ref 8), some (.ref (sq s)), some (.int 0)]) hC dX10_narrowOut_1 rfl (by decide) rfl ?_
  refine aw_setJ (J2 := a_ur J 15 (J 15)) (a_ur_id (fun _ => rfl)).symm ?_
  have loopW : ∀ c (r : Nat) (S1 : Nat → Int64), sumC S1 10 ≤ c → r + sumC S1 10 ≤ 640 → BI m n S0 S1 → SLe S1 (J 15) → ((r = 0 ∧ S1 = J 15) ∨ (0 < r ∧ sumC S1 10 < sumC (J 15) 10)) → AW X 0 0 2 [some (.ref 8), some (.ref (sq s)), some (.int (nI r))] [] T I (a_ur J 15 S1) R := by
    refine upN (fun c ihW => ?_)
    intro r S1 hc hr9 hB1 hle hrs
    have hn9 := hS.n30
    refine aw_iload_n hC dX10_narrowOut_2 rfl ?_
    refine aw_ldc (v := 1000000) hC dX10_narrowOut_3 gK_X10_113 ?_
    refine aw_icmp_ge (tgt := 36) hC dX10_narrowOut_5 (by decide) (fun h1 => ?_) (fun h1 => ?_)
    · show AW X 0 0 36 [some (.ref 8), some (.ref (sq s)), some (.int (nI r))] [] T I (a_ur J 15 S1) R
      have h1n : 1000000 ≤ r := (nI_leI (a := 1000000) (b := r) (by omega) (by omega)).mp h1
      refine aw_iload_n hC dX10_narrowOut_36 rfl ?_
      refine aw_if_le (tgt := 44) hC dX10_narrowOut_37 (by decide) (fun h2 => ?_) (fun h2 => ?_)
      · show AW X 0 0 44 [some (.ref 8), some (.ref (sq s)), some (.int (nI r))] [] T I (a_ur J 15 S1) R
        have h2n : r ≤ 0 := (nI_leI (a := r) (b := 0) (by omega) (by omega)).mp h2
        refine aw_iconst (v := 0) hC dX10_narrowOut_44 (by decide) ?_
        exact aw_zreturn hC hq rfl (Or.inl rfl) dX10_narrowOut_45 a_le a_le (by first | (exfalso; omega) | exact ⟨_, rfl, rfl, rfl, rfl, _, rfl, hB1, hle, (fun hcn => absurd hcn (bI_d0.mp (by assumption))), false, rfl, (Or.inl ⟨rfl, (by rcases hrs with h | h <;> first | exact h.2 | (exfalso; omega))⟩)⟩)
      · show AW X 0 0 40 [some (.ref 8), some (.ref (sq s)), some (.int (nI r))] [] T I (a_ur J 15 S1) R
        have h2n : ¬ r ≤ 0 := fun q9 => h2 ((nI_leI (a := r) (b := 0) (by omega) (by omega)).mpr q9)
        refine aw_iconst (v := 1) hC dX10_narrowOut_40 (by decide) ?_
        refine aw_goto (tgt := 45) hC dX10_narrowOut_41 (by decide) ?_
        exact aw_zreturn hC hq rfl (Or.inr rfl) dX10_narrowOut_45 a_le a_le (by first | (exfalso; omega) | exact ⟨_, rfl, rfl, rfl, rfl, _, rfl, hB1, hle, (fun hcn => absurd hcn (bI_d0.mp (by assumption))), true, rfl, (Or.inr ⟨rfl, (by rcases hrs with h | h <;> first | exact h.2 | (exfalso; omega))⟩)⟩)
    · show AW X 0 0 8 [some (.ref 8), some (.ref (sq s)), some (.int (nI r))] [] T I (a_ur J 15 S1) R
      have h1n : ¬ 1000000 ≤ r := fun q9 => h1 ((nI_leI (a := 1000000) (b := r) (by omega) (by omega)).mpr q9)
      refine aw_aload_n hC dX10_narrowOut_8 rfl ?_
      refine aw_aload_n hC dX10_narrowOut_9 rfl ?_
      refine aw_getR hC dX10_narrowOut_10 aF_X10_25 rfl (tg_8 hT) (pr_8_6 hR) ?_
      refine kX10_67 hC rfl (m_X10_isCounting (J := a_ur J 15 S1) hSt hD hS h53 hb15 (s := s) (by omega)) dX10_narrowOut_13 rfl a_le a_le a_le a_le a_le rfl aPure_x (aPure_k ?_)
      show AW X 0 0 16 [some (.ref 8), some (.ref (sq s)), some (.int (nI r))] [.int (bI (decide (cOn m ((a_ur J 15 S1) 15) s)))] T I (a_ur J 15 S1) R
      rw [show (a_ur J 15 S1) 15 = S1 from a_ur_self]
      refine aw_if_eq (tgt := 36) hC dX10_narrowOut_16 (by decide) (fun h3 => ?_) (fun h3 => ?_)
      · show AW X 0 0 36 [some (.ref 8), some (.ref (sq s)), some (.int (nI r))] [] T I (a_ur J 15 S1) R
        refine aw_iload_n hC dX10_narrowOut_36 rfl ?_
        refine aw_if_le (tgt := 44) hC dX10_narrowOut_37 (by decide) (fun h4 => ?_) (fun h4 => ?_)
        · show AW X 0 0 44 [some (.ref 8), some (.ref (sq s)), some (.int (nI r))] [] T I (a_ur J 15 S1) R
          have h4n : r ≤ 0 := (nI_leI (a := r) (b := 0) (by omega) (by omega)).mp h4
          refine aw_iconst (v := 0) hC dX10_narrowOut_44 (by decide) ?_
          exact aw_zreturn hC hq rfl (Or.inl rfl) dX10_narrowOut_45 a_le a_le (by first | (exfalso; omega) | exact ⟨_, rfl, rfl, rfl, rfl, _, rfl, hB1, hle, (fun hcn => absurd hcn (bI_d0.mp (by assumption))), false, rfl, (Or.inl ⟨rfl, (by rcases hrs with h | h <;> first | exact h.2 | (exfalso; omega))⟩)⟩)
        · show AW X 0 0 40 [some (.ref 8), some (.ref (sq s)), some (.int (nI r))] [] T I (a_ur J 15 S1) R
          have h4n : ¬ r ≤ 0 := fun q9 => h4 ((nI_leI (a := r) (b := 0) (by omega) (by omega)).mpr q9)
          refine aw_iconst (v := 1) hC dX10_narrowOut_40 (by decide) ?_
          refine aw_goto (tgt := 45) hC dX10_narrowOut_41 (by decide) ?_
          exact aw_zreturn hC hq rfl (Or.inr rfl) dX10_narrowOut_45 a_le a_le (by first | (exfalso; omega) | exact ⟨_, rfl, rfl, rfl, rfl, _, rfl, hB1, hle, (fun hcn => absurd hcn (bI_d0.mp (by assumption))), true, rfl, (Or.inr ⟨rfl, (by rcases hrs with h | h <;> first | exact h.2 | (exfalso; omega))⟩)⟩)
      · show AW X 0 0 19 [some (.ref 8), some (.ref (sq s)), some (.int (nI r))] [] T I (a_ur J 15 S1) R
        refine aw_aload_n hC dX10_narrowOut_19 rfl ?_
        refine aw_getR hC dX10_narrowOut_20 aF_X10_25 rfl (tg_8 hT) (pr_8_6 hR) ?_
        refine aw_aload_n hC dX10_narrowOut_23 rfl ?_
        refine kX10_118 hC rfl (m_X7_narrow (J := a_ur J 15 S1) hSt hS hb15 (s := s) (by omega)) dX10_narrowOut_24 (tg_14 hT) rfl a_le a_le a_le a_le a_le rfl aPure_x (aPure_k ?_)
        rw [show a_ur (a_ur J 15 S1) 15 (nBy m s ((a_ur J 15 S1) 15)) = a_ur J 15 (nBy m s S1) from by rw [a_ur_2, a_ur_self]]
        show AW X 0 0 27 [some (.ref 8), some (.ref (sq s)), some (.int (nI r))] [.int (bI (nCh m s ((a_ur J 15 S1) 15)))] T I (a_ur J 15 (nBy m s S1)) R
        rw [show ((a_ur J 15 S1) 15) = S1 from a_ur_self]
        refine aw_if_eq (tgt := 36) hC dX10_narrowOut_27 (by decide) (fun h5 => ?_) (fun h5 => ?_)
        · show AW X 0 0 36 [some (.ref 8), some (.ref (sq s)), some (.int (nI r))] [] T I (a_ur J 15 (nBy m s S1)) R
          have hsm : nBy m s S1 = S1 := nCh_f (bI_e0.mp (by assumption))
          rw [hsm]
          refine aw_iload_n hC dX10_narrowOut_36 rfl ?_
          refine aw_if_le (tgt := 44) hC dX10_narrowOut_37 (by decide) (fun h6 => ?_) (fun h6 => ?_)
          · show AW X 0 0 44 [some (.ref 8), some (.ref (sq s)), some (.int (nI r))] [] T I (a_ur J 15 S1) R
            have h6n : r ≤ 0 := (nI_leI (a := r) (b := 0) (by omega) (by omega)).mp h6
            refine aw_iconst (v := 0) hC dX10_narrowOut_44 (by decide) ?_
            exact aw_zreturn hC hq rfl (Or.inl rfl) dX10_narrowOut_45 a_le a_le (by first | (exfalso; omega) | exact ⟨_, rfl, rfl, rfl, rfl, _, rfl, hB1, hle, (fun _ => hsm), false, rfl, (Or.inl ⟨rfl, (by rcases hrs with h | h <;> first | exact h.2 | (exfalso; omega))⟩)⟩)
          · show AW X 0 0 40 [some (.ref 8), some (.ref (sq s)), some (.int (nI r))] [] T I (a_ur J 15 S1) R
            have h6n : ¬ r ≤ 0 := fun q9 => h6 ((nI_leI (a := r) (b := 0) (by omega) (by omega)).mpr q9)
            refine aw_iconst (v := 1) hC dX10_narrowOut_40 (by decide) ?_
            refine aw_goto (tgt := 45) hC dX10_narrowOut_41 (by decide) ?_
            exact aw_zreturn hC hq rfl (Or.inr rfl) dX10_narrowOut_45 a_le a_le (by first | (exfalso; omega) | exact ⟨_, rfl, rfl, rfl, rfl, _, rfl, hB1, hle, (fun _ => hsm), true, rfl, (Or.inr ⟨rfl, (by rcases hrs with h | h <;> first | exact h.2 | (exfalso; omega))⟩)⟩)
        · show AW X 0 0 30 [some (.ref 8), some (.ref (sq s)), some (.int (nI r))] [] T I (a_ur J 15 (nBy m s S1)) R
          refine aw_iinc (v := nI (r + 1)) (L2 := [some (.ref 8), some (.ref (sq s)), some (.int (nI (r + 1)))]) hC dX10_narrowOut_30 rfl (nI_inc _) (by decide) rfl ?_
          refine aw_goto (tgt := 2) hC dX10_narrowOut_33 (by decide) ?_
          have hnt := bI_n0.mp (by assumption : ¬ bI (nCh m s S1) = 0)
          obtain ⟨j9, hj1, hj2⟩ := nCh_t hS (by omega) hnt
          have hlt := sumC_lt (nBy_le m s S1) hj2 10 hj1
          exact ihW _ (by omega) (r + 1) _ (Nat.le_refl _) (by omega) (hB1.put (by omega) (bI_dn.mp (by assumption))) (SLe_t (nBy_le m s S1) hle) (Or.inr ⟨by omega, by have := sumC_mono hle 10; omega⟩)
  exact loopW 640 0 (J 15) (sumC_640 _) (by have := sumC_640 (J 15); omega) hB (SLe_r _) (Or.inl ⟨rfl, rfl⟩)
set_option maxRecDepth 100000 in
theorem m_X10_narrowBackwards {T : List aT} {I : aI} {J : aJ} {R : aR} (hT : aPT T) (hR : aPR R) {m : aI} {n : Nat} {sq : Nat → Nat} (hSt : CSt T I R m n sq) (hD : CDr I R m n sq) (hS : SW m n) (h53 : m 44 53 = 0) (hz : ∀ j, 10 ≤ j → J 15 j = 0) : MX10_narrowBackwards 0 0 [.ref 8] T I J R (aRelV (fun v I2 J2 => v = some (.ref 14) ∧ I2 = I ∧ ∃ S, Fix m n full S ∧ J2 = a_ur J 15 S) T R) := by
  refine a_met (by decide +kernel) a_le (fun X hC hq => ?_)
  show AW X 0 0 0 [some (.ref 8), none, none, none] [] T I J R
  have hfull : a_fill J 15 10 (fun _ => -1) = a_ur J 15 full := by funext x9 y9; by_cases h9 : x9 = 15; (subst h9; rw [a_ur_self]; by_cases c : y9 < 10; (rw [a_fill_in c, full, if_pos c]); (rw [a_fill_out (by omega), full, if_neg c]; exact hz y9 (by omega))); (rw [a_ur_ne h9, a_fill_ne h9])
  refine aw_aload_n hC dX10_narrowBackwards_0 rfl ?_
  refine aw_getR hC dX10_narrowBackwards_1 aF_X10_25 rfl (tg_8 hT) (pr_8_6 hR) ?_
  refine kX10_53 hC rfl (m_X7_fill (J := J) ⟨tg_14 hT, pr_14_0 hR, tg_15 hT⟩) dX10_narrowBackwards_4 (tg_14 hT) rfl a_le a_le a_le a_le a_le rfl aPure_x (aPure_k ?_)
  show AW X 0 0 7 [some (.ref 8), none, none, none] [] T I (a_fill J 15 10 (fun _ => -1)) R
  refine aw_iconst (v := 1) hC dX10_narrowBackwards_7 (by decide) ?_
  refine aw_istore_n (L2 := [some (.ref 8), some (.int 1), none, none]) hC dX10_narrowBackwards_8 rfl (by decide) rfl ?_
  refine aw_iconst (v := 0) hC dX10_narrowBackwards_9 (by decide) ?_
  refine aw_istore_n (L2 := [some (.ref 8), some (.int 1), some (.int 0), none]) hC dX10_narrowBackwards_10 rfl (by decide) rfl ?_
  rw [show a_fill J 15 10 (fun _ => -1) = a_ur J 15 full from hfull]
  have loopW : ∀ c (r : Nat) (S1 : Nat → Int64), sumC S1 10 ≤ c → r + sumC S1 10 ≤ 640 → BI m n full S1 → AW X 0 0 11 [some (.ref 8), some (.int 1), some (.int (nI r)), none] [] T I (a_ur J 15 S1) R := by
    refine upN (fun c ihW => ?_)
    intro r S1 hc hr9 hB1
    have hn9 := hS.n30
    refine aw_iload_n hC dX10_narrowBackwards_11 rfl ?_
    refine aw_if_eq (tgt := 65) hC dX10_narrowBackwards_12 (by decide) (fun h1 => absurd h1 (by decide)) (fun _ => ?_)
    show AW X 0 0 15 [some (.ref 8), some (.int 1), some (.int (nI r)), none] [] T I (a_ur J 15 S1) R
    refine aw_iload_n hC dX10_narrowBackwards_15 rfl ?_
    refine aw_ldc (v := 1000000) hC dX10_narrowBackwards_16 gK_X10_113 ?_
    refine aw_icmp_ge (tgt := 65) hC dX10_narrowBackwards_18 (by decide) (fun h2 => ?_) (fun h2 => ?_)
    · show AW X 0 0 65 [some (.ref 8), some (.int 1), some (.int (nI r)), none] [] T I (a_ur J 15 S1) R
      have h2n : 1000000 ≤ r := (nI_leI (a := 1000000) (b := r) (by omega) (by omega)).mp h2
      refine aw_aload_n hC dX10_narrowBackwards_65 rfl ?_
      refine aw_getR hC dX10_narrowBackwards_66 aF_X10_25 rfl (tg_8 hT) (pr_8_6 hR) ?_
      exact aw_areturn hC hq rfl (by first | exact Or.inl ⟨_, rfl⟩ | exact Or.inr ⟨_, rfl⟩) dX10_narrowBackwards_69 a_le a_le (by first | (exfalso; omega) | exact ⟨_, rfl, rfl, rfl, rfl, rfl, _, ⟨hB2.1, fun s hs hc9 => hok s (Nat.zero_le _) hs hc9, hB2.2⟩, rfl⟩)
    · show AW X 0 0 21 [some (.ref 8), some (.int 1), some (.int (nI r)), none] [] T I (a_ur J 15 S1) R
      have h2n : ¬ 1000000 ≤ r := fun q9 => h2 ((nI_leI (a := 1000000) (b := r) (by omega) (by omega)).mpr q9)
      refine aw_iconst (v := 0) hC dX10_narrowBackwards_21 (by decide) ?_
      refine aw_istore_n (L2 := [some (.ref 8), some (.int 0), some (.int (nI r)), none]) hC dX10_narrowBackwards_22 rfl (by decide) rfl ?_
      refine aw_aload_n hC dX10_narrowBackwards_23 rfl ?_
      refine aw_getR hC dX10_narrowBackwards_24 aF_X10_40 rfl (tg_8 hT) (pr_8_0 hR) ?_
      refine aw_getI hC dX10_narrowBackwards_27 aF_X10_60 rfl (tg_1 hT) ?_
      rw [hSt.cnt]
      refine aw_iconst (v := 1) hC dX10_narrowBackwards_30 (by decide) ?_
      refine aw_isub hC dX10_narrowBackwards_31 ?_
      refine aw_istore_n (L2 := [some (.ref 8), some (.int 0), some (.int (nI r)), some (.int ((nI n) - 1))]) hC dX10_narrowBackwards_32 rfl (by decide) rfl ?_
      rw [show nI n - 1 = nI n + (-1) from Int32.sub_eq_add_neg ..]
      have loopI : ∀ k, k ≤ n → ∀ (gs : Bool) (S2 : Nat → Int64), BI m n full S2 → SLe S2 S1 → ((gs = false ∧ S2 = S1 ∧ ∀ s, k ≤ s → s < n → cOn m S2 s → nBy m s S2 = S2) ∨ (gs = true ∧ sumC S2 10 < sumC S1 10)) → AW X 0 0 33 [some (.ref 8), some (.int (bI gs)), some (.int (nI r)), some (.int (nI k + (-1)))] [] T I (a_ur J 15 S2) R := by
        intro k
        induction k with
        | zero =>
          intro _ gs S2 hB2 hle hcs
          rw [show nI 0 + (-1) = (-1 : Int32) from by decide]
          refine aw_iload_n hC dX10_narrowBackwards_33 rfl ?_
          refine aw_if_lt (tgt := 59) hC dX10_narrowBackwards_34 (by decide) (fun _ => ?_) (fun h3 => absurd h3 (by decide))
          show AW X 0 0 59 [some (.ref 8), some (.int (bI gs)), some (.int (nI r)), some (.int (-1))] [] T I (a_ur J 15 S2) R
          refine aw_iinc (v := nI (r + 1)) (L2 := [some (.ref 8), some (.int (bI gs)), some (.int (nI (r + 1))), some (.int (-1))]) hC dX10_narrowBackwards_59 rfl (nI_inc _) (by decide) rfl ?_
          refine aw_goto (tgt := 11) hC dX10_narrowBackwards_62 (by decide) ?_
          rcases hcs with ⟨rfl, rfl, hok⟩ | ⟨rfl, hlt⟩
          · refine aw_iload_n hC dX10_narrowBackwards_11 rfl ?_
            refine aw_if_eq (tgt := 65) hC dX10_narrowBackwards_12 (by decide) (fun _ => ?_) (fun h => absurd rfl h)
            refine aw_aload_n hC dX10_narrowBackwards_65 rfl ?_
            refine aw_getR hC dX10_narrowBackwards_66 aF_X10_25 rfl (tg_8 hT) (pr_8_6 hR) ?_
            exact aw_areturn hC hq rfl (by first | exact Or.inl ⟨_, rfl⟩ | exact Or.inr ⟨_, rfl⟩) dX10_narrowBackwards_69 a_le a_le (by first | (exfalso; omega) | exact ⟨_, rfl, rfl, rfl, rfl, rfl, _, ⟨hB2.1, fun s hs hc9 => hok s (Nat.zero_le _) hs hc9, hB2.2⟩, rfl⟩)
          · refine aw_forget 3 rfl ?_
            exact ihW _ (by omega) (r + 1) S2 (Nat.le_refl _) (by omega) hB2
        | succ k ih =>
          intro hk gs S2 hB2 hle hcs
          rw [pk_m1]
          refine aw_iload_n hC dX10_narrowBackwards_33 rfl ?_
          refine aw_if_lt (tgt := 59) hC dX10_narrowBackwards_34 (by decide) (fun h => absurd ((nI_ltI (a := k) (b := 0) (by omega) (by omega)).mp h) (by omega)) (fun _ => ?_)
          show AW X 0 0 37 [some (.ref 8), some (.int (bI gs)), some (.int (nI r)), some (.int (nI k))] [] T I (a_ur J 15 S2) R
          refine aw_iload_n hC dX10_narrowBackwards_37 rfl ?_
          refine aw_aload_n hC dX10_narrowBackwards_38 rfl ?_
          refine aw_aload_n hC dX10_narrowBackwards_39 rfl ?_
          refine aw_getR hC dX10_narrowBackwards_40 aF_X10_40 rfl (tg_8 hT) (pr_8_0 hR) ?_
          refine aw_getR hC dX10_narrowBackwards_43 aF_X10_64 rfl (tg_1 hT) (pr_1_0 hR) ?_
          refine aw_iload_n hC dX10_narrowBackwards_46 rfl ?_
          refine aw_aaloadR_k (j := k) hC dX10_narrowBackwards_47 (tg_2 hT) (nI_clamp (by omega)) (vp_in_nI (by omega) (by decide)) (hSt.rf (by omega)) ?_
          refine kX10_114 hC rfl (m_X10_narrowOut (J := a_ur J 15 S2) hT hR hSt hD hS h53 (s := k) (by omega) full (by rw [a_ur_self]; exact hB2)) dX10_narrowBackwards_48 (tg_8 hT) rfl a_le a_le a_le a_le a_le rfl aRelV_x (aRelV_k (fun v9 I9 J9 hQ => ?_))
          obtain ⟨eI9, S3, eJ9, hB3, hle3, hst, ch, rfl, hch⟩ := hQ
          rw [eI9, eJ9]
          rw [show (a_ur J 15 S2) 15 = S2 from a_ur_self] at hle3 hch
          rw [show a_ur (a_ur J 15 S2) 15 S3 = a_ur J 15 S3 from a_ur_2]
          show AW X 0 0 51 [some (.ref 8), some (.int (bI gs)), some (.int (nI r)), some (.int (nI k))] [.int (bI ch), .int (bI gs)] T I (a_ur J 15 S3) R
          refine aw_ior hC dX10_narrowBackwards_51 ?_
          rw [bI_or _ _]
          refine aw_istore_n (L2 := [some (.ref 8), some (.int (bI (gs || ch))), some (.int (nI r)), some (.int (nI k))]) hC dX10_narrowBackwards_52 rfl (by decide) rfl ?_
          refine aw_iinc (v := nI k + (-1)) (L2 := [some (.ref 8), some (.int (bI (gs || ch))), some (.int (nI r)), some (.int (nI k + (-1)))]) hC dX10_narrowBackwards_53 rfl rfl (by decide) rfl ?_
          refine aw_goto (tgt := 33) hC dX10_narrowBackwards_56 (by decide) ?_
          rcases hch with ⟨ec9, es9⟩ | ⟨ec9, hlt⟩
          · rw [ec9, es9]; rw [es9] at hst; exact ih (by omega) (gs || false) S2 hB2 hle (by rw [Bool.or_false]; exact hcs.imp (fun q => ⟨q.1, q.2.1, fun s h1 h2 h3 => by by_cases e : s = k; (rw [e] at h3 ⊢; exact hst h3); exact q.2.2 s (by omega) h2 h3⟩) id)
          · rw [ec9]; exact ih (by omega) (gs || true) S3 hB3 (SLe_t hle3 hle) (Or.inr ⟨Bool.or_true _, by have := sumC_mono hle 10; omega⟩)
      exact loopI n (Nat.le_refl _) false S1 hB1 (SLe_r _) (Or.inl ⟨rfl, rfl, fun s h1 h2 => absurd h2 (by omega)⟩)
  exact loopW 640 0 full (sumC_640 _) (by have := sumC_640 full; omega) ⟨SLe_r _, fun T hT _ => hT⟩
