theorem and1_z {v : Int32} {f : Nat} (hf : f < 31) : ((v >>> (nI f &&& 31)) &&& 1 = 0) ↔ ¬ bt v f = true := by
  have q := bt_sshr (v := v) hf
  have e : ∀ x : Int32, x &&& 1 = 0 ∨ x &&& 1 = 1 := fun x => by
    cases h : bt x 0 with
    | false => exact Or.inl (b_ext fun i hi => by rw [b_and, bt_one, b_0]; by_cases c : i = 0; (rw [c, h]; rfl); simp [c])
    | true => exact Or.inr (b_ext fun i hi => by rw [b_and, bt_one]; by_cases c : i = 0; (rw [c, h]; rfl); simp [c])
  rw [← q]
  rcases e (v >>> (nI f &&& 31)) with h | h <;> rw [h] <;> decide
abbrev cPv (m : aI) (mj : aJ) (n g : Nat) (v : Int32) : Bool := (decide (m 44 57 = 0) && allB (cF m) n) && allB (cG m mj v) g
set_option maxRecDepth 100000 in
theorem m_X2_canPlanSource {T : List aT} {I : aI} {J : aJ} {R : aR} (hT : aPT T) (hR : aPR R) {m : aI} {g : Nat} {gq : Nat → Nat} (hG : CGn T I R m g gq) (hg : GW m g) (hY : CTy I m) {mj : aJ} (hV : CFo I m mj) {i a : Nat} (hi : i < g) (ha : a < 3) : MX2_canPlanSource 0 0 [.ref 33, .int (nI i), .int (nI a)] T I J R (aPure (some (.int (bI (cS m mj i a (I 8 3))))) T I J R) := by
  refine a_met (by decide +kernel) a_le (fun X hC hq => ?_)
  show AW X 0 0 0 [some (.ref 33), some (.int (nI i)), some (.int (nI a)), none, none] [] T I J R
  have hg4 := hg.g4
  have hty := hg.ty i (by omega)
  have hks := hg.ks i (by omega)
  refine aw_aload_n hC dX2_canPlanSource_0 rfl ?_
  refine aw_getR hC dX2_canPlanSource_1 aF_X2_28 rfl (tg_33 hT) (pr_33_3 hR) ?_
  refine aw_getR hC dX2_canPlanSource_4 aF_X2_130 rfl (tg_19 hT) (pr_19_1 hR) ?_
  refine aw_iload_n hC dX2_canPlanSource_7 rfl ?_
  refine aw_aaloadR_k (j := i) hC dX2_canPlanSource_8 (tg_21 hT) (nI_clamp (by omega)) (vp_in_nI (by omega) (by decide)) (hG.rf hi) ?_
  refine aw_astore_n (L2 := [some (.ref 33), some (.int (nI i)), some (.int (nI a)), some (.ref (gq i)), none]) hC dX2_canPlanSource_9 rfl (by decide) rfl ?_
  refine aw_aload_n hC dX2_canPlanSource_10 rfl ?_
  refine aw_getR hC dX2_canPlanSource_11 aF_X2_54 rfl (hG.tg hi) (hG.r3 hi) ?_
  refine aw_iload_n hC dX2_canPlanSource_14 rfl ?_
  refine aw_iaload_k (j := a) hC dX2_canPlanSource_15 (hG.t2 hi) (nI_clamp (by omega)) (vp_in_nI (by omega) (by decide)) ?_
  rw [(hG.sr hi ha)]
  rcases hg.so (3 * i + a) (by omega) with e5 | e5
  · rw [show m 65 (3 * i + a) = -1 from e5]
    refine aw_istore (L2 := [some (.ref 33), some (.int (nI i)), some (.int (nI a)), some (.ref (gq i)), some (.int (-1))]) hC dX2_canPlanSource_16 (by decide) rfl ?_
    refine aw_iload hC dX2_canPlanSource_18 rfl ?_
    refine aw_iconst (v := (-1)) hC dX2_canPlanSource_20 (by decide) ?_
    refine aw_icmp_ne (tgt := 26) hC dX2_canPlanSource_21 (by decide) (fun h => absurd rfl h) (fun _ => ?_)
    show AW X 0 0 24 [some (.ref 33), some (.int (nI i)), some (.int (nI a)), some (.ref (gq i)), some (.int (-1))] [] T I J R
    refine aw_iconst (v := 1) hC dX2_canPlanSource_24 (by decide) ?_
    exact aw_zreturn hC hq rfl (Or.inr rfl) dX2_canPlanSource_25 a_le a_le (aPure_i (congrArg bI (cS_0 e5)))
  · obtain ⟨s, hs⟩ : ∃ s, s = iN m 65 (3 * i + a) := ⟨_, rfl⟩
    rw [show m 65 (3 * i + a) = nI s from by rw [hs]; exact e5.1]
    have h22 : s < 22 := by rw [hs]; exact e5.2.1
    have hlow : 10 ≤ s → (s - 10) / 3 < i := fun q => by have := e5.2.2 (by rw [← hs]; exact q); rw [← hs] at this; omega
    have h1s : m 65 (3 * i + a) = nI s ∧ s < 22 := ⟨by rw [hs]; exact e5.1, h22⟩
    refine aw_istore (L2 := [some (.ref 33), some (.int (nI i)), some (.int (nI a)), some (.ref (gq i)), some (.int (nI s))]) hC dX2_canPlanSource_16 (by decide) rfl ?_
    refine aw_iload hC dX2_canPlanSource_18 rfl ?_
    refine aw_iconst (v := (-1)) hC dX2_canPlanSource_20 (by decide) ?_
    refine aw_icmp_ne (tgt := 26) hC dX2_canPlanSource_21 (by decide) (fun _ => ?_) (fun h => absurd h (nI_ne1 h22))
    show AW X 0 0 26 [some (.ref 33), some (.int (nI i)), some (.int (nI a)), some (.ref (gq i)), some (.int (nI s))] [] T I J R
    refine aw_iload hC dX2_canPlanSource_26 rfl ?_
    refine aw_bipush (v := 10) hC dX2_canPlanSource_28 (by decide) ?_
    refine aw_icmp_lt (tgt := 51) hC dX2_canPlanSource_30 (by decide) (fun h1 => ?_) (fun h1 => ?_)
    · show AW X 0 0 51 [some (.ref 33), some (.int (nI i)), some (.int (nI a)), some (.ref (gq i)), some (.int (nI s))] [] T I J R
      have h1n : s < 10 := (nI_ltI (a := s) (b := 10) (by omega) (by omega)).mp h1
      refine aw_aload_n hC dX2_canPlanSource_51 rfl ?_
      refine aw_getR hC dX2_canPlanSource_52 aF_X2_24 rfl (tg_33 hT) (pr_33_2 hR) ?_
      refine aw_getR hC dX2_canPlanSource_55 aF_X2_80 rfl (tg_8 hT) (pr_8_4 hR) ?_
      refine aw_iload hC dX2_canPlanSource_58 rfl ?_
      refine aw_iaload_k (j := s) hC dX2_canPlanSource_60 (tg_11 hT) (nI_clamp (by omega)) (vp_in_nI (by omega) (by decide)) ?_
      rw [(hV s (by omega))]
      refine aw_if_ge (tgt := 66) hC dX2_canPlanSource_61 (by decide) (fun h2 => ?_) (fun h2 => ?_)
      · show AW X 0 0 66 [some (.ref 33), some (.int (nI i)), some (.int (nI a)), some (.ref (gq i)), some (.int (nI s))] [] T I J R
        refine aw_aload_n hC dX2_canPlanSource_66 rfl ?_
        refine aw_getR hC dX2_canPlanSource_67 aF_X2_24 rfl (tg_33 hT) (pr_33_2 hR) ?_
        refine aw_iload hC dX2_canPlanSource_70 rfl ?_
        refine kX2_144 hC rfl (m_X10_isTainted (I := I) hT hR (f := s) (by omega)) dX2_canPlanSource_72 (tg_8 hT) rfl a_le a_le a_le a_le a_le rfl aPure_x (aPure_k ?_)
        show AW X 0 0 75 [some (.ref 33), some (.int (nI i)), some (.int (nI a)), some (.ref (gq i)), some (.int (nI s))] [.int (bI (bt (I 8 3) s))] T I J R
        refine aw_if_eq (tgt := 98) hC dX2_canPlanSource_75 (by decide) (fun h3 => ?_) (fun h3 => ?_)
        · show AW X 0 0 98 [some (.ref 33), some (.int (nI i)), some (.int (nI a)), some (.ref (gq i)), some (.int (nI s))] [] T I J R
          refine aw_iconst (v := 1) hC dX2_canPlanSource_98 (by decide) ?_
          refine aw_goto (tgt := 103) hC dX2_canPlanSource_99 (by decide) ?_
          exact aw_zreturn hC hq rfl (Or.inr rfl) dX2_canPlanSource_103 a_le a_le (aPure_i (congrArg bI (cS_a (b := true) hs h1s (by omega) (by rw [decide_eq_true (show 0 ≤ sVal m mj s by assumption)]; first | (rw [decide_eq_true ((and1_z (by omega)).mpr (by rw [bI_e0.mp (show bI (bt (I 8 3) s) = 0 by assumption)]; simp))]; rfl) | (rw [decide_eq_true (show m 58 (3 * iN m 62 i + a) &&& 4 ≠ 0 from bI_dn.mp (by assumption)), Bool.or_true]; rfl)))))
        · show AW X 0 0 78 [some (.ref 33), some (.int (nI i)), some (.int (nI a)), some (.ref (gq i)), some (.int (nI s))] [] T I J R
          refine aw_aload_n hC dX2_canPlanSource_78 rfl ?_
          refine aw_getR hC dX2_canPlanSource_79 aF_X2_28 rfl (tg_33 hT) (pr_33_3 hR) ?_
          refine aw_getR hC dX2_canPlanSource_82 aF_X2_146 rfl (tg_19 hT) (pr_19_0 hR) ?_
          refine aw_aload_n hC dX2_canPlanSource_85 rfl ?_
          refine aw_getI hC dX2_canPlanSource_86 aF_X2_150 rfl (hG.tg hi) ?_
          rw [((hG.ty hi).trans hty.1)]
          refine aw_aaloadR_k (j := (iN m 62 i)) hC dX2_canPlanSource_89 (tg_20 hT) (nI_clamp (by omega)) (vp_in_nI (by omega) (by decide)) (ty_rf hR hty.2) ?_
          refine aw_iload_n hC dX2_canPlanSource_90 rfl ?_
          refine aw_iconst (v := 4) hC dX2_canPlanSource_91 (by decide) ?_
          refine kX2_107 hC rfl (m_X9_is (I := I) hT hR hY (t := (iN m 62 i)) (a := a) (by omega) (by omega) (4 : Int32)) dX2_canPlanSource_92 (ty_tg hT (by omega)) rfl a_le a_le a_le a_le a_le rfl aPure_x (aPure_k ?_)
          show AW X 0 0 95 [some (.ref 33), some (.int (nI i)), some (.int (nI a)), some (.ref (gq i)), some (.int (nI s))] [.int (bI (decide (m 58 (3 * (iN m 62 i) + a) &&& (4 : Int32) ≠ 0)))] T I J R
          refine aw_if_eq (tgt := 102) hC dX2_canPlanSource_95 (by decide) (fun h4 => ?_) (fun h4 => ?_)
          · show AW X 0 0 102 [some (.ref 33), some (.int (nI i)), some (.int (nI a)), some (.ref (gq i)), some (.int (nI s))] [] T I J R
            refine aw_iconst (v := 0) hC dX2_canPlanSource_102 (by decide) ?_
            exact aw_zreturn hC hq rfl (Or.inl rfl) dX2_canPlanSource_103 a_le a_le (aPure_i (congrArg bI (cS_a (b := false) hs h1s (by omega) (by rw [decide_eq_true (show 0 ≤ sVal m mj s by assumption)]; rw [decide_eq_false (fun q => (and1_z (by omega)).mp q (bI_n0.mp (by assumption))), decide_eq_false (show ¬ m 58 (3 * iN m 62 i + a) &&& 4 ≠ 0 from bI_d0.mp (by assumption))]; rfl))))
          · show AW X 0 0 98 [some (.ref 33), some (.int (nI i)), some (.int (nI a)), some (.ref (gq i)), some (.int (nI s))] [] T I J R
            refine aw_iconst (v := 1) hC dX2_canPlanSource_98 (by decide) ?_
            refine aw_goto (tgt := 103) hC dX2_canPlanSource_99 (by decide) ?_
            exact aw_zreturn hC hq rfl (Or.inr rfl) dX2_canPlanSource_103 a_le a_le (aPure_i (congrArg bI (cS_a (b := true) hs h1s (by omega) (by rw [decide_eq_true (show 0 ≤ sVal m mj s by assumption)]; first | (rw [decide_eq_true ((and1_z (by omega)).mpr (by rw [bI_e0.mp (show bI (bt (I 8 3) s) = 0 by assumption)]; simp))]; rfl) | (rw [decide_eq_true (show m 58 (3 * iN m 62 i + a) &&& 4 ≠ 0 from bI_dn.mp (by assumption)), Bool.or_true]; rfl)))))
      · show AW X 0 0 64 [some (.ref 33), some (.int (nI i)), some (.int (nI a)), some (.ref (gq i)), some (.int (nI s))] [] T I J R
        refine aw_iconst (v := 0) hC dX2_canPlanSource_64 (by decide) ?_
        exact aw_zreturn hC hq rfl (Or.inl rfl) dX2_canPlanSource_65 a_le a_le (aPure_i (congrArg bI (cS_a (b := false) hs h1s (by omega) (by rw [decide_eq_false (show ¬ 0 ≤ sVal m mj s by assumption)]; rfl))))
    · show AW X 0 0 33 [some (.ref 33), some (.int (nI i)), some (.int (nI a)), some (.ref (gq i)), some (.int (nI s))] [] T I J R
      have h1n : ¬ s < 10 := fun q9 => h1 ((nI_ltI (a := s) (b := 10) (by omega) (by omega)).mpr q9)
      refine aw_aload_n hC dX2_canPlanSource_33 rfl ?_
      refine aw_getR hC dX2_canPlanSource_34 aF_X2_28 rfl (tg_33 hT) (pr_33_3 hR) ?_
      refine aw_getR hC dX2_canPlanSource_37 aF_X2_130 rfl (tg_19 hT) (pr_19_1 hR) ?_
      refine aw_iload hC dX2_canPlanSource_40 rfl ?_
      refine kX2_62 hC rfl (m_X4_generatorOfSource (nI s)) dX2_canPlanSource_42 rfl a_le a_le a_le a_le a_le rfl aPure_x (aPure_k ?_)
      show AW X 0 0 45 [some (.ref 33), some (.int (nI i)), some (.int (nI a)), some (.ref (gq i)), some (.int (nI s))] [.int ((nI s - 10) / 3), .ref 21] T I J R
      rw [so_g s (by omega) (by omega)]
      have hlw := hlow (by omega)
      refine aw_aaloadR_k (j := ((s - 10) / 3)) hC dX2_canPlanSource_45 (tg_21 hT) (nI_clamp (by omega)) (vp_in_nI (by omega) (by decide)) (hG.rf (by omega)) ?_
      refine aw_aload_n hC dX2_canPlanSource_46 rfl ?_
      refine kX2_140 hC rfl (m_X5_hasKeysOf (I := I) hT hR hG hg (h := (s - 10) / 3) (i := i) (by omega) (by omega)) dX2_canPlanSource_47 (hG.tg (by omega)) rfl a_le a_le a_le a_le a_le rfl aPure_x (aPure_k ?_)
      show AW X 0 0 50 [some (.ref 33), some (.int (nI i)), some (.int (nI a)), some (.ref (gq i)), some (.int (nI s))] [.int (bI (allB (fun k => hkB m ((s - 10) / 3) (m 64 (8 * i + k))) (iN m 63 i)))] T I J R
      exact aw_zreturn hC hq rfl (bI_01 _) dX2_canPlanSource_50 a_le a_le (aPure_i (congrArg bI (cS_b hs h1s (by omega) rfl)))
theorem cG_all {m : aI} {mj : aJ} {v : Int32} {i : Nat} (h : ∀ k, k < 3 → iN m 63 i = 0 ∨ cS m mj i k v = true) : cG m mj v i = true := by
  unfold cG
  by_cases c : iN m 63 i = 0
  · rw [if_pos c]
  · rw [if_neg c]; exact allB_iff.mpr (fun k hk => (h k hk).resolve_left c)
theorem cG_no {m : aI} {mj : aJ} {v : Int32} {i k : Nat} (hk : k < 3) (h0 : iN m 63 i ≠ 0) (h : cS m mj i k v = false) : cG m mj v i = false := by
  unfold cG; rw [if_neg h0]; exact allB_fl hk h
set_option maxRecDepth 100000 in
theorem m_X2_canPlan {T : List aT} {I : aI} {J : aJ} {R : aR} (hT : aPT T) (hR : aPR R) {m : aI} {g : Nat} {gq : Nat → Nat} (hG : CGn T I R m g gq) (hg : GW m g) (hY : CTy I m) {mj : aJ} (hV : CFo I m mj) {n : Nat} {sq : Nat → Nat} (hSt : CSt T I R m n sq) (hS : SW m n) (hFl : CFl I m n sq) (h2c : I 8 2 = m 44 57) : MX2_canPlan 0 0 [.ref 33] T I J R (aPure (some (.int (bI (cPv m mj n g (I 8 3))))) T I J R) := by
  refine a_met (by decide +kernel) a_le (fun X hC hq => ?_)
  show AW X 0 0 0 [some (.ref 33), none, none] [] T I J R
  have hg4 := hg.g4
  refine aw_aload_n hC dX2_canPlan_0 rfl ?_
  refine aw_getR hC dX2_canPlan_1 aF_X2_24 rfl (tg_33 hT) (pr_33_2 hR) ?_
  refine aw_getI hC dX2_canPlan_4 aF_X2_114 rfl (tg_8 hT) ?_
  rw [h2c]
  refine aw_if_ne (tgt := 23) hC dX2_canPlan_7 (by decide) (fun h1 => ?_) (fun h1 => ?_)
  · show AW X 0 0 23 [some (.ref 33), none, none] [] T I J R
    refine aw_iconst (v := 0) hC dX2_canPlan_23 (by decide) ?_
    exact aw_zreturn hC hq rfl (Or.inl rfl) dX2_canPlan_24 a_le a_le (aPure_i (bI_nb (by unfold cPv; first | (rw [decide_eq_false (show ¬ m 44 57 = 0 by assumption)]; rfl) | (rw [show allB (cF m) n = false from by have h9 := bI_n0.mp (show ¬ bI (!allB (cF m) n) = 0 by assumption); simpa using h9]; simp))))
  · show AW X 0 0 10 [some (.ref 33), none, none] [] T I J R
    refine aw_aload_n hC dX2_canPlan_10 rfl ?_
    refine aw_getR hC dX2_canPlan_11 aF_X2_24 rfl (tg_33 hT) (pr_33_2 hR) ?_
    refine aw_getR hC dX2_canPlan_14 aF_X2_117 rfl (tg_8 hT) (pr_8_0 hR) ?_
    refine kX2_121 hC rfl (m_X1_hasFault (I := I) hT hR hSt hS hFl) dX2_canPlan_17 (tg_1 hT) rfl a_le a_le a_le a_le a_le rfl aPure_x (aPure_k ?_)
    show AW X 0 0 20 [some (.ref 33), none, none] [.int (bI (!allB (cF m) n))] T I J R
    refine aw_if_eq (tgt := 25) hC dX2_canPlan_20 (by decide) (fun h2 => ?_) (fun h2 => ?_)
    · show AW X 0 0 25 [some (.ref 33), none, none] [] T I J R
      refine aw_iconst (v := 0) hC dX2_canPlan_25 (by decide) ?_
      refine aw_istore_n (L2 := [some (.ref 33), some (.int 0), none]) hC dX2_canPlan_26 rfl (by decide) rfl ?_
      have h57 : m 44 57 = 0 := by assumption
      have hcf : allB (cF m) n = true := by have h9 := bI_e0.mp (show bI (!allB (cF m) n) = 0 by assumption); simpa using h9
      have loopG : ∀ i, i ≤ g → (∀ j, j < i → cG m mj (I 8 3) j = true) → AW X 0 0 27 [some (.ref 33), some (.int (nI i)), none] [] T I J R := by
        refine a_down g (fun i hk_i ihG => ?_)
        intro hall
        refine aw_iload_n hC dX2_canPlan_27 rfl ?_
        refine aw_aload_n hC dX2_canPlan_28 rfl ?_
        refine aw_getR hC dX2_canPlan_29 aF_X2_28 rfl (tg_33 hT) (pr_33_3 hR) ?_
        refine aw_getI hC dX2_canPlan_32 aF_X2_127 rfl (tg_19 hT) ?_
        rw [hG.cnt]
        refine aw_icmp_ge (tgt := 83) hC dX2_canPlan_35 (by decide) (fun h3 => ?_) (fun h3 => ?_)
        · show AW X 0 0 83 [some (.ref 33), some (.int (nI i)), none] [] T I J R
          have h3n : g ≤ i := (nI_leI (a := g) (b := i) (by omega) (by omega)).mp h3
          refine aw_iconst (v := 1) hC dX2_canPlan_83 (by decide) ?_
          exact aw_zreturn hC hq rfl (Or.inr rfl) dX2_canPlan_84 a_le a_le (aPure_i (bI_yb (by unfold cPv; rw [decide_eq_true h57, hcf, allB_iff.mpr (fun j hj => hall j (by omega))]; rfl)))
        · show AW X 0 0 38 [some (.ref 33), some (.int (nI i)), none] [] T I J R
          have h3n : ¬ g ≤ i := fun q9 => h3 ((nI_leI (a := g) (b := i) (by omega) (by omega)).mpr q9)
          refine aw_iconst (v := 0) hC dX2_canPlan_38 (by decide) ?_
          refine aw_istore_n (L2 := [some (.ref 33), some (.int (nI i)), some (.int 0)]) hC dX2_canPlan_39 rfl (by decide) rfl ?_
          have hks := hg.ks i (by omega)
          have loopK : ∀ k, k ≤ 3 → (∀ j, j < k → iN m 63 i = 0 ∨ cS m mj i j (I 8 3) = true) → AW X 0 0 40 [some (.ref 33), some (.int (nI i)), some (.int (nI k))] [] T I J R := by
            refine a_down 3 (fun k hk_k ihK => ?_)
            intro hk
            refine aw_iload_n hC dX2_canPlan_40 rfl ?_
            refine aw_iconst (v := 3) hC dX2_canPlan_41 (by decide) ?_
            refine aw_icmp_ge (tgt := 77) hC dX2_canPlan_42 (by decide) (fun h4 => ?_) (fun h4 => ?_)
            · show AW X 0 0 77 [some (.ref 33), some (.int (nI i)), some (.int (nI k))] [] T I J R
              have h4n : 3 ≤ k := (nI_leI (a := 3) (b := k) (by omega) (by omega)).mp h4
              refine aw_iinc (v := nI (i + 1)) (L2 := [some (.ref 33), some (.int (nI (i + 1))), some (.int (nI k))]) hC dX2_canPlan_77 rfl (nI_inc _) (by decide) rfl ?_
              refine aw_goto (tgt := 27) hC dX2_canPlan_80 (by decide) ?_
              refine aw_forget 2 (L2 := [some (.ref 33), some (.int (nI (i + 1))), none]) rfl ?_
              exact ihG (by omega) (fun j hj => by by_cases e : j = i; (rw [e]; exact cG_all (fun q hq => hk q (by omega))); exact hall j (by omega))
            · show AW X 0 0 45 [some (.ref 33), some (.int (nI i)), some (.int (nI k))] [] T I J R
              have h4n : ¬ 3 ≤ k := fun q9 => h4 ((nI_leI (a := 3) (b := k) (by omega) (by omega)).mpr q9)
              refine aw_aload_n hC dX2_canPlan_45 rfl ?_
              refine aw_getR hC dX2_canPlan_46 aF_X2_28 rfl (tg_33 hT) (pr_33_3 hR) ?_
              refine aw_getR hC dX2_canPlan_49 aF_X2_130 rfl (tg_19 hT) (pr_19_1 hR) ?_
              refine aw_iload_n hC dX2_canPlan_52 rfl ?_
              refine aw_aaloadR_k (j := i) hC dX2_canPlan_53 (tg_21 hT) (nI_clamp (by omega)) (vp_in_nI (by omega) (by decide)) (hG.rf (by omega)) ?_
              refine aw_getI hC dX2_canPlan_54 aF_X2_134 rfl (hG.tg (by omega)) ?_
              rw [((hG.kc (by omega)).trans hks.1)]
              refine aw_if_le (tgt := 71) hC dX2_canPlan_57 (by decide) (fun h5 => ?_) (fun h5 => ?_)
              · show AW X 0 0 71 [some (.ref 33), some (.int (nI i)), some (.int (nI k))] [] T I J R
                have h5n : (iN m 63 i) ≤ 0 := (nI_leI (a := (iN m 63 i)) (b := 0) (by omega) (by omega)).mp h5
                refine aw_iinc (v := nI (k + 1)) (L2 := [some (.ref 33), some (.int (nI i)), some (.int (nI (k + 1)))]) hC dX2_canPlan_71 rfl (nI_inc _) (by decide) rfl ?_
                refine aw_goto (tgt := 40) hC dX2_canPlan_74 (by decide) ?_
                exact ihK (by omega) (fun j hj => by by_cases e : j = k; (rw [e]; first | exact Or.inr (bI_n0.mp (by assumption)) | exact Or.inl (by omega)); exact hk j (by omega))
              · show AW X 0 0 60 [some (.ref 33), some (.int (nI i)), some (.int (nI k))] [] T I J R
                have h5n : ¬ (iN m 63 i) ≤ 0 := fun q9 => h5 ((nI_leI (a := (iN m 63 i)) (b := 0) (by omega) (by omega)).mpr q9)
                refine aw_aload_n hC dX2_canPlan_60 rfl ?_
                refine aw_iload_n hC dX2_canPlan_61 rfl ?_
                refine aw_iload_n hC dX2_canPlan_62 rfl ?_
                refine kX2_137 hC rfl (m_X2_canPlanSource (I := I) hT hR hG hg hY hV (i := i) (a := k) (by omega) (by omega)) dX2_canPlan_63 (tg_33 hT) rfl a_le a_le a_le a_le a_le rfl aPure_x (aPure_k ?_)
                show AW X 0 0 66 [some (.ref 33), some (.int (nI i)), some (.int (nI k))] [.int (bI (cS m mj i k (I 8 3)))] T I J R
                refine aw_if_ne (tgt := 71) hC dX2_canPlan_66 (by decide) (fun h6 => ?_) (fun h6 => ?_)
                · show AW X 0 0 71 [some (.ref 33), some (.int (nI i)), some (.int (nI k))] [] T I J R
                  refine aw_iinc (v := nI (k + 1)) (L2 := [some (.ref 33), some (.int (nI i)), some (.int (nI (k + 1)))]) hC dX2_canPlan_71 rfl (nI_inc _) (by decide) rfl ?_
                  refine aw_goto (tgt := 40) hC dX2_canPlan_74 (by decide) ?_
                  exact ihK (by omega) (fun j hj => by by_cases e : j = k; (rw [e]; first | exact Or.inr (bI_n0.mp (by assumption)) | exact Or.inl (by omega)); exact hk j (by omega))
                · show AW X 0 0 69 [some (.ref 33), some (.int (nI i)), some (.int (nI k))] [] T I J R
                  refine aw_iconst (v := 0) hC dX2_canPlan_69 (by decide) ?_
                  exact aw_zreturn hC hq rfl (Or.inl rfl) dX2_canPlan_70 a_le a_le (aPure_i (bI_nb (by unfold cPv; rw [allB_fl (p := cG m mj (I 8 3)) (k := i) (by omega) (cG_no (k := k) (by omega) (by omega) (bI_e0.mp (by assumption))), Bool.and_false])))
          exact loopK 0 (Nat.zero_le _) (fun j hj => absurd hj (by omega))
      exact loopG 0 (Nat.zero_le _) (fun j hj => absurd hj (by omega))
    · show AW X 0 0 23 [some (.ref 33), none, none] [] T I J R
      refine aw_iconst (v := 0) hC dX2_canPlan_23 (by decide) ?_
      exact aw_zreturn hC hq rfl (Or.inl rfl) dX2_canPlan_24 a_le a_le (aPure_i (bI_nb (by unfold cPv; first | (rw [decide_eq_false (show ¬ m 44 57 = 0 by assumption)]; rfl) | (rw [show allB (cF m) n = false from by have h9 := bI_n0.mp (show ¬ bI (!allB (cF m) n) = 0 by assumption); simpa using h9]; simp))))
/-- the list of the class holds A -/
def CLI (I : aI) (A : List Nat) : Prop := I 33 5 = nI A.length ∧ ∀ k (h : k < A.length), I 35 k = nI A[k]
theorem CLI.put {I : aI} {A : List Nat} {a l : Nat} (h : CLI I A) (hl : l = A.length) : CLI (a_u (a_u I 35 l (nI a)) 33 5 (nI (l + 1))) (A ++ [a]) := by
  subst hl
  refine ⟨by rw [a_u_self, List.length_append]; rfl, fun k hk => ?_⟩
  rw [a_u_row (by decide)]
  by_cases e : k = A.length
  · subst e; rw [a_u_self, List.getElem_concat_length rfl]
  · rw [a_u_ne (fun q => e q.2), List.getElem_append_left (by rw [List.length_append] at hk; simp at hk; omega)]; exact h.2 k _
abbrev ADF (I I2 : aI) : Prop := (∀ o, o ≠ 33 → o ≠ 35 → I2 o = I o) ∧ ∀ k, k ≠ 5 → I2 33 k = I 33 k
theorem ADF.put {I I2 : aI} {l : Nat} {a b : Int32} (h : ADF I I2) : ADF I (a_u (a_u I2 35 l a) 33 5 b) := ⟨fun o h1 h2 => by rw [a_u_row h1, a_u_row h2]; exact h.1 o h1 h2, fun k hk => by rw [a_u_ne (fun q => hk q.2), a_u_row (by decide)]; exact h.2 k hk⟩
set_option maxRecDepth 100000 in
theorem m_X2_addAction {T : List aT} {I : aI} {J : aJ} {R : aR} (hT : aPT T) (hR : aPR R) {l a x : Nat} {w : Int32} (hl : I 33 5 = nI l) (hl8 : l < 128) (ha : 100 * w + nI x = nI a) : MX2_addAction 0 0 [.ref 33, .int w, .int (nI x)] T I J R (aPure none T (a_u (a_u I 35 l (nI a)) 33 5 (nI (l + 1))) J R) := by
  refine a_met (by decide +kernel) a_le (fun X hC hq => ?_)
  show AW X 0 0 0 [some (.ref 33), some (.int w), some (.int (nI x))] [] T I J R
  refine aw_aload_n hC dX2_addAction_0 rfl ?_
  refine aw_getI hC dX2_addAction_1 aF_X2_153 rfl (tg_33 hT) ?_
  rw [hl]
  refine aw_sipush (v := 128) hC dX2_addAction_4 (by decide) ?_
  refine aw_icmp_ge (tgt := 35) hC dX2_addAction_7 (by decide) (fun h1 => ?_) (fun h1 => ?_)
  · show AW X 0 0 35 [some (.ref 33), some (.int w), some (.int (nI x))] [] T I J R
    have h1n : 128 ≤ l := (nI_leI (a := 128) (b := l) (by omega) (by omega)).mp h1
    exact aw_return hC hq rfl dX2_addAction_35 a_le a_le (by first | (exfalso; omega) | exact aPure_v)
  · show AW X 0 0 10 [some (.ref 33), some (.int w), some (.int (nI x))] [] T I J R
    have h1n : ¬ 128 ≤ l := fun q9 => h1 ((nI_leI (a := 128) (b := l) (by omega) (by omega)).mpr q9)
    refine aw_aload_n hC dX2_addAction_10 rfl ?_
    refine aw_getR hC dX2_addAction_11 aF_X2_15 rfl (tg_33 hT) (pr_33_1 hR) ?_
    refine aw_aload_n hC dX2_addAction_14 rfl ?_
    refine aw_getI hC dX2_addAction_15 aF_X2_153 rfl (tg_33 hT) ?_
    rw [hl]
    refine aw_bipush (v := 100) hC dX2_addAction_18 (by decide) ?_
    refine aw_iload_n hC dX2_addAction_20 rfl ?_
    refine aw_imul hC dX2_addAction_21 ?_
    refine aw_iload_n hC dX2_addAction_22 rfl ?_
    refine aw_iadd hC dX2_addAction_23 ?_
    rw [ha]
    refine aw_iastore_k (j := l) hC dX2_addAction_24 (tg_35 hT) (nI_clamp (by omega)) (vp_in_nI (by omega) (by decide)) ?_
    refine aw_aload_n hC dX2_addAction_25 rfl ?_
    refine aw_dup hC dX2_addAction_26 rfl ?_
    refine aw_getI hC dX2_addAction_27 aF_X2_153 rfl (tg_33 hT) ?_
    rw [a_u_ne (f := I) (o := 35) (k := l) (a := 33) (b := 5) (v := nI a) (fun q => absurd q.1 (by decide))]
    rw [hl]
    refine aw_iconst (v := 1) hC dX2_addAction_30 (by decide) ?_
    refine aw_iadd hC dX2_addAction_31 ?_
    rw [show (nI l) + 1 = nI (l + 1) from nI_add l 1]
    refine aw_putI hC dX2_addAction_32 aF_X2_153 rfl rfl (tg_33 hT) ?_
    exact aw_return hC hq rfl dX2_addAction_35 a_le a_le (by first | (exfalso; omega) | exact aPure_v)
set_option maxRecDepth 100000 in
theorem m_X2_addMaking {T : List aT} {I : aI} {J : aJ} {R : aR} (hT : aPT T) (hR : aPR R) {m : aI} {g : Nat} {gq : Nat → Nat} (hG : CGn T I R m g gq) (hg : GW m g) (hY : CTy I m) {x : Nat} (hx : x < 16 * g) (hNx : I 36 x = m 91 x) (h91 : 0 ≤ m 91 x ∧ m 91 x ≤ 4) {A : List Nat} (hc : CLI I A) (hl : A.length + 2 ≤ 128) : MX2_addMaking 0 0 [.ref 33, .int (nI x)] T I J R (aRelV (fun v I2 J2 => v = none ∧ J2 = J ∧ ADF I I2 ∧ CLI I2 (A ++ upL m x)) T R) := by
  refine a_met (by decide +kernel) a_le (fun X hC hq => ?_)
  show AW X 0 0 0 [some (.ref 33), some (.int (nI x))] [] T I J R
  have hg4 := hg.g4
  have hty := hg.ty (x / 16) (by omega)
  rcases (show m 91 x = 0 ∨ m 91 x = 1 ∨ m 91 x = 2 ∨ m 91 x = 3 ∨ m 91 x = 4 by simp only [i_le, i_eq, Int32.reduceToInt] at *; omega) with hn | hn | hn | hn | hn
  · show AW X 0 0 0 [some (.ref 33), some (.int (nI x))] [] T I J R
    refine aw_aload_n hC dX2_addMaking_0 rfl ?_
    refine aw_getR hC dX2_addMaking_1 aF_X2_18 rfl (tg_33 hT) (pr_33_4 hR) ?_
    refine aw_iload_n hC dX2_addMaking_4 rfl ?_
    refine aw_iaload_k (j := x) hC dX2_addMaking_5 (tg_36 hT) (nI_clamp (by omega)) (vp_in_nI (by omega) (by decide)) ?_
    rw [(hNx.trans hn)]
    refine aw_iconst (v := 1) hC dX2_addMaking_6 (by decide) ?_
    refine aw_icmp_ne (tgt := 16) hC dX2_addMaking_7 (by decide) (fun _ => ?_) (fun h1 => absurd h1 (by decide))
    show AW X 0 0 16 [some (.ref 33), some (.int (nI x))] [] T I J R
    refine aw_aload_n hC dX2_addMaking_16 rfl ?_
    refine aw_getR hC dX2_addMaking_17 aF_X2_18 rfl (tg_33 hT) (pr_33_4 hR) ?_
    refine aw_iload_n hC dX2_addMaking_20 rfl ?_
    refine aw_iaload_k (j := x) hC dX2_addMaking_21 (tg_36 hT) (nI_clamp (by omega)) (vp_in_nI (by omega) (by decide)) ?_
    rw [(hNx.trans hn)]
    refine aw_iconst (v := 2) hC dX2_addMaking_22 (by decide) ?_
    refine aw_icmp_ne (tgt := 32) hC dX2_addMaking_23 (by decide) (fun _ => ?_) (fun h2 => absurd h2 (by decide))
    show AW X 0 0 32 [some (.ref 33), some (.int (nI x))] [] T I J R
    refine aw_aload_n hC dX2_addMaking_32 rfl ?_
    refine aw_getR hC dX2_addMaking_33 aF_X2_18 rfl (tg_33 hT) (pr_33_4 hR) ?_
    refine aw_iload_n hC dX2_addMaking_36 rfl ?_
    refine aw_iaload_k (j := x) hC dX2_addMaking_37 (tg_36 hT) (nI_clamp (by omega)) (vp_in_nI (by omega) (by decide)) ?_
    rw [(hNx.trans hn)]
    refine aw_iconst (v := 3) hC dX2_addMaking_38 (by decide) ?_
    refine aw_icmp_ne (tgt := 68) hC dX2_addMaking_39 (by decide) (fun _ => ?_) (fun h3 => absurd h3 (by decide))
    show AW X 0 0 68 [some (.ref 33), some (.int (nI x))] [] T I J R
    exact aw_return hC hq rfl dX2_addMaking_68 a_le a_le ⟨_, rfl, rfl, rfl, rfl, rfl, (show ADF I I from ⟨fun _ _ _ => rfl, fun _ _ => rfl⟩), by have hz9 := hc; simpa [upL, hn, List.append_assoc] using hz9⟩
  · show AW X 0 0 0 [some (.ref 33), some (.int (nI x))] [] T I J R
    refine aw_aload_n hC dX2_addMaking_0 rfl ?_
    refine aw_getR hC dX2_addMaking_1 aF_X2_18 rfl (tg_33 hT) (pr_33_4 hR) ?_
    refine aw_iload_n hC dX2_addMaking_4 rfl ?_
    refine aw_iaload_k (j := x) hC dX2_addMaking_5 (tg_36 hT) (nI_clamp (by omega)) (vp_in_nI (by omega) (by decide)) ?_
    rw [(hNx.trans hn)]
    refine aw_iconst (v := 1) hC dX2_addMaking_6 (by decide) ?_
    refine aw_icmp_ne (tgt := 16) hC dX2_addMaking_7 (by decide) (fun h4 => absurd h4 (by decide)) (fun _ => ?_)
    show AW X 0 0 10 [some (.ref 33), some (.int (nI x))] [] T I J R
    refine aw_aload_n hC dX2_addMaking_10 rfl ?_
    refine aw_iconst (v := 1) hC dX2_addMaking_11 (by decide) ?_
    refine aw_iload_n hC dX2_addMaking_12 rfl ?_
    refine kX2_168 hC rfl (m_X2_addAction (I := I) hT hR (l := A.length) (a := (100 + x)) (x := x) (w := 1) (hc.1) (by omega) (by rw [show (1 : Int32) = nI 1 from rfl, show (100 : Int32) = nI 100 from rfl, pk_mul, nI_add])) dX2_addMaking_13 (tg_33 hT) rfl a_le a_le a_le a_le a_le rfl aPure_x (aPure_k ?_)
    show AW X 0 0 16 [some (.ref 33), some (.int (nI x))] [] T (a_u (a_u I 35 A.length (nI (100 + x))) 33 5 (nI (A.length + 1))) J R
    refine aw_aload_n hC dX2_addMaking_16 rfl ?_
    refine aw_getR hC dX2_addMaking_17 aF_X2_18 rfl (tg_33 hT) (pr_33_4 hR) ?_
    refine aw_iload_n hC dX2_addMaking_20 rfl ?_
    refine aw_iaload_k (j := x) hC dX2_addMaking_21 (tg_36 hT) (nI_clamp (by omega)) (vp_in_nI (by omega) (by decide)) ?_
    rw [show (a_u (a_u I 35 A.length (nI (100 + x))) 33 5 (nI (A.length + 1))) 36 x = I 36 x from by rw [((show ADF I I from ⟨fun _ _ _ => rfl, fun _ _ => rfl⟩).put).1 36 (by decide) (by decide)]]
    rw [(hNx.trans hn)]
    refine aw_iconst (v := 2) hC dX2_addMaking_22 (by decide) ?_
    refine aw_icmp_ne (tgt := 32) hC dX2_addMaking_23 (by decide) (fun _ => ?_) (fun h5 => absurd h5 (by decide))
    show AW X 0 0 32 [some (.ref 33), some (.int (nI x))] [] T (a_u (a_u I 35 A.length (nI (100 + x))) 33 5 (nI (A.length + 1))) J R
    refine aw_aload_n hC dX2_addMaking_32 rfl ?_
    refine aw_getR hC dX2_addMaking_33 aF_X2_18 rfl (tg_33 hT) (pr_33_4 hR) ?_
    refine aw_iload_n hC dX2_addMaking_36 rfl ?_
    refine aw_iaload_k (j := x) hC dX2_addMaking_37 (tg_36 hT) (nI_clamp (by omega)) (vp_in_nI (by omega) (by decide)) ?_
    rw [show (a_u (a_u I 35 A.length (nI (100 + x))) 33 5 (nI (A.length + 1))) 36 x = I 36 x from by rw [((show ADF I I from ⟨fun _ _ _ => rfl, fun _ _ => rfl⟩).put).1 36 (by decide) (by decide)]]
    rw [(hNx.trans hn)]
    refine aw_iconst (v := 3) hC dX2_addMaking_38 (by decide) ?_
    refine aw_icmp_ne (tgt := 68) hC dX2_addMaking_39 (by decide) (fun _ => ?_) (fun h6 => absurd h6 (by decide))
    show AW X 0 0 68 [some (.ref 33), some (.int (nI x))] [] T (a_u (a_u I 35 A.length (nI (100 + x))) 33 5 (nI (A.length + 1))) J R
    exact aw_return hC hq rfl dX2_addMaking_68 a_le a_le ⟨_, rfl, rfl, rfl, rfl, rfl, ((show ADF I I from ⟨fun _ _ _ => rfl, fun _ _ => rfl⟩).put), by have hz9 := (hc.put (a := (100 + x)) (l := A.length) rfl); simpa [upL, hn, List.append_assoc] using hz9⟩
  · show AW X 0 0 0 [some (.ref 33), some (.int (nI x))] [] T I J R
    refine aw_aload_n hC dX2_addMaking_0 rfl ?_
    refine aw_getR hC dX2_addMaking_1 aF_X2_18 rfl (tg_33 hT) (pr_33_4 hR) ?_
    refine aw_iload_n hC dX2_addMaking_4 rfl ?_
    refine aw_iaload_k (j := x) hC dX2_addMaking_5 (tg_36 hT) (nI_clamp (by omega)) (vp_in_nI (by omega) (by decide)) ?_
    rw [(hNx.trans hn)]
    refine aw_iconst (v := 1) hC dX2_addMaking_6 (by decide) ?_
    refine aw_icmp_ne (tgt := 16) hC dX2_addMaking_7 (by decide) (fun _ => ?_) (fun h7 => absurd h7 (by decide))
    show AW X 0 0 16 [some (.ref 33), some (.int (nI x))] [] T I J R
    refine aw_aload_n hC dX2_addMaking_16 rfl ?_
    refine aw_getR hC dX2_addMaking_17 aF_X2_18 rfl (tg_33 hT) (pr_33_4 hR) ?_
    refine aw_iload_n hC dX2_addMaking_20 rfl ?_
    refine aw_iaload_k (j := x) hC dX2_addMaking_21 (tg_36 hT) (nI_clamp (by omega)) (vp_in_nI (by omega) (by decide)) ?_
    rw [(hNx.trans hn)]
    refine aw_iconst (v := 2) hC dX2_addMaking_22 (by decide) ?_
    refine aw_icmp_ne (tgt := 32) hC dX2_addMaking_23 (by decide) (fun h8 => absurd h8 (by decide)) (fun _ => ?_)
    show AW X 0 0 26 [some (.ref 33), some (.int (nI x))] [] T I J R
    refine aw_aload_n hC dX2_addMaking_26 rfl ?_
    refine aw_iconst (v := 2) hC dX2_addMaking_27 (by decide) ?_
    refine aw_iload_n hC dX2_addMaking_28 rfl ?_
    refine kX2_168 hC rfl (m_X2_addAction (I := I) hT hR (l := A.length) (a := (200 + x)) (x := x) (w := 2) (hc.1) (by omega) (by rw [show (2 : Int32) = nI 2 from rfl, show (100 : Int32) = nI 100 from rfl, pk_mul, nI_add])) dX2_addMaking_29 (tg_33 hT) rfl a_le a_le a_le a_le a_le rfl aPure_x (aPure_k ?_)
    show AW X 0 0 32 [some (.ref 33), some (.int (nI x))] [] T (a_u (a_u I 35 A.length (nI (200 + x))) 33 5 (nI (A.length + 1))) J R
    refine aw_aload_n hC dX2_addMaking_32 rfl ?_
    refine aw_getR hC dX2_addMaking_33 aF_X2_18 rfl (tg_33 hT) (pr_33_4 hR) ?_
    refine aw_iload_n hC dX2_addMaking_36 rfl ?_
    refine aw_iaload_k (j := x) hC dX2_addMaking_37 (tg_36 hT) (nI_clamp (by omega)) (vp_in_nI (by omega) (by decide)) ?_
    rw [show (a_u (a_u I 35 A.length (nI (200 + x))) 33 5 (nI (A.length + 1))) 36 x = I 36 x from by rw [((show ADF I I from ⟨fun _ _ _ => rfl, fun _ _ => rfl⟩).put).1 36 (by decide) (by decide)]]
    rw [(hNx.trans hn)]
    refine aw_iconst (v := 3) hC dX2_addMaking_38 (by decide) ?_
    refine aw_icmp_ne (tgt := 68) hC dX2_addMaking_39 (by decide) (fun _ => ?_) (fun h9 => absurd h9 (by decide))
    show AW X 0 0 68 [some (.ref 33), some (.int (nI x))] [] T (a_u (a_u I 35 A.length (nI (200 + x))) 33 5 (nI (A.length + 1))) J R
    exact aw_return hC hq rfl dX2_addMaking_68 a_le a_le ⟨_, rfl, rfl, rfl, rfl, rfl, ((show ADF I I from ⟨fun _ _ _ => rfl, fun _ _ => rfl⟩).put), by have hz9 := (hc.put (a := (200 + x)) (l := A.length) rfl); simpa [upL, hn, List.append_assoc] using hz9⟩
  · show AW X 0 0 0 [some (.ref 33), some (.int (nI x))] [] T I J R
    refine aw_aload_n hC dX2_addMaking_0 rfl ?_
    refine aw_getR hC dX2_addMaking_1 aF_X2_18 rfl (tg_33 hT) (pr_33_4 hR) ?_
    refine aw_iload_n hC dX2_addMaking_4 rfl ?_
    refine aw_iaload_k (j := x) hC dX2_addMaking_5 (tg_36 hT) (nI_clamp (by omega)) (vp_in_nI (by omega) (by decide)) ?_
    rw [(hNx.trans hn)]
    refine aw_iconst (v := 1) hC dX2_addMaking_6 (by decide) ?_
    refine aw_icmp_ne (tgt := 16) hC dX2_addMaking_7 (by decide) (fun _ => ?_) (fun h10 => absurd h10 (by decide))
    show AW X 0 0 16 [some (.ref 33), some (.int (nI x))] [] T I J R
    refine aw_aload_n hC dX2_addMaking_16 rfl ?_
    refine aw_getR hC dX2_addMaking_17 aF_X2_18 rfl (tg_33 hT) (pr_33_4 hR) ?_
    refine aw_iload_n hC dX2_addMaking_20 rfl ?_
    refine aw_iaload_k (j := x) hC dX2_addMaking_21 (tg_36 hT) (nI_clamp (by omega)) (vp_in_nI (by omega) (by decide)) ?_
    rw [(hNx.trans hn)]
    refine aw_iconst (v := 2) hC dX2_addMaking_22 (by decide) ?_
    refine aw_icmp_ne (tgt := 32) hC dX2_addMaking_23 (by decide) (fun _ => ?_) (fun h11 => absurd h11 (by decide))
    show AW X 0 0 32 [some (.ref 33), some (.int (nI x))] [] T I J R
    refine aw_aload_n hC dX2_addMaking_32 rfl ?_
    refine aw_getR hC dX2_addMaking_33 aF_X2_18 rfl (tg_33 hT) (pr_33_4 hR) ?_
    refine aw_iload_n hC dX2_addMaking_36 rfl ?_
    refine aw_iaload_k (j := x) hC dX2_addMaking_37 (tg_36 hT) (nI_clamp (by omega)) (vp_in_nI (by omega) (by decide)) ?_
    rw [(hNx.trans hn)]
    refine aw_iconst (v := 3) hC dX2_addMaking_38 (by decide) ?_
    refine aw_icmp_ne (tgt := 68) hC dX2_addMaking_39 (by decide) (fun h12 => absurd h12 (by decide)) (fun _ => ?_)
    show AW X 0 0 42 [some (.ref 33), some (.int (nI x))] [] T I J R
    refine aw_aload_n hC dX2_addMaking_42 rfl ?_
    refine aw_getR hC dX2_addMaking_43 aF_X2_28 rfl (tg_33 hT) (pr_33_3 hR) ?_
    refine aw_iload_n hC dX2_addMaking_46 rfl ?_
    refine kX2_85 hC rfl (m_X4_typeOf (I := I) hT hR hG hg (x := x) (by omega)) dX2_addMaking_47 (tg_19 hT) rfl a_le a_le a_le a_le a_le rfl aPure_x (aPure_k ?_)
    show AW X 0 0 50 [some (.ref 33), some (.int (nI x))] [.ref (27 + 2 * (iN m 62 (x / 16)))] T I J R
    refine aw_getI hC dX2_addMaking_50 aF_X2_172 rfl (ty_tg hT (hg.ty (x / 16) (by omega)).2) ?_
    rw [(hY.mf hty.2)]
    by_cases h59 : m 59 (iN m 62 (x / 16)) = 0
    · refine aw_if_ne (tgt := 62) hC dX2_addMaking_53 (by decide) (fun h => absurd h59 h) (fun _ => ?_)
      show AW X 0 0 56 [some (.ref 33), some (.int (nI x))] [] T I J R
      refine aw_aload_n hC dX2_addMaking_56 rfl ?_
      refine aw_iconst (v := 3) hC dX2_addMaking_57 (by decide) ?_
      refine aw_iload_n hC dX2_addMaking_58 rfl ?_
      refine kX2_168 hC rfl (m_X2_addAction (I := I) hT hR (l := A.length) (a := (300 + x)) (x := x) (w := 3) (hc.1) (by omega) (by rw [show (3 : Int32) = nI 3 from rfl, show (100 : Int32) = nI 100 from rfl, pk_mul, nI_add])) dX2_addMaking_59 (tg_33 hT) rfl a_le a_le a_le a_le a_le rfl aPure_x (aPure_k ?_)
      show AW X 0 0 62 [some (.ref 33), some (.int (nI x))] [] T (a_u (a_u I 35 A.length (nI (300 + x))) 33 5 (nI (A.length + 1))) J R
      refine aw_aload_n hC dX2_addMaking_62 rfl ?_
      refine aw_iconst (v := 1) hC dX2_addMaking_63 (by decide) ?_
      refine aw_iload_n hC dX2_addMaking_64 rfl ?_
      refine kX2_168 hC rfl (m_X2_addAction (I := a_u (a_u I 35 A.length (nI (300 + x))) 33 5 (nI (A.length + 1))) hT hR (l := (A.length + 1)) (a := (100 + x)) (x := x) (w := 1) (show (a_u (a_u I 35 A.length (nI (300 + x))) 33 5 (nI (A.length + 1))) 33 5 = nI (A.length + 1) from by have h9 := (hc.put (a := (300 + x)) (l := A.length) rfl).1; rw [List.length_append] at h9; exact h9) (by omega) (by rw [show (1 : Int32) = nI 1 from rfl, show (100 : Int32) = nI 100 from rfl, pk_mul, nI_add])) dX2_addMaking_65 (tg_33 hT) rfl a_le a_le a_le a_le a_le rfl aPure_x (aPure_k ?_)
      show AW X 0 0 68 [some (.ref 33), some (.int (nI x))] [] T (a_u (a_u (a_u (a_u I 35 A.length (nI (300 + x))) 33 5 (nI (A.length + 1))) 35 (A.length + 1) (nI (100 + x))) 33 5 (nI ((A.length + 1) + 1))) J R
      exact aw_return hC hq rfl dX2_addMaking_68 a_le a_le ⟨_, rfl, rfl, rfl, rfl, rfl, (((show ADF I I from ⟨fun _ _ _ => rfl, fun _ _ => rfl⟩).put).put), by have hz9 := ((hc.put (a := (300 + x)) (l := A.length) rfl).put (a := (100 + x)) (l := (A.length + 1)) (by simp [List.length_append])); simpa [upL, hn, h59, List.append_assoc] using hz9⟩
    · refine aw_if_ne (tgt := 62) hC dX2_addMaking_53 (by decide) (fun _ => ?_) (fun h => absurd h h59)
      show AW X 0 0 62 [some (.ref 33), some (.int (nI x))] [] T I J R
      refine aw_aload_n hC dX2_addMaking_62 rfl ?_
      refine aw_iconst (v := 1) hC dX2_addMaking_63 (by decide) ?_
      refine aw_iload_n hC dX2_addMaking_64 rfl ?_
      refine kX2_168 hC rfl (m_X2_addAction (I := I) hT hR (l := A.length) (a := (100 + x)) (x := x) (w := 1) (hc.1) (by omega) (by rw [show (1 : Int32) = nI 1 from rfl, show (100 : Int32) = nI 100 from rfl, pk_mul, nI_add])) dX2_addMaking_65 (tg_33 hT) rfl a_le a_le a_le a_le a_le rfl aPure_x (aPure_k ?_)
      show AW X 0 0 68 [some (.ref 33), some (.int (nI x))] [] T (a_u (a_u I 35 A.length (nI (100 + x))) 33 5 (nI (A.length + 1))) J R
      exact aw_return hC hq rfl dX2_addMaking_68 a_le a_le ⟨_, rfl, rfl, rfl, rfl, rfl, ((show ADF I I from ⟨fun _ _ _ => rfl, fun _ _ => rfl⟩).put), by have hz9 := (hc.put (a := (100 + x)) (l := A.length) rfl); simpa [upL, hn, h59, List.append_assoc] using hz9⟩
  · show AW X 0 0 0 [some (.ref 33), some (.int (nI x))] [] T I J R
    refine aw_aload_n hC dX2_addMaking_0 rfl ?_
    refine aw_getR hC dX2_addMaking_1 aF_X2_18 rfl (tg_33 hT) (pr_33_4 hR) ?_
    refine aw_iload_n hC dX2_addMaking_4 rfl ?_
    refine aw_iaload_k (j := x) hC dX2_addMaking_5 (tg_36 hT) (nI_clamp (by omega)) (vp_in_nI (by omega) (by decide)) ?_
    rw [(hNx.trans hn)]
    refine aw_iconst (v := 1) hC dX2_addMaking_6 (by decide) ?_
    refine aw_icmp_ne (tgt := 16) hC dX2_addMaking_7 (by decide) (fun _ => ?_) (fun h13 => absurd h13 (by decide))
    show AW X 0 0 16 [some (.ref 33), some (.int (nI x))] [] T I J R
    refine aw_aload_n hC dX2_addMaking_16 rfl ?_
    refine aw_getR hC dX2_addMaking_17 aF_X2_18 rfl (tg_33 hT) (pr_33_4 hR) ?_
    refine aw_iload_n hC dX2_addMaking_20 rfl ?_
    refine aw_iaload_k (j := x) hC dX2_addMaking_21 (tg_36 hT) (nI_clamp (by omega)) (vp_in_nI (by omega) (by decide)) ?_
    rw [(hNx.trans hn)]
    refine aw_iconst (v := 2) hC dX2_addMaking_22 (by decide) ?_
    refine aw_icmp_ne (tgt := 32) hC dX2_addMaking_23 (by decide) (fun _ => ?_) (fun h14 => absurd h14 (by decide))
    show AW X 0 0 32 [some (.ref 33), some (.int (nI x))] [] T I J R
    refine aw_aload_n hC dX2_addMaking_32 rfl ?_
    refine aw_getR hC dX2_addMaking_33 aF_X2_18 rfl (tg_33 hT) (pr_33_4 hR) ?_
    refine aw_iload_n hC dX2_addMaking_36 rfl ?_
    refine aw_iaload_k (j := x) hC dX2_addMaking_37 (tg_36 hT) (nI_clamp (by omega)) (vp_in_nI (by omega) (by decide)) ?_
    rw [(hNx.trans hn)]
    refine aw_iconst (v := 3) hC dX2_addMaking_38 (by decide) ?_
    refine aw_icmp_ne (tgt := 68) hC dX2_addMaking_39 (by decide) (fun _ => ?_) (fun h15 => absurd h15 (by decide))
    show AW X 0 0 68 [some (.ref 33), some (.int (nI x))] [] T I J R
    exact aw_return hC hq rfl dX2_addMaking_68 a_le a_le ⟨_, rfl, rfl, rfl, rfl, rfl, (show ADF I I from ⟨fun _ _ _ => rfl, fun _ _ => rfl⟩), by have hz9 := hc; simpa [upL, hn, List.append_assoc] using hz9⟩
set_option maxRecDepth 100000 in
theorem m_X2_addEnding {T : List aT} {I : aI} {J : aJ} {R : aR} (hT : aPT T) (hR : aPR R) {m : aI} {g : Nat} {gq : Nat → Nat} (hG : CGn T I R m g gq) (hg : GW m g) (hY : CTy I m) {x : Nat} (hx : x < 16 * g) (hNx : I 36 x = m 91 x) (h91 : 0 ≤ m 91 x ∧ m 91 x ≤ 4) {A : List Nat} (hc : CLI I A) (hl : A.length + (dnL m x).length ≤ 128) : MX2_addEnding 0 0 [.ref 33, .int (nI x)] T I J R (aRelV (fun v I2 J2 => v = none ∧ J2 = J ∧ ADF I I2 ∧ CLI I2 (A ++ dnL m x)) T R) := by
  refine a_met (by decide +kernel) a_le (fun X hC hq => ?_)
  show AW X 0 0 0 [some (.ref 33), some (.int (nI x))] [] T I J R
  have hg4 := hg.g4
  have hty := hg.ty (x / 16) (by omega)
  rcases (show m 91 x = 0 ∨ m 91 x = 1 ∨ m 91 x = 2 ∨ m 91 x = 3 ∨ m 91 x = 4 by simp only [i_le, i_eq, Int32.reduceToInt] at *; omega) with hn | hn | hn | hn | hn
  · show AW X 0 0 0 [some (.ref 33), some (.int (nI x))] [] T I J R
    refine aw_aload_n hC dX2_addEnding_0 rfl ?_
    refine aw_getR hC dX2_addEnding_1 aF_X2_18 rfl (tg_33 hT) (pr_33_4 hR) ?_
    refine aw_iload_n hC dX2_addEnding_4 rfl ?_
    refine aw_iaload_k (j := x) hC dX2_addEnding_5 (tg_36 hT) (nI_clamp (by omega)) (vp_in_nI (by omega) (by decide)) ?_
    rw [(hNx.trans hn)]
    refine aw_iconst (v := 4) hC dX2_addEnding_6 (by decide) ?_
    refine aw_icmp_ne (tgt := 16) hC dX2_addEnding_7 (by decide) (fun _ => ?_) (fun h1 => absurd h1 (by decide))
    show AW X 0 0 16 [some (.ref 33), some (.int (nI x))] [] T I J R
    refine aw_aload_n hC dX2_addEnding_16 rfl ?_
    refine aw_getR hC dX2_addEnding_17 aF_X2_18 rfl (tg_33 hT) (pr_33_4 hR) ?_
    refine aw_iload_n hC dX2_addEnding_20 rfl ?_
    refine aw_iaload_k (j := x) hC dX2_addEnding_21 (tg_36 hT) (nI_clamp (by omega)) (vp_in_nI (by omega) (by decide)) ?_
    rw [(hNx.trans hn)]
    refine aw_iconst (v := 3) hC dX2_addEnding_22 (by decide) ?_
    refine aw_icmp_ne (tgt := 46) hC dX2_addEnding_23 (by decide) (fun _ => ?_) (fun h2 => absurd h2 (by decide))
    show AW X 0 0 46 [some (.ref 33), some (.int (nI x))] [] T I J R
    exact aw_return hC hq rfl dX2_addEnding_46 a_le a_le ⟨_, rfl, rfl, rfl, rfl, rfl, (show ADF I I from ⟨fun _ _ _ => rfl, fun _ _ => rfl⟩), by have hz9 := hc; simpa [dnL, hn, List.append_assoc] using hz9⟩
  · show AW X 0 0 0 [some (.ref 33), some (.int (nI x))] [] T I J R
    refine aw_aload_n hC dX2_addEnding_0 rfl ?_
    refine aw_getR hC dX2_addEnding_1 aF_X2_18 rfl (tg_33 hT) (pr_33_4 hR) ?_
    refine aw_iload_n hC dX2_addEnding_4 rfl ?_
    refine aw_iaload_k (j := x) hC dX2_addEnding_5 (tg_36 hT) (nI_clamp (by omega)) (vp_in_nI (by omega) (by decide)) ?_
    rw [(hNx.trans hn)]
    refine aw_iconst (v := 4) hC dX2_addEnding_6 (by decide) ?_
    refine aw_icmp_ne (tgt := 16) hC dX2_addEnding_7 (by decide) (fun _ => ?_) (fun h3 => absurd h3 (by decide))
    show AW X 0 0 16 [some (.ref 33), some (.int (nI x))] [] T I J R
    refine aw_aload_n hC dX2_addEnding_16 rfl ?_
    refine aw_getR hC dX2_addEnding_17 aF_X2_18 rfl (tg_33 hT) (pr_33_4 hR) ?_
    refine aw_iload_n hC dX2_addEnding_20 rfl ?_
    refine aw_iaload_k (j := x) hC dX2_addEnding_21 (tg_36 hT) (nI_clamp (by omega)) (vp_in_nI (by omega) (by decide)) ?_
    rw [(hNx.trans hn)]
    refine aw_iconst (v := 3) hC dX2_addEnding_22 (by decide) ?_
    refine aw_icmp_ne (tgt := 46) hC dX2_addEnding_23 (by decide) (fun _ => ?_) (fun h4 => absurd h4 (by decide))
    show AW X 0 0 46 [some (.ref 33), some (.int (nI x))] [] T I J R
    exact aw_return hC hq rfl dX2_addEnding_46 a_le a_le ⟨_, rfl, rfl, rfl, rfl, rfl, (show ADF I I from ⟨fun _ _ _ => rfl, fun _ _ => rfl⟩), by have hz9 := hc; simpa [dnL, hn, List.append_assoc] using hz9⟩
  · show AW X 0 0 0 [some (.ref 33), some (.int (nI x))] [] T I J R
    refine aw_aload_n hC dX2_addEnding_0 rfl ?_
    refine aw_getR hC dX2_addEnding_1 aF_X2_18 rfl (tg_33 hT) (pr_33_4 hR) ?_
    refine aw_iload_n hC dX2_addEnding_4 rfl ?_
    refine aw_iaload_k (j := x) hC dX2_addEnding_5 (tg_36 hT) (nI_clamp (by omega)) (vp_in_nI (by omega) (by decide)) ?_
    rw [(hNx.trans hn)]
    refine aw_iconst (v := 4) hC dX2_addEnding_6 (by decide) ?_
    refine aw_icmp_ne (tgt := 16) hC dX2_addEnding_7 (by decide) (fun _ => ?_) (fun h5 => absurd h5 (by decide))
    show AW X 0 0 16 [some (.ref 33), some (.int (nI x))] [] T I J R
    refine aw_aload_n hC dX2_addEnding_16 rfl ?_
    refine aw_getR hC dX2_addEnding_17 aF_X2_18 rfl (tg_33 hT) (pr_33_4 hR) ?_
    refine aw_iload_n hC dX2_addEnding_20 rfl ?_
    refine aw_iaload_k (j := x) hC dX2_addEnding_21 (tg_36 hT) (nI_clamp (by omega)) (vp_in_nI (by omega) (by decide)) ?_
    rw [(hNx.trans hn)]
    refine aw_iconst (v := 3) hC dX2_addEnding_22 (by decide) ?_
    refine aw_icmp_ne (tgt := 46) hC dX2_addEnding_23 (by decide) (fun _ => ?_) (fun h6 => absurd h6 (by decide))
    show AW X 0 0 46 [some (.ref 33), some (.int (nI x))] [] T I J R
    exact aw_return hC hq rfl dX2_addEnding_46 a_le a_le ⟨_, rfl, rfl, rfl, rfl, rfl, (show ADF I I from ⟨fun _ _ _ => rfl, fun _ _ => rfl⟩), by have hz9 := hc; simpa [dnL, hn, List.append_assoc] using hz9⟩
  · show AW X 0 0 0 [some (.ref 33), some (.int (nI x))] [] T I J R
    refine aw_aload_n hC dX2_addEnding_0 rfl ?_
    refine aw_getR hC dX2_addEnding_1 aF_X2_18 rfl (tg_33 hT) (pr_33_4 hR) ?_
    refine aw_iload_n hC dX2_addEnding_4 rfl ?_
    refine aw_iaload_k (j := x) hC dX2_addEnding_5 (tg_36 hT) (nI_clamp (by omega)) (vp_in_nI (by omega) (by decide)) ?_
    rw [(hNx.trans hn)]
    refine aw_iconst (v := 4) hC dX2_addEnding_6 (by decide) ?_
    refine aw_icmp_ne (tgt := 16) hC dX2_addEnding_7 (by decide) (fun _ => ?_) (fun h7 => absurd h7 (by decide))
    show AW X 0 0 16 [some (.ref 33), some (.int (nI x))] [] T I J R
    refine aw_aload_n hC dX2_addEnding_16 rfl ?_
    refine aw_getR hC dX2_addEnding_17 aF_X2_18 rfl (tg_33 hT) (pr_33_4 hR) ?_
    refine aw_iload_n hC dX2_addEnding_20 rfl ?_
    refine aw_iaload_k (j := x) hC dX2_addEnding_21 (tg_36 hT) (nI_clamp (by omega)) (vp_in_nI (by omega) (by decide)) ?_
    rw [(hNx.trans hn)]
    refine aw_iconst (v := 3) hC dX2_addEnding_22 (by decide) ?_
    refine aw_icmp_ne (tgt := 46) hC dX2_addEnding_23 (by decide) (fun h8 => absurd h8 (by decide)) (fun _ => ?_)
    show AW X 0 0 26 [some (.ref 33), some (.int (nI x))] [] T I J R
    refine aw_aload_n hC dX2_addEnding_26 rfl ?_
    refine aw_getR hC dX2_addEnding_27 aF_X2_28 rfl (tg_33 hT) (pr_33_3 hR) ?_
    refine aw_iload_n hC dX2_addEnding_30 rfl ?_
    refine kX2_85 hC rfl (m_X4_typeOf (I := I) hT hR hG hg (x := x) (by omega)) dX2_addEnding_31 (tg_19 hT) rfl a_le a_le a_le a_le a_le rfl aPure_x (aPure_k ?_)
    show AW X 0 0 34 [some (.ref 33), some (.int (nI x))] [.ref (27 + 2 * (iN m 62 (x / 16)))] T I J R
    refine aw_getI hC dX2_addEnding_34 aF_X2_172 rfl (ty_tg hT (hg.ty (x / 16) (by omega)).2) ?_
    rw [(hY.mf hty.2)]
    by_cases h59 : m 59 (iN m 62 (x / 16)) = 0
    · refine aw_if_eq (tgt := 46) hC dX2_addEnding_37 (by decide) (fun _ => ?_) (fun h => absurd h59 h)
      show AW X 0 0 46 [some (.ref 33), some (.int (nI x))] [] T I J R
      exact aw_return hC hq rfl dX2_addEnding_46 a_le a_le ⟨_, rfl, rfl, rfl, rfl, rfl, (show ADF I I from ⟨fun _ _ _ => rfl, fun _ _ => rfl⟩), by have hz9 := hc; simpa [dnL, hn, h59, List.append_assoc] using hz9⟩
    · refine aw_if_eq (tgt := 46) hC dX2_addEnding_37 (by decide) (fun h => absurd h h59) (fun _ => ?_)
      show AW X 0 0 40 [some (.ref 33), some (.int (nI x))] [] T I J R
      have hln := hl
      simp [dnL, hn, h59] at hln
      refine aw_aload_n hC dX2_addEnding_40 rfl ?_
      refine aw_iconst (v := 4) hC dX2_addEnding_41 (by decide) ?_
      refine aw_iload_n hC dX2_addEnding_42 rfl ?_
      refine kX2_168 hC rfl (m_X2_addAction (I := I) hT hR (l := A.length) (a := (400 + x)) (x := x) (w := 4) (hc.1) (by omega) (by rw [show (4 : Int32) = nI 4 from rfl, show (100 : Int32) = nI 100 from rfl, pk_mul, nI_add])) dX2_addEnding_43 (tg_33 hT) rfl a_le a_le a_le a_le a_le rfl aPure_x (aPure_k ?_)
      show AW X 0 0 46 [some (.ref 33), some (.int (nI x))] [] T (a_u (a_u I 35 A.length (nI (400 + x))) 33 5 (nI (A.length + 1))) J R
      exact aw_return hC hq rfl dX2_addEnding_46 a_le a_le ⟨_, rfl, rfl, rfl, rfl, rfl, ((show ADF I I from ⟨fun _ _ _ => rfl, fun _ _ => rfl⟩).put), by have hz9 := (hc.put (a := (400 + x)) (l := A.length) rfl); simpa [dnL, hn, h59, List.append_assoc] using hz9⟩
  · show AW X 0 0 0 [some (.ref 33), some (.int (nI x))] [] T I J R
    refine aw_aload_n hC dX2_addEnding_0 rfl ?_
    refine aw_getR hC dX2_addEnding_1 aF_X2_18 rfl (tg_33 hT) (pr_33_4 hR) ?_
    refine aw_iload_n hC dX2_addEnding_4 rfl ?_
    refine aw_iaload_k (j := x) hC dX2_addEnding_5 (tg_36 hT) (nI_clamp (by omega)) (vp_in_nI (by omega) (by decide)) ?_
    rw [(hNx.trans hn)]
    refine aw_iconst (v := 4) hC dX2_addEnding_6 (by decide) ?_
    refine aw_icmp_ne (tgt := 16) hC dX2_addEnding_7 (by decide) (fun h9 => absurd h9 (by decide)) (fun _ => ?_)
    show AW X 0 0 10 [some (.ref 33), some (.int (nI x))] [] T I J R
    have hln := hl
    simp [dnL, hn] at hln
    refine aw_aload_n hC dX2_addEnding_10 rfl ?_
    refine aw_iconst (v := 3) hC dX2_addEnding_11 (by decide) ?_
    refine aw_iload_n hC dX2_addEnding_12 rfl ?_
    refine kX2_168 hC rfl (m_X2_addAction (I := I) hT hR (l := A.length) (a := (300 + x)) (x := x) (w := 3) (hc.1) (by omega) (by rw [show (3 : Int32) = nI 3 from rfl, show (100 : Int32) = nI 100 from rfl, pk_mul, nI_add])) dX2_addEnding_13 (tg_33 hT) rfl a_le a_le a_le a_le a_le rfl aPure_x (aPure_k ?_)
    show AW X 0 0 16 [some (.ref 33), some (.int (nI x))] [] T (a_u (a_u I 35 A.length (nI (300 + x))) 33 5 (nI (A.length + 1))) J R
    refine aw_aload_n hC dX2_addEnding_16 rfl ?_
    refine aw_getR hC dX2_addEnding_17 aF_X2_18 rfl (tg_33 hT) (pr_33_4 hR) ?_
    refine aw_iload_n hC dX2_addEnding_20 rfl ?_
    refine aw_iaload_k (j := x) hC dX2_addEnding_21 (tg_36 hT) (nI_clamp (by omega)) (vp_in_nI (by omega) (by decide)) ?_
    rw [show (a_u (a_u I 35 A.length (nI (300 + x))) 33 5 (nI (A.length + 1))) 36 x = I 36 x from by rw [((show ADF I I from ⟨fun _ _ _ => rfl, fun _ _ => rfl⟩).put).1 36 (by decide) (by decide)]]
    rw [(hNx.trans hn)]
    refine aw_iconst (v := 3) hC dX2_addEnding_22 (by decide) ?_
    refine aw_icmp_ne (tgt := 46) hC dX2_addEnding_23 (by decide) (fun _ => ?_) (fun h10 => absurd h10 (by decide))
    show AW X 0 0 46 [some (.ref 33), some (.int (nI x))] [] T (a_u (a_u I 35 A.length (nI (300 + x))) 33 5 (nI (A.length + 1))) J R
    exact aw_return hC hq rfl dX2_addEnding_46 a_le a_le ⟨_, rfl, rfl, rfl, rfl, rfl, ((show ADF I I from ⟨fun _ _ _ => rfl, fun _ _ => rfl⟩).put), by have hz9 := (hc.put (a := (300 + x)) (l := A.length) rfl); simpa [dnL, hn, List.append_assoc] using hz9⟩
