theorem BsI.le {m : aI} {B : Nat → Int32} {k l : Nat} (h : BsI m B k) (hl : l ≤ k) : BsI m B l := fun y c hy hc a b => h y c (by omega) hc a b
theorem BsI.skip {m : aI} {B : Nat → Int32} {k : Nat} (h : BsI m B k) (hk : sKept m k = false) : BsI m B (k + 1) := by
  intro y c hy hc a b
  have hne : y ≠ k := fun q => by rw [q, hk] at a; cases a
  exact h y c (by omega) hc a b
abbrev dfB (m : aI) : Nat → Bool := fun x => decide (0 < m 91 x)
theorem sc_k {m : aI} {mj : aJ} {x : Nat} (hk : sKept m x = false) (h : m 91 x = sCmp m mj x) : m 91 x = if 0 < m 69 x then 4 else 0 := by rw [h, sCmp, if_pos hk]
theorem pos_nz {v : Int32} (h : 0 ≤ v ∧ v ≤ 4) : 0 < v ↔ v ≠ 0 := by simp only [i_lt, i_le, ne_eq, i_eq, Int32.reduceToInt] at *; omega
set_option maxRecDepth 100000 in
theorem m_X2_countDiffering {T : List aT} {I : aI} {J : aJ} {R : aR} (hT : aPT T) (hR : aPR R) {m : aI} {g : Nat} {gq : Nat → Nat} (hG : CGn T I R m g gq) (hg : GW m g) (hY : CTy I m) {eq : Nat → Nat} (hE : CEn T I R m eq) {mj : aJ} (hV : CFo I m mj) (hi : InvE m g) {n : Nat} {sq : Nat → Nat} (hSt : CSt T I R m n sq) (hS : SW m n) (hFl : CFl I m n sq) (h2c : I 8 2 = m 44 57) (hC9 : CmpOK m mj g) (hs2 : InvS m g) : MX2_countDiffering 0 0 [.ref 33] T I J R (aRelV (fun v I2 J2 => J2 = J ∧ (∃ B, I2 = a_ur I 37 B) ∧ v = some (.int (if cPv m mj n g (I 8 3) = true then nI (cntT (dfB m) (16 * g)) else -1))) T R) := by
  refine a_met (by decide +kernel) a_le (fun X hC hq => ?_)
  show AW X 0 0 0 [some (.ref 33), none, none, none] [] T I J R
  refine aw_aload_n hC dX2_countDiffering_0 rfl ?_
  refine kX2_156 hC rfl (m_X2_canPlan (I := I) hT hR hG hg hY hV hSt hS hFl h2c) dX2_countDiffering_1 (tg_33 hT) rfl a_le a_le a_le a_le a_le rfl aPure_x (aPure_k ?_)
  show AW X 0 0 4 [some (.ref 33), none, none, none] [.int (bI (cPv m mj n g (I 8 3)))] T I J R
  refine aw_if_ne (tgt := 9) hC dX2_countDiffering_4 (by decide) (fun h1 => ?_) (fun h1 => ?_)
  · show AW X 0 0 9 [some (.ref 33), none, none, none] [] T I J R
    refine aw_iconst (v := 0) hC dX2_countDiffering_9 (by decide) ?_
    refine aw_istore_n (L2 := [some (.ref 33), some (.int 0), none, none]) hC dX2_countDiffering_10 rfl (by decide) rfl ?_
    refine aw_iconst (v := 0) hC dX2_countDiffering_11 (by decide) ?_
    refine aw_istore_n (L2 := [some (.ref 33), some (.int 0), some (.int 0), none]) hC dX2_countDiffering_12 rfl (by decide) rfl ?_
    have hcan : cPv m mj n g (I 8 3) = true := bI_n0.mp (by assumption)
    have hkp := kp_of hg hcan
    refine aw_setI (I2 := a_ur I 37 (I 37)) (a_ur_id (fun j => rfl)).symm ?_
    have loop : ∀ k, k ≤ 16 * g → ∀ B : Nat → Int32, BsI m B k → AW X 0 0 13 [some (.ref 33), some (.int (nI (cntT (dfB m) k))), some (.int (nI k)), none] [] T (a_ur I 37 B) J R := by
      refine a_down (16 * g) (fun k hk_k ih_k => ?_)
      intro B hB
      have hg4 := hg.g4
      have hG2 : CGn T (a_ur I 37 B) R m g gq := hG.fr hT (fun o ho => a_ur_ne (by omega)) (by rw [a_ur_ne (by decide)])
      have hY2 : CTy (a_ur I 37 B) m := hY.fr (fun o h1 h2 => a_ur_ne (by omega))
      have hE2 : CEn T (a_ur I 37 B) R m eq := hE.fr hT (fun o ho => a_ur_ne (by omega))
      have hV2 : CFo (a_ur I 37 B) m mj := fun f hf => by rw [a_ur_ne (by decide)]; exact hV f hf
      have hgn : (a_ur I 37 B) 19 2 = nI g := by rw [a_ur_ne (by decide)]; exact hG.cnt
      refine aw_iload_n hC dX2_countDiffering_13 rfl ?_
      refine aw_aload_n hC dX2_countDiffering_14 rfl ?_
      refine aw_getR hC dX2_countDiffering_15 aF_X2_28 rfl (tg_33 hT) (pr_33_3 hR) ?_
      refine kX2_32 hC rfl (m_X4_names (I := a_ur I 37 B) hT hR (g := g) hgn) dX2_countDiffering_18 (tg_19 hT) rfl a_le a_le a_le a_le a_le rfl aPure_x (aPure_k ?_)
      show AW X 0 0 21 [some (.ref 33), some (.int (nI (cntT (dfB m) k))), some (.int (nI k)), none] [.int (nI (16 * g)), .int (nI k)] T (a_ur I 37 B) J R
      refine aw_icmp_ge (tgt := 77) hC dX2_countDiffering_21 (by decide) (fun h2 => ?_) (fun h2 => ?_)
      · show AW X 0 0 77 [some (.ref 33), some (.int (nI (cntT (dfB m) k))), some (.int (nI k)), none] [] T (a_ur I 37 B) J R
        have h2n : (16 * g) ≤ k := (nI_leI (a := (16 * g)) (b := k) (by omega) (by omega)).mp h2
        refine aw_iload_n hC dX2_countDiffering_77 rfl ?_
        exact aw_ireturn hC hq rfl dX2_countDiffering_78 a_le a_le ⟨_, rfl, rfl, rfl, rfl, ⟨B, rfl⟩, by rw [if_pos hcan, show 16 * g = k by omega]⟩
      · show AW X 0 0 24 [some (.ref 33), some (.int (nI (cntT (dfB m) k))), some (.int (nI k)), none] [] T (a_ur I 37 B) J R
        have h2n : ¬ (16 * g) ≤ k := fun q9 => h2 ((nI_leI (a := (16 * g)) (b := k) (by omega) (by omega)).mpr q9)
        refine aw_aload_n hC dX2_countDiffering_24 rfl ?_
        refine aw_getR hC dX2_countDiffering_25 aF_X2_28 rfl (tg_33 hT) (pr_33_3 hR) ?_
        refine aw_getR hC dX2_countDiffering_28 aF_X2_65 rfl (tg_19 hT) (pr_19_7 hR) ?_
        by_cases h69 : m 69 k = 0
        · show AW X 0 0 31 [some (.ref 33), some (.int (nI (cntT (dfB m) k))), some (.int (nI k)), none] [.ref 25] T (a_ur I 37 B) J R
          refine aw_iload_n hC dX2_countDiffering_31 rfl ?_
          refine aw_aaloadN_k (j := k) hC dX2_countDiffering_32 (tg_25 hT) (nI_clamp (by omega)) (vp_in_nI (by omega) (by decide)) (hE.no (by omega) h69) ?_
          refine aw_ifnullN (tgt := 40) hC dX2_countDiffering_33 (by decide) ?_
          refine aw_iconst (v := 0) hC dX2_countDiffering_40 (by decide) ?_
          refine aw_istore_n (L2 := [some (.ref 33), some (.int (nI (cntT (dfB m) k))), some (.int (nI k)), some (.int 0)]) hC dX2_countDiffering_41 rfl (by decide) rfl ?_
          refine aw_aload_n hC dX2_countDiffering_42 rfl ?_
          refine aw_getR hC dX2_countDiffering_43 aF_X2_28 rfl (tg_33 hT) (pr_33_3 hR) ?_
          refine aw_iload_n hC dX2_countDiffering_46 rfl ?_
          refine kX2_95 hC rfl (m_X4_hasKey (I := a_ur I 37 B) hT hR hG2 hg (x := k) (by omega)) dX2_countDiffering_47 (tg_19 hT) rfl a_le a_le a_le a_le a_le rfl aPure_x (aPure_k ?_)
          show AW X 0 0 50 [some (.ref 33), some (.int (nI (cntT (dfB m) k))), some (.int (nI k)), some (.int 0)] [.int (bI (sKept m k))] T (a_ur I 37 B) J R
          refine aw_if_eq (tgt := 64) hC dX2_countDiffering_50 (by decide) (fun h3 => ?_) (fun h3 => ?_)
          · show AW X 0 0 64 [some (.ref 33), some (.int (nI (cntT (dfB m) k))), some (.int (nI k)), some (.int 0)] [] T (a_ur I 37 B) J R
            refine aw_iload_n hC dX2_countDiffering_64 rfl ?_
            refine aw_if_eq (tgt := 71) hC dX2_countDiffering_65 (by decide) (fun _ => ?_) (fun h4 => absurd h4 (by decide))
            show AW X 0 0 71 [some (.ref 33), some (.int (nI (cntT (dfB m) k))), some (.int (nI k)), some (.int 0)] [] T (a_ur I 37 B) J R
            refine aw_iinc (v := nI (k + 1)) (L2 := [some (.ref 33), some (.int (nI (cntT (dfB m) k))), some (.int (nI (k + 1))), some (.int 0)]) hC dX2_countDiffering_71 rfl (nI_inc _) (by decide) rfl ?_
            refine aw_goto (tgt := 13) hC dX2_countDiffering_74 (by decide) ?_
            have hr9 : 0 ≤ m 91 k ∧ m 91 k ≤ 4 := by rw [hC9 k (by omega)]; exact sCmp_rng
            have hkn : sKept m k = false := bI_e0.mp (by assumption)
            have hz9 := sc_k hkn (hC9 k (by omega))
            rw [cntT_n (p := (dfB m)) (k := k) (decide_eq_false (by rw [hz9, h69]; decide))]
            refine aw_forget 3 (L2 := [some (.ref 33), some (.int (nI (cntT (dfB m) (k + 1)))), some (.int (nI (k + 1))), none]) rfl ?_
            exact ih_k (by omega) _ (hB.skip hkn)
          · show AW X 0 0 53 [some (.ref 33), some (.int (nI (cntT (dfB m) k))), some (.int (nI k)), some (.int 0)] [] T (a_ur I 37 B) J R
            have hkx : sKept m k = true := bI_n0.mp (by assumption)
            refine aw_aload_n hC dX2_countDiffering_53 rfl ?_
            refine aw_iload_n hC dX2_countDiffering_54 rfl ?_
            refine kX2_178 hC rfl (m_X2_isMadeAlike (I := a_ur I 37 B) hT hR hG2 hg hY2 hE2 hV2 hi (x := k) (by omega) (by rw [a_ur_self]; exact hB.le (by omega)) hC9 hs2 hkp hkx) dX2_countDiffering_55 (tg_33 hT) rfl a_le a_le a_le a_le a_le rfl aRelV_x (aRelV_k (fun v9 I9 J9 hQ => ?_))
            obtain ⟨eJ9, B2, B9, e9, ev9, hM9, hB9⟩ := hQ
            rw [eJ9, ev9, e9]
            rw [a_ur_self] at hM9
            rw [a_ur_2]
            show AW X 0 0 58 [some (.ref 33), some (.int (nI (cntT (dfB m) k))), some (.int (nI k)), some (.int 0)] [.int (bI (decide (m 91 k = 0)))] T (a_ur I 37 B2) J R
            refine aw_if_ne (tgt := 71) hC dX2_countDiffering_58 (by decide) (fun h5 => ?_) (fun h5 => ?_)
            · show AW X 0 0 71 [some (.ref 33), some (.int (nI (cntT (dfB m) k))), some (.int (nI k)), some (.int 0)] [] T (a_ur I 37 B2) J R
              refine aw_iinc (v := nI (k + 1)) (L2 := [some (.ref 33), some (.int (nI (cntT (dfB m) k))), some (.int (nI (k + 1))), some (.int 0)]) hC dX2_countDiffering_71 rfl (nI_inc _) (by decide) rfl ?_
              refine aw_goto (tgt := 13) hC dX2_countDiffering_74 (by decide) ?_
              have hr9 : 0 ≤ m 91 k ∧ m 91 k ≤ 4 := by rw [hC9 k (by omega)]; exact sCmp_rng
              have hz9 := pos_nz hr9
              rw [cntT_n (p := (dfB m)) (k := k) (decide_eq_false (fun q => hz9.mp q (bI_dn.mp (by assumption))))]
              refine aw_forget 3 (L2 := [some (.ref 33), some (.int (nI (cntT (dfB m) (k + 1)))), some (.int (nI (k + 1))), none]) rfl ?_
              exact ih_k (by omega) _ (bs_end (mj := mj) hB (fun _ => hM9) (fun q => fun z => q ((sCmp_1 hi (by omega) hkx (hC9 k (by omega))).1.mpr z)) (fun _ => hB9) (fun q => by rw [hkx] at q; cases q))
            · show AW X 0 0 61 [some (.ref 33), some (.int (nI (cntT (dfB m) k))), some (.int (nI k)), some (.int 0)] [] T (a_ur I 37 B2) J R
              refine aw_goto (tgt := 68) hC dX2_countDiffering_61 (by decide) ?_
              refine aw_iinc (v := nI ((cntT (dfB m) k) + 1)) (L2 := [some (.ref 33), some (.int (nI ((cntT (dfB m) k) + 1))), some (.int (nI k)), some (.int 0)]) hC dX2_countDiffering_68 rfl (nI_inc _) (by decide) rfl ?_
              refine aw_iinc (v := nI (k + 1)) (L2 := [some (.ref 33), some (.int (nI ((cntT (dfB m) k) + 1))), some (.int (nI (k + 1))), some (.int 0)]) hC dX2_countDiffering_71 rfl (nI_inc _) (by decide) rfl ?_
              refine aw_goto (tgt := 13) hC dX2_countDiffering_74 (by decide) ?_
              have hr9 : 0 ≤ m 91 k ∧ m 91 k ≤ 4 := by rw [hC9 k (by omega)]; exact sCmp_rng
              have hz9 := pos_nz hr9
              rw [cntT_y (p := (dfB m)) (decide_eq_true (hz9.mpr (bI_d0.mp (by assumption))))]
              refine aw_forget 3 (L2 := [some (.ref 33), some (.int (nI (cntT (dfB m) (k + 1)))), some (.int (nI (k + 1))), none]) rfl ?_
              exact ih_k (by omega) _ (bs_end (mj := mj) hB (fun _ => hM9) (fun q => fun z => q ((sCmp_1 hi (by omega) hkx (hC9 k (by omega))).1.mpr z)) (fun _ => hB9) (fun q => by rw [hkx] at q; cases q))
        · show AW X 0 0 31 [some (.ref 33), some (.int (nI (cntT (dfB m) k))), some (.int (nI k)), none] [.ref 25] T (a_ur I 37 B) J R
          refine aw_iload_n hC dX2_countDiffering_31 rfl ?_
          refine aw_aaloadR_k (j := k) hC dX2_countDiffering_32 (tg_25 hT) (nI_clamp (by omega)) (vp_in_nI (by omega) (by decide)) (hE.rf (by omega) h69) ?_
          refine aw_ifnull hC dX2_countDiffering_33 ?_
          refine aw_iconst (v := 1) hC dX2_countDiffering_36 (by decide) ?_
          refine aw_goto (tgt := 41) hC dX2_countDiffering_37 (by decide) ?_
          refine aw_istore_n (L2 := [some (.ref 33), some (.int (nI (cntT (dfB m) k))), some (.int (nI k)), some (.int 1)]) hC dX2_countDiffering_41 rfl (by decide) rfl ?_
          refine aw_aload_n hC dX2_countDiffering_42 rfl ?_
          refine aw_getR hC dX2_countDiffering_43 aF_X2_28 rfl (tg_33 hT) (pr_33_3 hR) ?_
          refine aw_iload_n hC dX2_countDiffering_46 rfl ?_
          refine kX2_95 hC rfl (m_X4_hasKey (I := a_ur I 37 B) hT hR hG2 hg (x := k) (by omega)) dX2_countDiffering_47 (tg_19 hT) rfl a_le a_le a_le a_le a_le rfl aPure_x (aPure_k ?_)
          show AW X 0 0 50 [some (.ref 33), some (.int (nI (cntT (dfB m) k))), some (.int (nI k)), some (.int 1)] [.int (bI (sKept m k))] T (a_ur I 37 B) J R
          refine aw_if_eq (tgt := 64) hC dX2_countDiffering_50 (by decide) (fun h6 => ?_) (fun h6 => ?_)
          · show AW X 0 0 64 [some (.ref 33), some (.int (nI (cntT (dfB m) k))), some (.int (nI k)), some (.int 1)] [] T (a_ur I 37 B) J R
            refine aw_iload_n hC dX2_countDiffering_64 rfl ?_
            refine aw_if_eq (tgt := 71) hC dX2_countDiffering_65 (by decide) (fun h7 => absurd h7 (by decide)) (fun _ => ?_)
            show AW X 0 0 68 [some (.ref 33), some (.int (nI (cntT (dfB m) k))), some (.int (nI k)), some (.int 1)] [] T (a_ur I 37 B) J R
            refine aw_iinc (v := nI ((cntT (dfB m) k) + 1)) (L2 := [some (.ref 33), some (.int (nI ((cntT (dfB m) k) + 1))), some (.int (nI k)), some (.int 1)]) hC dX2_countDiffering_68 rfl (nI_inc _) (by decide) rfl ?_
            refine aw_iinc (v := nI (k + 1)) (L2 := [some (.ref 33), some (.int (nI ((cntT (dfB m) k) + 1))), some (.int (nI (k + 1))), some (.int 1)]) hC dX2_countDiffering_71 rfl (nI_inc _) (by decide) rfl ?_
            refine aw_goto (tgt := 13) hC dX2_countDiffering_74 (by decide) ?_
            have hr9 : 0 ≤ m 91 k ∧ m 91 k ≤ 4 := by rw [hC9 k (by omega)]; exact sCmp_rng
            have hkn : sKept m k = false := bI_e0.mp (by assumption)
            have hz9 := sc_k hkn (hC9 k (by omega))
            rw [cntT_y (p := (dfB m)) (decide_eq_true (by rw [hz9, if_pos (hi.2.1 k (by omega) h69)]; decide))]
            refine aw_forget 3 (L2 := [some (.ref 33), some (.int (nI (cntT (dfB m) (k + 1)))), some (.int (nI (k + 1))), none]) rfl ?_
            exact ih_k (by omega) _ (hB.skip hkn)
          · show AW X 0 0 53 [some (.ref 33), some (.int (nI (cntT (dfB m) k))), some (.int (nI k)), some (.int 1)] [] T (a_ur I 37 B) J R
            have hkx : sKept m k = true := bI_n0.mp (by assumption)
            refine aw_aload_n hC dX2_countDiffering_53 rfl ?_
            refine aw_iload_n hC dX2_countDiffering_54 rfl ?_
            refine kX2_178 hC rfl (m_X2_isMadeAlike (I := a_ur I 37 B) hT hR hG2 hg hY2 hE2 hV2 hi (x := k) (by omega) (by rw [a_ur_self]; exact hB.le (by omega)) hC9 hs2 hkp hkx) dX2_countDiffering_55 (tg_33 hT) rfl a_le a_le a_le a_le a_le rfl aRelV_x (aRelV_k (fun v9 I9 J9 hQ => ?_))
            obtain ⟨eJ9, B2, B9, e9, ev9, hM9, hB9⟩ := hQ
            rw [eJ9, ev9, e9]
            rw [a_ur_self] at hM9
            rw [a_ur_2]
            show AW X 0 0 58 [some (.ref 33), some (.int (nI (cntT (dfB m) k))), some (.int (nI k)), some (.int 1)] [.int (bI (decide (m 91 k = 0)))] T (a_ur I 37 B2) J R
            refine aw_if_ne (tgt := 71) hC dX2_countDiffering_58 (by decide) (fun h8 => ?_) (fun h8 => ?_)
            · show AW X 0 0 71 [some (.ref 33), some (.int (nI (cntT (dfB m) k))), some (.int (nI k)), some (.int 1)] [] T (a_ur I 37 B2) J R
              refine aw_iinc (v := nI (k + 1)) (L2 := [some (.ref 33), some (.int (nI (cntT (dfB m) k))), some (.int (nI (k + 1))), some (.int 1)]) hC dX2_countDiffering_71 rfl (nI_inc _) (by decide) rfl ?_
              refine aw_goto (tgt := 13) hC dX2_countDiffering_74 (by decide) ?_
              have hr9 : 0 ≤ m 91 k ∧ m 91 k ≤ 4 := by rw [hC9 k (by omega)]; exact sCmp_rng
              have hz9 := pos_nz hr9
              rw [cntT_n (p := (dfB m)) (k := k) (decide_eq_false (fun q => hz9.mp q (bI_dn.mp (by assumption))))]
              refine aw_forget 3 (L2 := [some (.ref 33), some (.int (nI (cntT (dfB m) (k + 1)))), some (.int (nI (k + 1))), none]) rfl ?_
              exact ih_k (by omega) _ (bs_end (mj := mj) hB (fun _ => hM9) (fun q => fun z => q ((sCmp_1 hi (by omega) hkx (hC9 k (by omega))).1.mpr z)) (fun _ => hB9) (fun q => by rw [hkx] at q; cases q))
            · show AW X 0 0 61 [some (.ref 33), some (.int (nI (cntT (dfB m) k))), some (.int (nI k)), some (.int 1)] [] T (a_ur I 37 B2) J R
              refine aw_goto (tgt := 68) hC dX2_countDiffering_61 (by decide) ?_
              refine aw_iinc (v := nI ((cntT (dfB m) k) + 1)) (L2 := [some (.ref 33), some (.int (nI ((cntT (dfB m) k) + 1))), some (.int (nI k)), some (.int 1)]) hC dX2_countDiffering_68 rfl (nI_inc _) (by decide) rfl ?_
              refine aw_iinc (v := nI (k + 1)) (L2 := [some (.ref 33), some (.int (nI ((cntT (dfB m) k) + 1))), some (.int (nI (k + 1))), some (.int 1)]) hC dX2_countDiffering_71 rfl (nI_inc _) (by decide) rfl ?_
              refine aw_goto (tgt := 13) hC dX2_countDiffering_74 (by decide) ?_
              have hr9 : 0 ≤ m 91 k ∧ m 91 k ≤ 4 := by rw [hC9 k (by omega)]; exact sCmp_rng
              have hz9 := pos_nz hr9
              rw [cntT_y (p := (dfB m)) (decide_eq_true (hz9.mpr (bI_d0.mp (by assumption))))]
              refine aw_forget 3 (L2 := [some (.ref 33), some (.int (nI (cntT (dfB m) (k + 1)))), some (.int (nI (k + 1))), none]) rfl ?_
              exact ih_k (by omega) _ (bs_end (mj := mj) hB (fun _ => hM9) (fun q => fun z => q ((sCmp_1 hi (by omega) hkx (hC9 k (by omega))).1.mpr z)) (fun _ => hB9) (fun q => by rw [hkx] at q; cases q))
    exact loop 0 (Nat.zero_le _) _ (fun y c hy => absurd hy (by omega))
  · show AW X 0 0 7 [some (.ref 33), none, none, none] [] T I J R
    refine aw_iconst (v := (-1)) hC dX2_countDiffering_7 (by decide) ?_
    exact aw_ireturn hC hq rfl dX2_countDiffering_8 a_le a_le ⟨_, rfl, rfl, rfl, rfl, ⟨I 37, (a_ur_id (fun j => rfl)).symm⟩, by rw [if_neg (by rw [bI_e0.mp (show bI (cPv m mj n g (I 8 3)) = 0 by assumption)]; simp)]⟩
