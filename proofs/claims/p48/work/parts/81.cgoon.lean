theorem lof_m {m : aI} {F : Nat → Int32} {x k : Nat} (h : m 65 (3 * (x / 16) + k) = -1) : loF m F x k = false := by
  simp only [loF]; rw [h, decide_eq_false (by decide)]; rfl
theorem lof_s {m : aI} {F : Nat → Int32} {x k s : Nat} (h : m 65 (3 * (x / 16) + k) = nI s) (hs : s < 22) : loF m F x k = (decide (10 ≤ s) && decide (F (16 * ((s - 10) / 3) + x % 16) ≠ 0)) := by
  have e : iN m 65 (3 * (x / 16) + k) = s := by unfold iN; rw [h]; exact nI_clamp (by omega)
  have e2 : decide ((10 : Int32) ≤ nI s) = decide (10 ≤ s) := decide_eq_decide.mpr (nI_leI (a := 10) (b := s) (by omega) (by omega))
  simp only [loF]; rw [e, h, e2]
theorem lo_1 {m : aI} {F : Nat → Int32} {x : Nat} (h : F x ≠ 0) : loB m F x = true := by unfold loB; rw [decide_eq_true h]; rfl
theorem lo_2 {m : aI} {F : Nat → Int32} {x k : Nat} (hk : k < 3) (h : loF m F x k = true) : loB m F x = true := by unfold loB; rw [anyB_tr hk h, Bool.or_true]
theorem lo_0 {m : aI} {F : Nat → Int32} {x : Nat} (h : F x = 0) (h2 : ∀ j, j < 3 → loF m F x j = false) : loB m F x = false := by unfold loB; rw [decide_eq_false (not_not_intro h), anyB_f.mpr h2]; rfl
set_option maxRecDepth 100000 in
theorem m_X0_isLeftOut {T : List aT} {I : aI} {J : aJ} {R : aR} (hT : aPT T) (hR : aPR R) {m : aI} {g : Nat} {gq : Nat → Nat} (hG : CGn T I R m g gq) (hg : GW m g) {x : Nat} (hx : x < 16 * g) {F : Nat → Int32} (h39 : ∀ y, y < 64 → I 39 y = F y) : MX0_isLeftOut 0 0 [.ref 38, .int (nI x)] T I J R (aPure (some (.int (bI (loB m F x)))) T I J R) := by
  refine a_met (by decide +kernel) a_le (fun X hC hq => ?_)
  show AW X 0 0 0 [some (.ref 38), some (.int (nI x)), none, none, none] [] T I J R
  have hg4 := hg.g4
  have hty := hg.ty (x / 16) (by omega)
  refine aw_aload_n hC dX0_isLeftOut_0 rfl ?_
  refine aw_getR hC dX0_isLeftOut_1 aF_X0_9 rfl (tg_38 hT) (pr_38_6 hR) ?_
  refine aw_iload_n hC dX0_isLeftOut_4 rfl ?_
  refine aw_baload_k (j := x) hC dX0_isLeftOut_5 (tg_39 hT) (nI_clamp (by omega)) (vp_in_nI (by omega) (by decide)) ?_
  rw [(h39 x (by omega))]
  refine aw_if_eq (tgt := 11) hC dX0_isLeftOut_6 (by decide) (fun h1 => ?_) (fun h1 => ?_)
  · show AW X 0 0 11 [some (.ref 38), some (.int (nI x)), none, none, none] [] T I J R
    refine aw_aload_n hC dX0_isLeftOut_11 rfl ?_
    refine aw_getR hC dX0_isLeftOut_12 aF_X0_19 rfl (tg_38 hT) (pr_38_1 hR) ?_
    refine aw_iload_n hC dX0_isLeftOut_15 rfl ?_
    refine kX0_150 hC rfl (m_X4_generatorOf (I := I) hT hR hG hg (x := x) (by omega)) dX0_isLeftOut_16 (tg_19 hT) rfl a_le a_le a_le a_le a_le rfl aPure_x (aPure_k ?_)
    show AW X 0 0 19 [some (.ref 38), some (.int (nI x)), none, none, none] [.ref (gq (x / 16))] T I J R
    refine aw_astore_n (L2 := [some (.ref 38), some (.int (nI x)), some (.ref (gq (x / 16))), none, none]) hC dX0_isLeftOut_19 rfl (by decide) rfl ?_
    refine aw_iconst (v := 0) hC dX0_isLeftOut_20 (by decide) ?_
    refine aw_istore_n (L2 := [some (.ref 38), some (.int (nI x)), some (.ref (gq (x / 16))), some (.int 0), none]) hC dX0_isLeftOut_21 rfl (by decide) rfl ?_
    have loop : ∀ k, k ≤ 3 → (∀ j, j < k → loF m F x j = false) → AW X 0 0 22 [some (.ref 38), some (.int (nI x)), some (.ref (gq (x / 16))), some (.int (nI k)), none] [] T I J R := by
      refine a_down 3 (fun k hk_k ih_k => ?_)
      intro hno
      refine aw_iload_n hC dX0_isLeftOut_22 rfl ?_
      refine aw_iconst (v := 3) hC dX0_isLeftOut_23 (by decide) ?_
      refine aw_icmp_ge (tgt := 71) hC dX0_isLeftOut_24 (by decide) (fun h2 => ?_) (fun h2 => ?_)
      · show AW X 0 0 71 [some (.ref 38), some (.int (nI x)), some (.ref (gq (x / 16))), some (.int (nI k)), none] [] T I J R
        have h2n : 3 ≤ k := (nI_leI (a := 3) (b := k) (by omega) (by omega)).mp h2
        refine aw_iconst (v := 0) hC dX0_isLeftOut_71 (by decide) ?_
        exact aw_zreturn hC hq rfl (Or.inl rfl) dX0_isLeftOut_72 a_le a_le (aPure_i (by rw [lo_0 (by assumption) (fun j hj => hno j (by omega))]; rfl))
      · show AW X 0 0 27 [some (.ref 38), some (.int (nI x)), some (.ref (gq (x / 16))), some (.int (nI k)), none] [] T I J R
        have h2n : ¬ 3 ≤ k := fun q9 => h2 ((nI_leI (a := 3) (b := k) (by omega) (by omega)).mpr q9)
        refine aw_aload_n hC dX0_isLeftOut_27 rfl ?_
        refine aw_getR hC dX0_isLeftOut_28 aF_X0_154 rfl (hG.tg (by omega)) (hG.r3 (by omega)) ?_
        refine aw_iload_n hC dX0_isLeftOut_31 rfl ?_
        refine aw_iaload_k (j := k) hC dX0_isLeftOut_32 (hG.t2 (by omega)) (nI_clamp (by omega)) (vp_in_nI (by omega) (by decide)) ?_
        rw [(hG.sr (by omega) (by omega))]
        rcases hg.so (3 * (x / 16) + k) (by omega) with e5 | e5
        · rw [show m 65 (3 * (x / 16) + k) = -1 from e5]
          refine aw_istore (L2 := [some (.ref 38), some (.int (nI x)), some (.ref (gq (x / 16))), some (.int (nI k)), some (.int (-1))]) hC dX0_isLeftOut_33 (by decide) rfl ?_
          refine aw_iload hC dX0_isLeftOut_35 rfl ?_
          refine aw_bipush (v := 10) hC dX0_isLeftOut_37 (by decide) ?_
          refine aw_icmp_lt (tgt := 65) hC dX0_isLeftOut_39 (by decide) (fun _ => ?_) (fun h3 => absurd h3 (by decide))
          show AW X 0 0 65 [some (.ref 38), some (.int (nI x)), some (.ref (gq (x / 16))), some (.int (nI k)), some (.int (-1))] [] T I J R
          refine aw_iinc (v := nI (k + 1)) (L2 := [some (.ref 38), some (.int (nI x)), some (.ref (gq (x / 16))), some (.int (nI (k + 1))), some (.int (-1))]) hC dX0_isLeftOut_65 rfl (nI_inc _) (by decide) rfl ?_
          refine aw_goto (tgt := 22) hC dX0_isLeftOut_68 (by decide) ?_
          refine aw_forget 4 (L2 := [some (.ref 38), some (.int (nI x)), some (.ref (gq (x / 16))), some (.int (nI (k + 1))), none]) rfl ?_
          exact ih_k (by omega) (fun j hj => by by_cases e : j = k; (rw [e]; exact lof_m e5); exact hno j (by omega))
        · obtain ⟨s, hs⟩ : ∃ s, s = iN m 65 (3 * (x / 16) + k) := ⟨_, rfl⟩
          have e6 : m 65 (3 * (x / 16) + k) = nI s := by rw [hs]; exact e5.1
          rw [e6]
          have h22 : s < 22 := by rw [hs]; exact e5.2.1
          have hlow : 10 ≤ s → (s - 10) / 3 < x / 16 := fun q => by have := e5.2.2 (by rw [← hs]; exact q); rw [← hs] at this; omega
          have hlf := lof_s (F := F) e6 h22
          refine aw_istore (L2 := [some (.ref 38), some (.int (nI x)), some (.ref (gq (x / 16))), some (.int (nI k)), some (.int (nI s))]) hC dX0_isLeftOut_33 (by decide) rfl ?_
          refine aw_iload hC dX0_isLeftOut_35 rfl ?_
          refine aw_bipush (v := 10) hC dX0_isLeftOut_37 (by decide) ?_
          refine aw_icmp_lt (tgt := 65) hC dX0_isLeftOut_39 (by decide) (fun h4 => ?_) (fun h4 => ?_)
          · show AW X 0 0 65 [some (.ref 38), some (.int (nI x)), some (.ref (gq (x / 16))), some (.int (nI k)), some (.int (nI s))] [] T I J R
            have h4n : s < 10 := (nI_ltI (a := s) (b := 10) (by omega) (by omega)).mp h4
            refine aw_iinc (v := nI (k + 1)) (L2 := [some (.ref 38), some (.int (nI x)), some (.ref (gq (x / 16))), some (.int (nI (k + 1))), some (.int (nI s))]) hC dX0_isLeftOut_65 rfl (nI_inc _) (by decide) rfl ?_
            refine aw_goto (tgt := 22) hC dX0_isLeftOut_68 (by decide) ?_
            refine aw_forget 4 (L2 := [some (.ref 38), some (.int (nI x)), some (.ref (gq (x / 16))), some (.int (nI (k + 1))), none]) rfl ?_
            exact ih_k (by omega) (fun j hj => by by_cases e : j = k; (rw [e]; exact (by rw [hlf]; first | (rw [decide_eq_false (show ¬ 10 ≤ s by omega)]; rfl) | (rw [decide_eq_false (not_not_intro (show F (16 * ((s - 10) / 3) + x % 16) = 0 by assumption)), Bool.and_false]))); exact hno j (by omega))
          · show AW X 0 0 42 [some (.ref 38), some (.int (nI x)), some (.ref (gq (x / 16))), some (.int (nI k)), some (.int (nI s))] [] T I J R
            have h4n : ¬ s < 10 := fun q9 => h4 ((nI_ltI (a := s) (b := 10) (by omega) (by omega)).mpr q9)
            have hlw := hlow (by omega)
            refine aw_aload_n hC dX0_isLeftOut_42 rfl ?_
            refine aw_getR hC dX0_isLeftOut_43 aF_X0_9 rfl (tg_38 hT) (pr_38_6 hR) ?_
            refine aw_bipush (v := 16) hC dX0_isLeftOut_46 (by decide) ?_
            refine aw_iload hC dX0_isLeftOut_48 rfl ?_
            refine kX0_159 hC rfl (m_X4_generatorOfSource (nI s)) dX0_isLeftOut_50 rfl a_le a_le a_le a_le a_le rfl aPure_x (aPure_k ?_)
            show AW X 0 0 53 [some (.ref 38), some (.int (nI x)), some (.ref (gq (x / 16))), some (.int (nI k)), some (.int (nI s))] [.int ((nI s - 10) / 3), .int 16, .ref 39] T I J R
            rw [so_g s (by omega) (by omega)]
            refine aw_imul hC dX0_isLeftOut_53 ?_
            rw [show 16 * (nI ((s - 10) / 3)) = nI (16 * ((s - 10) / 3)) from pk_mul 16 ((s - 10) / 3)]
            refine aw_iload_n hC dX0_isLeftOut_54 rfl ?_
            refine aw_bipush (v := 16) hC dX0_isLeftOut_55 (by decide) ?_
            refine aw_irem hC dX0_isLeftOut_57 (by decide) ?_
            rw [show (nI x) - (nI x) / 16 * 16 = nI (x % 16) from pk_rem (a := x) (d := 16) (by omega) (by decide) (by decide)]
            refine aw_iadd hC dX0_isLeftOut_58 ?_
            rw [show (nI (16 * ((s - 10) / 3))) + (nI (x % 16)) = nI ((16 * ((s - 10) / 3)) + (x % 16)) from nI_add (16 * ((s - 10) / 3)) (x % 16)]
            refine aw_baload_k (j := ((16 * ((s - 10) / 3)) + (x % 16))) hC dX0_isLeftOut_59 (tg_39 hT) (nI_clamp (by omega)) (vp_in_nI (by omega) (by decide)) ?_
            rw [(h39 ((16 * ((s - 10) / 3)) + (x % 16)) (by omega))]
            refine aw_if_eq (tgt := 65) hC dX0_isLeftOut_60 (by decide) (fun h5 => ?_) (fun h5 => ?_)
            · show AW X 0 0 65 [some (.ref 38), some (.int (nI x)), some (.ref (gq (x / 16))), some (.int (nI k)), some (.int (nI s))] [] T I J R
              refine aw_iinc (v := nI (k + 1)) (L2 := [some (.ref 38), some (.int (nI x)), some (.ref (gq (x / 16))), some (.int (nI (k + 1))), some (.int (nI s))]) hC dX0_isLeftOut_65 rfl (nI_inc _) (by decide) rfl ?_
              refine aw_goto (tgt := 22) hC dX0_isLeftOut_68 (by decide) ?_
              refine aw_forget 4 (L2 := [some (.ref 38), some (.int (nI x)), some (.ref (gq (x / 16))), some (.int (nI (k + 1))), none]) rfl ?_
              exact ih_k (by omega) (fun j hj => by by_cases e : j = k; (rw [e]; exact (by rw [hlf]; first | (rw [decide_eq_false (show ¬ 10 ≤ s by omega)]; rfl) | (rw [decide_eq_false (not_not_intro (show F (16 * ((s - 10) / 3) + x % 16) = 0 by assumption)), Bool.and_false]))); exact hno j (by omega))
            · show AW X 0 0 63 [some (.ref 38), some (.int (nI x)), some (.ref (gq (x / 16))), some (.int (nI k)), some (.int (nI s))] [] T I J R
              refine aw_iconst (v := 1) hC dX0_isLeftOut_63 (by decide) ?_
              exact aw_zreturn hC hq rfl (Or.inr rfl) dX0_isLeftOut_64 a_le a_le (aPure_i (by rw [lo_2 (k := k) (by omega) (by rw [hlf, decide_eq_true (show 10 ≤ s by omega), decide_eq_true (show F (16 * ((s - 10) / 3) + x % 16) ≠ 0 by assumption)]; rfl)]; rfl))
    exact loop 0 (Nat.zero_le _) (fun j hj => absurd hj (by omega))
  · show AW X 0 0 9 [some (.ref 38), some (.int (nI x)), none, none, none] [] T I J R
    refine aw_iconst (v := 1) hC dX0_isLeftOut_9 (by decide) ?_
    exact aw_zreturn hC hq rfl (Or.inr rfl) dX0_isLeftOut_10 a_le a_le (aPure_i (by rw [lo_1 (by assumption)]; rfl))
theorem a_tags_6 : ∀ i, i < 44 → a_tags[i]? ≠ some (.inr 6) := by decide +kernel
set_option maxRecDepth 100000 in
theorem m_X0_goOn {T : List aT} {I : aI} {J : aJ} {R : aR} (hT : aPT T) (hR : aPR R) {m : aI} {g : Nat} {gq : Nat → Nat} (hG : CGn T I R m g gq) (hg : GW m g) {F : Nat → Int32} (h39 : ∀ y, y < 64 → I 39 y = F y) {p q M : Nat} (hp3 : R 38 3 = some q) (hqt : T[q]? = some (.inr 6)) (hq2 : R q 2 = some (q + 1)) (hq1 : T[q + 1]? = some (.inl (.int, M))) (hM : M = iN m 79 p) (hac : AcW m p) (hact : ∀ k, k < M → I (q + 1) k = m 80 (128 * p + k)) (hnm : ∀ k, k < M → acN m p k < 16 * g) {a0 : Nat} (hnx0 : I 38 4 = nI a0) (ha0 : a0 + 1 ≤ M) : MX0_goOn 0 0 [.ref 38] T I J R (aRelT (fun v T2 I2 J2 R2 => v = none ∧ T2 = T ∧ J2 = J ∧ ∃ G, (∀ x, x < 64 → G x = (psF m p (M - (a0 + 1)) (a0 + 1) F).2 x) ∧ (if (psF m p (M - (a0 + 1)) (a0 + 1) F).1 = M then I2 = a_u (a_ur (a_u I 38 4 (nI (psF m p (M - (a0 + 1)) (a0 + 1) F).1)) 39 G) 38 0 0 ∧ R2 = a_u R 38 3 none else I2 = a_ur (a_u I 38 4 (nI (psF m p (M - (a0 + 1)) (a0 + 1) F).1)) 39 G ∧ R2 = R))) := by
  refine a_met (by decide +kernel) a_le (fun X hC hq => ?_)
  show AW X 0 0 0 [some (.ref 38)] [] T I J R
  refine aw_aload_n hC dX0_goOn_0 rfl ?_
  refine aw_dup hC dX0_goOn_1 rfl ?_
  refine aw_getI hC dX0_goOn_2 aF_X0_37 rfl (tg_38 hT) ?_
  rw [hnx0]
  refine aw_iconst (v := 1) hC dX0_goOn_5 (by decide) ?_
  refine aw_iadd hC dX0_goOn_6 ?_
  rw [show (nI a0) + 1 = nI (a0 + 1) from nI_add a0 1]
  refine aw_putI hC dX0_goOn_7 aF_X0_37 rfl rfl (tg_38 hT) ?_
  have h95 := a_ge hT hqt a_tags_6
  obtain ⟨Rr, hRr⟩ : ∃ Rr, Rr = (psF m p (M - (a0 + 1)) (a0 + 1) F) := ⟨_, rfl⟩
  have hg4 := hg.g4
  have hM8 : M ≤ 128 := by rw [hM]; exact hac.1
  have hr1 : a0 + 1 ≤ Rr.1 ∧ Rr.1 ≤ a0 + 1 + (M - (a0 + 1)) := by rw [hRr]; exact psF_le m p _ _ _
  have fin : ∀ G : Nat → Int32, (∀ x, x < 64 → G x = Rr.2 x) → AW X 0 0 81 [some (.ref 38)] [] T (a_ur (a_u I 38 4 (nI Rr.1)) 39 G) J R := by
    intro G hGr
    refine aw_aload_n hC dX0_goOn_81 rfl ?_
    refine aw_getI hC dX0_goOn_82 aF_X0_37 rfl (tg_38 hT) ?_
    rw [a_ur_ne (f := a_u I 38 4 (nI Rr.1)) (o := 39) (a := 38) (g := G) (by decide)]
    rw [a_u_self (f := I) (o := 38) (k := 4) (v := nI Rr.1)]
    refine aw_aload_n hC dX0_goOn_85 rfl ?_
    refine aw_getR hC dX0_goOn_86 aF_X0_27 rfl (tg_38 hT) hp3 ?_
    refine aw_getR hC dX0_goOn_89 aF_X0_56 rfl hqt hq2 ?_
    refine aw_alen (v := nI M) hC dX0_goOn_92 hq1 rfl ?_
    refine aw_icmp_lt (tgt := 100) hC dX0_goOn_93 (by decide) (fun h1 => ?_) (fun h1 => ?_)
    · show AW X 0 0 100 [some (.ref 38)] [] T (a_ur (a_u I 38 4 (nI Rr.1)) 39 G) J R
      have h1n : Rr.1 < M := (nI_ltI (a := Rr.1) (b := M) (by omega) (by omega)).mp h1
      exact aw_return hC hq rfl dX0_goOn_100 a_le a_le ⟨_, rfl, rfl, rfl, rfl, G, by rw [← hRr]; exact hGr, by rw [← hRr, if_neg (by omega)]; exact ⟨rfl, rfl⟩⟩
    · show AW X 0 0 96 [some (.ref 38)] [] T (a_ur (a_u I 38 4 (nI Rr.1)) 39 G) J R
      have h1n : ¬ Rr.1 < M := fun q9 => h1 ((nI_ltI (a := Rr.1) (b := M) (by omega) (by omega)).mpr q9)
      refine aw_aload_n hC dX0_goOn_96 rfl ?_
      refine kX0_53 hC rfl (m_X0_end (I := a_ur (a_u I 38 4 (nI Rr.1)) 39 G) hT hR) dX0_goOn_97 (tg_38 hT) rfl a_le a_le a_le a_le a_le rfl aPure_x (aPure_k ?_)
      have hR2 : aPR (a_u R 38 3 none) := hR.put (by decide +kernel)
      show AW X 0 0 100 [some (.ref 38)] [] T (a_u (a_ur (a_u I 38 4 (nI Rr.1)) 39 G) 38 0 0) J (a_u R 38 3 none)
      exact aw_return hC hq rfl dX0_goOn_100 a_le a_le ⟨_, rfl, rfl, rfl, rfl, G, by rw [← hRr]; exact hGr, by rw [← hRr, if_pos (by omega)]; exact ⟨rfl, rfl⟩⟩
  have loop : ∀ (j a : Nat) (F2 G : Nat → Int32), a + j = M → (∀ x, x < 64 → G x = F2 x) → psF m p j a F2 = Rr → AW X 0 0 10 [some (.ref 38)] [] T (a_ur (a_u I 38 4 (nI a)) 39 G) J R := by
    intro j
    induction j with
    | zero =>
      intro a F2 G ha hGr hps
      refine aw_aload_n hC dX0_goOn_10 rfl ?_
      refine aw_getI hC dX0_goOn_11 aF_X0_37 rfl (tg_38 hT) ?_
      rw [a_ur_ne (f := a_u I 38 4 (nI a)) (o := 39) (a := 38) (g := G) (by decide)]
      rw [a_u_self (f := I) (o := 38) (k := 4) (v := nI a)]
      refine aw_aload_n hC dX0_goOn_14 rfl ?_
      refine aw_getR hC dX0_goOn_15 aF_X0_27 rfl (tg_38 hT) hp3 ?_
      refine aw_getR hC dX0_goOn_18 aF_X0_56 rfl hqt hq2 ?_
      refine aw_alen (v := nI M) hC dX0_goOn_21 hq1 rfl ?_
      refine aw_icmp_ge (tgt := 81) hC dX0_goOn_22 (by decide) (fun _ => ?_) (fun h => absurd (nI_le (a := M) (b := a) (by omega) (by omega)) h)
      show AW X 0 0 81 [some (.ref 38)] [] T (a_ur (a_u I 38 4 (nI a)) 39 G) J R
      have e9 : Rr = (a, F2) := hps.symm
      have e8 := fin G (by rw [e9]; exact hGr)
      rw [e9] at e8
      exact e8
    | succ j ih =>
      intro a F2 G ha hGr hps
      have hok := hac.ok (k := a) (by omega)
      have hnx : iN m 80 (128 * p + a) % 100 < 16 * g := hnm a (by omega)
      have hnx64 : iN m 80 (128 * p + a) % 100 < 64 := hok.2.2
      have hG2 : CGn T (a_ur (a_u I 38 4 (nI a)) 39 G) R m g gq := hG.fr hT (fun o ho => by rw [a_ur_ne (by omega), a_u_row (by omega)]) (by rw [a_ur_ne (by decide), a_u_row (by decide)])
      have h392 : ∀ y, y < 64 → (a_ur (a_u I 38 4 (nI a)) 39 G) 39 y = F2 y := fun y hy => by rw [a_ur_self]; exact hGr y hy
      refine aw_aload_n hC dX0_goOn_10 rfl ?_
      refine aw_getI hC dX0_goOn_11 aF_X0_37 rfl (tg_38 hT) ?_
      rw [a_ur_ne (f := a_u I 38 4 (nI a)) (o := 39) (a := 38) (g := G) (by decide)]
      rw [a_u_self (f := I) (o := 38) (k := 4) (v := nI a)]
      refine aw_aload_n hC dX0_goOn_14 rfl ?_
      refine aw_getR hC dX0_goOn_15 aF_X0_27 rfl (tg_38 hT) hp3 ?_
      refine aw_getR hC dX0_goOn_18 aF_X0_56 rfl hqt hq2 ?_
      refine aw_alen (v := nI M) hC dX0_goOn_21 hq1 rfl ?_
      refine aw_icmp_ge (tgt := 81) hC dX0_goOn_22 (by decide) (fun h => absurd ((nI_leI (a := M) (b := a) (by omega) (by omega)).mp h) (by omega)) (fun _ => ?_)
      show AW X 0 0 25 [some (.ref 38)] [] T (a_ur (a_u I 38 4 (nI a)) 39 G) J R
      refine aw_aload_n hC dX0_goOn_25 rfl ?_
      refine aw_aload_n hC dX0_goOn_26 rfl ?_
      refine aw_getR hC dX0_goOn_27 aF_X0_27 rfl (tg_38 hT) hp3 ?_
      refine aw_getR hC dX0_goOn_30 aF_X0_56 rfl hqt hq2 ?_
      refine aw_aload_n hC dX0_goOn_33 rfl ?_
      refine aw_getI hC dX0_goOn_34 aF_X0_37 rfl (tg_38 hT) ?_
      rw [a_ur_ne (f := a_u I 38 4 (nI a)) (o := 39) (a := 38) (g := G) (by decide)]
      rw [a_u_self (f := I) (o := 38) (k := 4) (v := nI a)]
      refine aw_iaload_k (j := a) hC dX0_goOn_37 hq1 (nI_clamp (by omega)) (vp_in_nI (by omega) (by omega)) ?_
      rw [a_ur_ne (f := a_u I 38 4 (nI a)) (o := 39) (a := (q + 1)) (g := G) (show q + 1 ≠ 39 by omega)]
      rw [a_u_ne (f := I) (o := 38) (k := 4) (a := (q + 1)) (b := a) (v := nI a) (fun q9 => absurd q9.1 (show q + 1 ≠ 38 by omega))]
      rw [((hact a (by omega)).trans hok.1)]
      refine aw_bipush (v := 100) hC dX0_goOn_38 (by decide) ?_
      refine aw_irem hC dX0_goOn_40 (by decide) ?_
      rw [show (nI (iN m 80 (128 * p + a))) - (nI (iN m 80 (128 * p + a))) / 100 * 100 = nI ((iN m 80 (128 * p + a)) % 100) from pk_rem (a := (iN m 80 (128 * p + a))) (d := 100) (by omega) (by decide) (by decide)]
      refine kX0_146 hC rfl (m_X0_isLeftOut (I := a_ur (a_u I 38 4 (nI a)) 39 G) hT hR hG2 hg (x := ((iN m 80 (128 * p + a)) % 100)) hnx (F := F2) h392) dX0_goOn_41 (tg_38 hT) rfl a_le a_le a_le a_le a_le rfl aPure_x (aPure_k ?_)
      show AW X 0 0 44 [some (.ref 38)] [.int (bI (loB m F2 ((iN m 80 (128 * p + a)) % 100)))] T (a_ur (a_u I 38 4 (nI a)) 39 G) J R
      refine aw_if_eq (tgt := 81) hC dX0_goOn_44 (by decide) (fun h3 => ?_) (fun h3 => ?_)
      · show AW X 0 0 81 [some (.ref 38)] [] T (a_ur (a_u I 38 4 (nI a)) 39 G) J R
        have e9 : Rr = (a, F2) := psF_n hps (bI_e0.mp (by assumption))
        have e8 := fin G (by rw [e9]; exact hGr)
        rw [e9] at e8
        exact e8
      · show AW X 0 0 47 [some (.ref 38)] [] T (a_ur (a_u I 38 4 (nI a)) 39 G) J R
        refine aw_aload_n hC dX0_goOn_47 rfl ?_
        refine aw_getR hC dX0_goOn_48 aF_X0_9 rfl (tg_38 hT) (pr_38_6 hR) ?_
        refine aw_aload_n hC dX0_goOn_51 rfl ?_
        refine aw_getR hC dX0_goOn_52 aF_X0_27 rfl (tg_38 hT) hp3 ?_
        refine aw_getR hC dX0_goOn_55 aF_X0_56 rfl hqt hq2 ?_
        refine aw_aload_n hC dX0_goOn_58 rfl ?_
        refine aw_getI hC dX0_goOn_59 aF_X0_37 rfl (tg_38 hT) ?_
        rw [a_ur_ne (f := a_u I 38 4 (nI a)) (o := 39) (a := 38) (g := G) (by decide)]
        rw [a_u_self (f := I) (o := 38) (k := 4) (v := nI a)]
        refine aw_iaload_k (j := a) hC dX0_goOn_62 hq1 (nI_clamp (by omega)) (vp_in_nI (by omega) (by omega)) ?_
        rw [a_ur_ne (f := a_u I 38 4 (nI a)) (o := 39) (a := (q + 1)) (g := G) (show q + 1 ≠ 39 by omega)]
        rw [a_u_ne (f := I) (o := 38) (k := 4) (a := (q + 1)) (b := a) (v := nI a) (fun q9 => absurd q9.1 (show q + 1 ≠ 38 by omega))]
        rw [((hact a (by omega)).trans hok.1)]
        refine aw_bipush (v := 100) hC dX0_goOn_63 (by decide) ?_
        refine aw_irem hC dX0_goOn_65 (by decide) ?_
        rw [show (nI (iN m 80 (128 * p + a))) - (nI (iN m 80 (128 * p + a))) / 100 * 100 = nI ((iN m 80 (128 * p + a)) % 100) from pk_rem (a := (iN m 80 (128 * p + a))) (d := 100) (by omega) (by decide) (by decide)]
        refine aw_iconst (v := 1) hC dX0_goOn_66 (by decide) ?_
        refine aw_bastore_k (j := ((iN m 80 (128 * p + a)) % 100)) hC dX0_goOn_67 (tg_39 hT) (nI_clamp (by omega)) (vp_in_nI (by omega) (by decide)) (Or.inr rfl) ?_
        refine aw_aload_n hC dX0_goOn_68 rfl ?_
        refine aw_dup hC dX0_goOn_69 rfl ?_
        refine aw_getI hC dX0_goOn_70 aF_X0_37 rfl (tg_38 hT) ?_
        rw [a_u_ne (f := a_ur (a_u I 38 4 (nI a)) 39 G) (o := 39) (k := ((iN m 80 (128 * p + a)) % 100)) (a := 38) (b := 4) (v := 1) (fun q => absurd q.1 (by decide))]
        rw [a_ur_ne (f := a_u I 38 4 (nI a)) (o := 39) (a := 38) (g := G) (by decide)]
        rw [a_u_self (f := I) (o := 38) (k := 4) (v := nI a)]
        refine aw_iconst (v := 1) hC dX0_goOn_73 (by decide) ?_
        refine aw_iadd hC dX0_goOn_74 ?_
        rw [show (nI a) + 1 = nI (a + 1) from nI_add a 1]
        refine aw_putI hC dX0_goOn_75 aF_X0_37 rfl rfl (tg_38 hT) ?_
        refine aw_goto (tgt := 10) hC dX0_goOn_78 (by decide) ?_
        rw [show a_u (a_u (a_ur (a_u I 38 4 (nI a)) 39 G) 39 ((iN m 80 (128 * p + a)) % 100) 1) 38 4 (nI (a + 1)) = a_ur (a_u I 38 4 (nI (a + 1))) 39 (fun j => if j = acN m p a then 1 else G j) from by rw [a_ur_put, a_u_swap (by decide), a_u_2]]
        exact ih (a + 1) _ _ (by omega) (fun x hx => by by_cases e : x = acN m p a; (rw [if_pos e, if_pos e]); (rw [if_neg e, if_neg e]; exact hGr x hx)) (psF_y hps (bI_n0.mp (by assumption)))
  rw [show a_u I 38 4 (nI (a0 + 1)) = a_ur (a_u I 38 4 (nI (a0 + 1))) 39 (I 39) from (a_ur_id (fun j => by rw [a_u_row (by decide)])).symm]
  exact loop (M - (a0 + 1)) (a0 + 1) F (I 39) (by omega) h39 hRr.symm
