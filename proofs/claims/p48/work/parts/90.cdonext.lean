set_option maxRecDepth 100000 in
theorem m_X0_doNext {T : List aT} {I : aI} {J : aJ} {R : aR} (hT : aPT T) (hR : aPR R) {m : aI} {g r : Nat} {gq eq : Nat → Nat} (hC9 : CEst T I R m g gq eq r) (hinv : InvR m g) (hs2 : InvS m g) {mj : aJ} (hV : CFo I m mj) {pq : Nat → Nat} {p a x wh M hw : Nat} (hAp : CAp I R m pq) (hp : m 44 43 = nI p) (hp40 : p < 40) (hqt : T[pq p]? = some (.inr 6)) (hq2 : R (pq p) 2 = some (pq p + 1)) (hq1 : T[pq p + 1]? = some (.inl (.int, M))) (hM : M = iN m 79 p) (hac : AcW m p) (hact : ∀ k, k < M → I (pq p + 1) k = m 80 (128 * p + k)) (hnm : ∀ k, k < M → acN m p k < 16 * g) (hna : m 44 44 = nI a) (ha : a < M) (hx9 : x = acN m p a) (hwh : wh = iN m 80 (128 * p + a) / 100) (hwh4 : 1 ≤ wh ∧ wh ≤ 4) (h82 : wh = 1 → m 82 x = 0) (h69 : wh = 2 ∨ wh = 3 → m 69 x ≠ 0) (hmd : NR m 74 64 61) (hN69 : ∀ y, y < 64 → m 69 y ≠ 0 → iN m 69 y ≤ r) (h82r : ∀ y, y < 64 → m 82 y = nI (iN m 82 y) ∧ iN m 82 y ≤ r) (h81 : B01 m 81) (hhw : hw < 3) : MX0_doNext 3 11 [.ref 38, .int (nI hw)] T I J R (aRelT (fun v T2 I2 J2 R2 => v = some (.int (nI (iN m 80 (128 * p + a)))) ∧ J2 = J ∧ DnP T I R m mj g gq pq x wh hw r p a T2 I2 R2)) := by
  refine a_met (by decide +kernel) a_le (fun X hC hq => ?_)
  show AW X 0 0 0 [some (.ref 38), some (.int (nI hw)), none, none, none, none] [] T I J R
  have hg4 := hinv.1.g4
  have hx : x < 16 * g := by rw [hx9]; exact hnm a ha
  have hM8 : M ≤ 128 := by rw [hM]; exact hac.1
  have hok := hac.ok (k := a) (by omega)
  have hA0 := (hact a ha).trans hok.1
  have hxa : (iN m 80 (128 * p + a)) % 100 = x := hx9.symm
  have hnx0 : I 38 4 = nI a := (hAp.2.1 p hp40 hp).2.1.trans hna
  refine aw_aload_n hC dX0_doNext_0 rfl ?_
  refine aw_getR hC dX0_doNext_1 aF_X0_27 rfl (tg_38 hT) (hAp.2.1 p hp40 hp).1 ?_
  refine aw_getR hC dX0_doNext_4 aF_X0_56 rfl hqt hq2 ?_
  refine aw_aload_n hC dX0_doNext_7 rfl ?_
  refine aw_getI hC dX0_doNext_8 aF_X0_37 rfl (tg_38 hT) ?_
  rw [hnx0]
  refine aw_iaload_k (j := a) hC dX0_doNext_11 hq1 (nI_clamp (by omega)) (vp_in_nI (by omega) (by omega)) ?_
  rw [hA0]
  refine aw_istore_n (L2 := [some (.ref 38), some (.int (nI hw)), some (.int (nI (iN m 80 (128 * p + a)))), none, none, none]) hC dX0_doNext_12 rfl (by decide) rfl ?_
  refine aw_iload_n hC dX0_doNext_13 rfl ?_
  refine aw_bipush (v := 100) hC dX0_doNext_14 (by decide) ?_
  refine aw_idiv hC dX0_doNext_16 (by decide) ?_
  rw [show (nI (iN m 80 (128 * p + a))) / 100 = nI ((iN m 80 (128 * p + a)) / 100) from pk_div (a := (iN m 80 (128 * p + a))) (d := 100) (by omega) (by decide) (by decide)]
  rw [← hwh]
  refine aw_istore_n (L2 := [some (.ref 38), some (.int (nI hw)), some (.int (nI (iN m 80 (128 * p + a)))), some (.int (nI wh)), none, none]) hC dX0_doNext_17 rfl (by decide) rfl ?_
  refine aw_iload_n hC dX0_doNext_18 rfl ?_
  refine aw_bipush (v := 100) hC dX0_doNext_19 (by decide) ?_
  refine aw_irem hC dX0_doNext_21 (by decide) ?_
  rw [show (nI (iN m 80 (128 * p + a))) - (nI (iN m 80 (128 * p + a))) / 100 * 100 = nI ((iN m 80 (128 * p + a)) % 100) from pk_rem (a := (iN m 80 (128 * p + a))) (d := 100) (by omega) (by decide) (by decide)]
  rw [hxa]
  refine aw_istore (L2 := [some (.ref 38), some (.int (nI hw)), some (.int (nI (iN m 80 (128 * p + a)))), some (.int (nI wh)), some (.int (nI x)), none]) hC dX0_doNext_22 (by decide) rfl ?_
  refine aw_aload_n hC dX0_doNext_24 rfl ?_
  refine aw_getR hC dX0_doNext_25 aF_X0_23 rfl (tg_38 hT) (pr_38_2 hR) ?_
  refine kX0_59 hC rfl (m_X2_lookAtAll (I := I) hT hR hC9.gn hinv.1 hC9.ty hC9.en hV hinv.2.1) dX0_doNext_28 (tg_33 hT) rfl a_le a_le a_le a_le a_le rfl aRelV_x (aRelV_k (fun v9 I9 J9 hQ => ?_))
  obtain ⟨ev9, eJ9, G, N, e9, hLk⟩ := hQ
  rw [ev9, eJ9, e9]
  obtain ⟨I1, hI1⟩ : ∃ I1, I1 = a_ur (a_ur I 34 G) 36 N := ⟨_, rfl⟩
  rw [← hI1]
  obtain ⟨m1, hm1⟩ : ∃ m1, m1 = a_ur m 91 N := ⟨_, rfl⟩
  have hLo : ∀ o, o ≠ 34 → o ≠ 36 → I1 o = I o := fun o u v => by rw [hI1, a_ur_ne v, a_ur_ne u]
  have hmo : ∀ o, o ≠ 91 → m1 o = m o := fun o u => by rw [hm1, a_ur_ne u]
  have hC1 : CEst T I1 R m1 g gq eq r := (hC9.fr hT (List.prefix_refl _) (fun o u v => hLo o (by omega) (by omega)) (fun o u v => by have h95 : 44 ≤ o := (by rcases v with v | v | v; (exact Nat.le_of_not_lt (fun z => enO_lo hT z v)); (exact a_ge hT v a_tags_5); (obtain ⟨q, u1, u2, u3⟩ := v; have := a_ge hT u3 a_tags_5; omega)); exact ⟨hLo o (by omega) (by omega), rfl⟩) rfl rfl).cgm (fun o u v => hmo o (by omega)) (by rw [hmo 44 (by decide)]) (by rw [hmo 44 (by decide)])
  have hinv1 : InvR m1 g := by rw [hm1]; exact hinv.m91
  have hs21 : InvS m1 g := by rw [hm1]; exact hs2.m91
  have hGv1 : ∀ c, c < 3 → I1 34 (3 * x + c) = sGives m1 mj x c := fun c hc => by rw [hI1, a_ur_ne (by decide), a_ur_self, hm1]; exact (hLk x (by omega)).2 c hc
  have hr60 := hC9.rs.r60
  have h401 : ∀ y, y < 64 → I1 40 y = m1 82 y - 1 := fun y hy => by rw [hLo 40 (by decide) (by decide), hmo 82 (by decide)]; exact (hAp.2.1 p hp40 hp).2.2.2 y hy
  show AW X 0 0 31 [some (.ref 38), some (.int (nI hw)), some (.int (nI (iN m 80 (128 * p + a)))), some (.int (nI wh)), some (.int (nI x)), none] [] T I1 J R
  refine aw_aload_n hC dX0_doNext_31 rfl ?_
  refine aw_iload_n hC dX0_doNext_32 rfl ?_
  refine aw_iload hC dX0_doNext_33 rfl ?_
  refine kX0_64 hC rfl (m_X0_isAble (I := I1) hT hR (wh := wh) (x := x) (r := r) (by omega) (by omega) hC1.rs.cnt hr60) dX0_doNext_35 (tg_38 hT) rfl a_le a_le a_le a_le a_le rfl aPure_x (aPure_k ?_)
  show AW X 0 0 38 [some (.ref 38), some (.int (nI hw)), some (.int (nI (iN m 80 (128 * p + a)))), some (.int (nI wh)), some (.int (nI x)), none] [.int (bI (abV I1 wh x r))] T I1 J R
  obtain ⟨ab, hab⟩ : ∃ ab, abV I1 wh x r = ab := ⟨_, rfl⟩
  rw [hab]
  have hcan : canB m1 mj x wh r = ab := by rw [← hab]; exact (ab_can hinv1 hs21 hx hr60 hwh4 hGv1 (fun z => by rw [hmo 69 (by decide)]; exact h69 (Or.inl z))).symm
  have hd1 : (doS m1 mj x wh hw r).1 = (ab && !decide (hw = 1)) := by
    cases ab with
    | false => rw [dn_no hcan]; rfl
    | true => by_cases c : hw ≠ 1 ∨ wh = 1; (rw [dn_y hcan c]; rfl); (rw [dn_f (fun z => c (Or.inr z)) (Decidable.not_not.mp (fun z => c (Or.inl z))), decide_eq_true (show hw = 1 from Decidable.not_not.mp (fun z => c (Or.inl z)))]; rfl)
  refine aw_istore (L2 := [some (.ref 38), some (.int (nI hw)), some (.int (nI (iN m 80 (128 * p + a)))), some (.int (nI wh)), some (.int (nI x)), some (.int (bI ab))]) hC dX0_doNext_38 (by decide) rfl ?_
  have join99 : ∀ (r3 : Nat) (T3 : List aT) (I3 : aI) (R3 : aR), T <+: T3 → AcP T I1 R (doS m1 mj x wh hw r).2 g gq r3 T3 I3 R3 → ∀ I4 : aI, (∀ y, y < 64 → I4 39 y = stF m1 mj x wh hw r a 81 y) → (∀ o, o ≠ 39 → I4 o = I3 o) → AW X (0 + 3) (0 + 11) 99 [some (.ref 38), some (.int (nI hw)), some (.int (nI (iN m 80 (128 * p + a)))), none, none, none] [] T3 I4 J R3 := by
    intro r3 T3 I3 R3 hp3 hAc I4 hF4 h4o
    obtain ⟨eq3, hc3⟩ := hAc.1
    have hR3 := hAc.2.2.2.1
    have h95 := hT.len
    have r38 : R3 38 = R 38 := hAc.2.2.1 38 (by omega) (enO_lo hT (by decide)) (by decide)
    refine aw_iload_n hC dX0_doNext_99 rfl ?_
    refine aw_iconst (v := 2) hC dX0_doNext_100 (by decide) ?_
    refine aw_icmp_ne (tgt := 112) hC dX0_doNext_101 (by decide) (fun h1 => ?_) (fun h1 => ?_)
    · show AW X (0 + 3) (0 + 11) 112 [some (.ref 38), some (.int (nI hw)), some (.int (nI (iN m 80 (128 * p + a)))), none, none, none] [] T3 I4 J R3
      have h1n : ¬ hw = 2 := fun q9 => h1 ((nI_eq (a := hw) (b := 2) (by omega) (by omega)).mpr q9)
      have fso : ∀ o, o = 79 ∨ o = 80 ∨ o = 65 ∨ o = 62 ∨ o = 61 ∨ o = 63 ∨ o = 64 → stF m1 mj x wh hw r a o = m o := fun o z => by rw [stF_fr (by omega) (by omega), hmo o (by omega)]
      have hMs : M = iN (stF m1 mj x wh hw r a) 79 p := by rw [hM]; unfold iN; rw [fso 79 (by omega)]
      have hacs : AcW (stF m1 mj x wh hw r a) p := AcW_cg (fso 79 (by omega)) (fso 80 (by omega)) hac
      have hG4 : CGn T3 I4 R3 (stF m1 mj x wh hw r a) g gq := ((hc3.gn.fr (hT.next hp3) (fun o u => h4o o (by omega)) (by rw [h4o 19 (by decide)])).cgm (by rw [stF_o (by decide) (by decide)]) (by rw [stF_o (by decide) (by decide)]) (by rw [stF_o (by decide) (by decide)]) (by rw [stF_o (by decide) (by decide)]))
      have hg4s : GW (stF m1 mj x wh hw r a) g := ⟨hinv.1.g4, by rw [stF_44 (by decide) (by decide) (by decide), hmo 44 (by decide)]; exact hinv.1.gn, SO3_cg (fso 65 (by omega)) hinv.1.so, NR_cg (fso 62 (by omega)) hinv.1.ty, NR_cg (fso 61 (by omega)) hinv.1.up, NR_cg (fso 63 (by omega)) hinv.1.ks, fun y => by rw [stF_o (by decide) (by decide)]; exact doS_71 hinv1.1.bd y⟩
      have hAp1 := hAp.2.1 p hp40 hp
      have lq := a_rel_lt hqt
      have lq1 := a_rel_lt hq1
      have hq95 := a_ge hT hqt a_tags_6
      have hact4 : ∀ k, k < M → I4 (pq p + 1) k = (stF m1 mj x wh hw r a) 80 (128 * p + k) := fun k hk => by rw [h4o _ (by omega), hAc.2.1 (pq p + 1) lq1 (enO_ar hqt (by decide) hq1) (by omega), hLo _ (by omega) (by omega), fso 80 (by omega)]; exact hact k hk
      have hacn : ∀ k, acN (stF m1 mj x wh hw r a) p k = acN m p k := fun k => by unfold acN iN; rw [fso 80 (by omega)]
      refine aw_aload_n hC dX0_doNext_112 rfl ?_
      refine kX0_77 hC rfl (m_X0_goOn (I := I4) (m := stF m1 mj x wh hw r a) (J := J) (T := T3) (R := R3) (hT.next hp3) hR3 hG4 hg4s (F := (stF m1 mj x wh hw r a) 81) hF4 (p := p) (q := pq p) (M := M) (by rw [r38]; exact hAp1.1) (a_pfx hp3 hqt) (by rw [hAc.2.2.1 (pq p) lq (enO_ob hqt (by decide)) (by omega)]; exact hq2) (a_pfx hp3 hq1) hMs hacs hact4 (fun k hk => by rw [hacn]; exact hnm k hk) (a0 := a) (by rw [h4o 38 (by decide), hAc.2.1 38 (by omega) (enO_lo hT (by decide)) (by decide), hLo 38 (by decide) (by decide), hAp1.2.1]; exact hna) (by omega)) dX0_doNext_113 (tg_38 (hT.next hp3)) rfl a_le a_le a_le a_le a_le rfl aRelT_x (aRelT_k (fun v9 T9 I9 J9 R9 hp9 hQ => ?_))
      obtain ⟨ev9, hT9, hJ9, G9, hG9, hQ9⟩ := hQ
      rw [ev9, hJ9, hT9]
      show AW X (0 + 3) (0 + 11) 116 [some (.ref 38), some (.int (nI hw)), some (.int (nI (iN m 80 (128 * p + a)))), none, none, none] [] T3 I9 J R9
      refine aw_iload_n hC dX0_doNext_116 rfl ?_
      exact aw_ireturn hC hq rfl dX0_doNext_117 a_le a_le ⟨_, rfl, rfl, rfl, N, fun y hy => (hLk y hy).1, by rw [← hm1]; exact dn_f2 hT hp3 hAc h4o hLo (by omega) (by unfold CAp; rw [hmo 44 (by decide), hmo 81 (by decide), hmo 82 (by decide)]; exact hAp) hp40 (by rw [hmo 44 (by decide)]; exact hp) hMs (by by_cases c : (psF (stF m1 mj x wh hw r a) p (M - (a + 1)) (a + 1) ((stF m1 mj x wh hw r a) 81)).1 = M; (rw [if_pos c] at hQ9; rw [hQ9.2]; exact hR3.put (by decide +kernel)); (rw [if_neg c] at hQ9; rw [hQ9.2]; exact hR3)) hG9 hQ9⟩
    · show AW X (0 + 3) (0 + 11) 104 [some (.ref 38), some (.int (nI hw)), some (.int (nI (iN m 80 (128 * p + a)))), none, none, none] [] T3 I4 J R3
      have h1n : hw = 2 := (nI_eq (a := hw) (b := 2) (by omega) (by omega)).mp h1
      refine aw_aload_n hC dX0_doNext_104 rfl ?_
      refine aw_null hC dX0_doNext_105 ?_
      refine aw_putN hC dX0_doNext_106 aF_X0_27 rfl rfl (tg_38 (hT.next hp3)) ?_
      have hR2 : aPR (a_u R3 38 3 none) := hR3.put (by decide +kernel)
      refine aw_goto (tgt := 116) hC dX0_doNext_109 (by decide) ?_
      refine aw_iload_n hC dX0_doNext_116 rfl ?_
      exact aw_ireturn hC hq rfl dX0_doNext_117 a_le a_le ⟨_, rfl, rfl, rfl, N, fun y hy => (hLk y hy).1, by rw [← hm1]; exact dn_f1 hT hp3 hAc h4o hLo (by omega) (by unfold CAp; rw [hmo 44 (by decide), hmo 81 (by decide), hmo 82 (by decide)]; exact hAp) (by assumption)⟩
  have join81 : ∀ (r3 : Nat) (T3 : List aT) (I3 : aI) (R3 : aR), T <+: T3 → AcP T I1 R (doS m1 mj x wh hw r).2 g gq r3 T3 I3 R3 → AW X (0 + 3) (0 + 11) 81 [some (.ref 38), some (.int (nI hw)), some (.int (nI (iN m 80 (128 * p + a)))), none, some (.int (nI x)), some (.int (bI ab))] [] T3 I3 J R3 := by
    intro r3 T3 I3 R3 hp3 hAc
    obtain ⟨eq3, hc3⟩ := hAc.1
    have hR3 := hAc.2.2.2.1
    have h95 := hT.len
    have r38 : R3 38 = R 38 := hAc.2.2.1 38 (by omega) (enO_lo hT (by decide)) (by decide)
    have e39 : ∀ y, y < 64 → I3 39 y = m1 81 y := fun y hy => by rw [hAc.2.1 39 (by omega) (enO_lo hT (by decide)) (by decide), hLo 39 (by decide) (by decide), hmo 81 (by decide)]; exact (hAp.2.1 p hp40 hp).2.2.1 y hy
    have hb81 : B01 m1 81 := fun y => by rw [hmo 81 (by decide)]; exact h81 y
    refine aw_iload hC dX0_doNext_81 rfl ?_
    cases hb2 : ab with
    | true =>
      refine aw_if_eq (tgt := 91) hC dX0_doNext_83 (by decide) (fun h => absurd h (by decide)) (fun _ => ?_)
      refine aw_forget 5 (L2 := [some (.ref 38), some (.int (nI hw)), some (.int (nI (iN m 80 (128 * p + a)))), none, some (.int (nI x)), none]) rfl ?_
      show AW X (0 + 3) (0 + 11) 86 [some (.ref 38), some (.int (nI hw)), some (.int (nI (iN m 80 (128 * p + a)))), none, some (.int (nI x)), none] [] T3 I3 J R3
      refine aw_iload_n hC dX0_doNext_86 rfl ?_
      refine aw_iconst (v := 1) hC dX0_doNext_87 (by decide) ?_
      refine aw_icmp_ne (tgt := 99) hC dX0_doNext_88 (by decide) (fun h3 => ?_) (fun h3 => ?_)
      · show AW X (0 + 3) (0 + 11) 99 [some (.ref 38), some (.int (nI hw)), some (.int (nI (iN m 80 (128 * p + a)))), none, some (.int (nI x)), none] [] T3 I3 J R3
        have h3n : ¬ hw = 1 := fun q9 => h3 ((nI_eq (a := hw) (b := 1) (by omega) (by omega)).mpr q9)
        refine aw_forget 4 (L2 := [some (.ref 38), some (.int (nI hw)), some (.int (nI (iN m 80 (128 * p + a)))), none, none, none]) rfl ?_
        exact join99 r3 T3 I3 R3 hp3 hAc I3 (fun y hy => by rw [e39 y hy, stF_81v, hd1, hb2, decide_eq_false (show ¬ hw = 1 by omega)]; by_cases c : y = x; (rw [if_pos c, c]; show m1 81 x = bI (decide (m1 81 x ≠ 0) || false); rw [Bool.or_false]; exact b01_bI (hb81 x)); (rw [if_neg c])) (fun _ _ => rfl)
      · show AW X (0 + 3) (0 + 11) 91 [some (.ref 38), some (.int (nI hw)), some (.int (nI (iN m 80 (128 * p + a)))), none, some (.int (nI x)), none] [] T3 I3 J R3
        have h3n : hw = 1 := (nI_eq (a := hw) (b := 1) (by omega) (by omega)).mp h3
        refine aw_aload_n hC dX0_doNext_91 rfl ?_
        refine aw_getR hC dX0_doNext_92 aF_X0_9 rfl (tg_38 (hT.next hp3)) (pr_38_6 hR3) ?_
        refine aw_iload hC dX0_doNext_95 rfl ?_
        refine aw_iconst (v := 1) hC dX0_doNext_97 (by decide) ?_
        refine aw_bastore_k (j := x) hC dX0_doNext_98 (tg_39 (hT.next hp3)) (nI_clamp (by omega)) (vp_in_nI (by omega) (by decide)) (Or.inr rfl) ?_
        refine aw_forget 4 (L2 := [some (.ref 38), some (.int (nI hw)), some (.int (nI (iN m 80 (128 * p + a)))), none, none, none]) rfl ?_
        exact join99 r3 T3 I3 R3 hp3 hAc _ (fun y hy => by rw [stF_81v, hd1]; by_cases c : y = x; (rw [if_pos c, c, a_u_self]; first | (rw [hb2]; show (1 : Int32) = bI (decide (m1 81 x ≠ 0) || true); rw [Bool.or_true]; rfl) | (rw [decide_eq_true (show hw = 1 by omega), Bool.not_true, Bool.and_false]; show (1 : Int32) = bI (decide (m1 81 x ≠ 0) || true); rw [Bool.or_true]; rfl)); (rw [if_neg c, a_u_ne (fun z => c z.2)]; exact e39 y hy)) (fun o ho => a_u_row ho)
    | false =>
      refine aw_if_eq (tgt := 91) hC dX0_doNext_83 (by decide) (fun _ => ?_) (fun h => absurd rfl h)
      refine aw_forget 5 (L2 := [some (.ref 38), some (.int (nI hw)), some (.int (nI (iN m 80 (128 * p + a)))), none, some (.int (nI x)), none]) rfl ?_
      show AW X (0 + 3) (0 + 11) 91 [some (.ref 38), some (.int (nI hw)), some (.int (nI (iN m 80 (128 * p + a)))), none, some (.int (nI x)), none] [] T3 I3 J R3
      refine aw_aload_n hC dX0_doNext_91 rfl ?_
      refine aw_getR hC dX0_doNext_92 aF_X0_9 rfl (tg_38 (hT.next hp3)) (pr_38_6 hR3) ?_
      refine aw_iload hC dX0_doNext_95 rfl ?_
      refine aw_iconst (v := 1) hC dX0_doNext_97 (by decide) ?_
      refine aw_bastore_k (j := x) hC dX0_doNext_98 (tg_39 (hT.next hp3)) (nI_clamp (by omega)) (vp_in_nI (by omega) (by decide)) (Or.inr rfl) ?_
      refine aw_forget 4 (L2 := [some (.ref 38), some (.int (nI hw)), some (.int (nI (iN m 80 (128 * p + a)))), none, none, none]) rfl ?_
      exact join99 r3 T3 I3 R3 hp3 hAc _ (fun y hy => by rw [stF_81v, hd1]; by_cases c : y = x; (rw [if_pos c, c, a_u_self]; first | (rw [hb2]; show (1 : Int32) = bI (decide (m1 81 x ≠ 0) || true); rw [Bool.or_true]; rfl) | (rw [decide_eq_true (show hw = 1 by omega), Bool.not_true, Bool.and_false]; show (1 : Int32) = bI (decide (m1 81 x ≠ 0) || true); rw [Bool.or_true]; rfl)); (rw [if_neg c, a_u_ne (fun z => c z.2)]; exact e39 y hy)) (fun o ho => a_u_row ho)
  by_cases hb : ab = true
  · show AW X 0 0 40 [some (.ref 38), some (.int (nI hw)), some (.int (nI (iN m 80 (128 * p + a)))), some (.int (nI wh)), some (.int (nI x)), some (.int (bI ab))] [] T I1 J R
    refine aw_iload hC dX0_doNext_40 rfl ?_
    refine aw_if_eq (tgt := 81) hC dX0_doNext_42 (by decide) (fun h => absurd h (by rw [hb]; decide)) (fun _ => ?_)
    show AW X 0 0 45 [some (.ref 38), some (.int (nI hw)), some (.int (nI (iN m 80 (128 * p + a)))), some (.int (nI wh)), some (.int (nI x)), some (.int (bI ab))] [] T I1 J R
    refine aw_iload_n hC dX0_doNext_45 rfl ?_
    refine aw_iconst (v := 1) hC dX0_doNext_46 (by decide) ?_
    refine aw_icmp_ne (tgt := 55) hC dX0_doNext_47 (by decide) (fun h4 => ?_) (fun h4 => ?_)
    · show AW X 0 0 55 [some (.ref 38), some (.int (nI hw)), some (.int (nI (iN m 80 (128 * p + a)))), some (.int (nI wh)), some (.int (nI x)), some (.int (bI ab))] [] T I1 J R
      have h4n : ¬ hw = 1 := fun q9 => h4 ((nI_eq (a := hw) (b := 1) (by omega) (by omega)).mpr q9)
      refine aw_aload_n hC dX0_doNext_55 rfl ?_
      refine aw_iload_n hC dX0_doNext_56 rfl ?_
      refine aw_iload hC dX0_doNext_57 rfl ?_
      refine aw_iload_n hC dX0_doNext_59 rfl ?_
      have hwh1 : wh = 1 ∨ wh = 2 ∨ wh = 3 ∨ wh = 4 := by omega
      rcases hwh1 with e1 | e1 | e1 | e1
      · rw [show nI wh = 1 from by rw [e1]; rfl]
        have hr59 : r < 60 := by have z := hcan.trans hb; unfold canB at z; rw [if_pos e1, Bool.and_eq_true, decide_eq_true_eq] at z; omega
        show AW X 0 0 60 [some (.ref 38), some (.int (nI hw)), some (.int (nI (iN m 80 (128 * p + a)))), some (.int 1), some (.int (nI x)), some (.int (bI ab))] [.int (nI hw), .int (nI x), .int 1, .ref 38] T I1 J R
        refine kX0_68 hC rfl (m_X0_act1 (I := I1) hT hR hC1 hinv1 hx hhw hGv1 h401 hr59 (by unfold iN; rw [hmo 74 (by decide)]; exact (hmd x (by omega)).1) (by unfold iN; rw [hmo 74 (by decide)]; have := (hmd x (by omega)).2; unfold iN at this; omega) (by rw [hmo 82 (by decide)]; exact h82 e1)) dX0_doNext_60 (tg_38 hT) rfl a_le a_le a_le a_le a_le rfl aRelT_x (aRelT_k (fun v9 T9 I9 J9 R9 hp9 hQ => ?_))
        obtain ⟨ev9, hJ9, hAc9⟩ := hQ
        rw [ev9, hJ9]
        have hAc : AcP T I1 R (acS m1 mj x wh hw r) g gq (r + 1) T9 I9 R9 := by unfold acS; rw [if_pos e1]; exact hAc9
        have hR9 := hAc.2.2.2.1
        have hp9b := hp9
        obtain ⟨eq9, hce9⟩ := hAc.1
        have hs35 : I9 19 8 = m1 44 35 := by rw [hce9.sr]; exact acS_35
        show AW X (0 + 3) (0 + 11) 63 [some (.ref 38), some (.int (nI hw)), some (.int (nI (iN m 80 (128 * p + a)))), some (.int 1), some (.int (nI x)), some (.int (bI ab))] [] T9 I9 J R9
        refine aw_iload_n hC dX0_doNext_63 rfl ?_
        refine aw_iconst (v := 2) hC dX0_doNext_64 (by decide) ?_
        refine aw_icmp_eq (tgt := 81) hC dX0_doNext_65 (by decide) (fun h5 => ?_) (fun h5 => ?_)
        · show AW X (0 + 3) (0 + 11) 81 [some (.ref 38), some (.int (nI hw)), some (.int (nI (iN m 80 (128 * p + a)))), some (.int 1), some (.int (nI x)), some (.int (bI ab))] [] T9 I9 J R9
          have h5n : hw = 2 := (nI_eq (a := hw) (b := 2) (by omega) (by omega)).mp h5
          refine aw_forget 3 (L2 := [some (.ref 38), some (.int (nI hw)), some (.int (nI (iN m 80 (128 * p + a)))), none, some (.int (nI x)), some (.int (bI ab))]) rfl ?_
          exact join81 _ T9 I9 R9 hp9b (hAc.same (by rw [dn_y (hcan.trans hb) (by omega)]; show a_u (acS m1 mj x wh hw r) 44 35 (m1 44 35 + (if hw = 2 then 0 else 1)) = acS m1 mj x wh hw r; exact a_u_same (by rw [acS_35, if_pos (show hw = 2 by omega), Int32.add_zero])))
        · show AW X (0 + 3) (0 + 11) 68 [some (.ref 38), some (.int (nI hw)), some (.int (nI (iN m 80 (128 * p + a)))), some (.int 1), some (.int (nI x)), some (.int (bI ab))] [] T9 I9 J R9
          have h5n : ¬ hw = 2 := fun q9 => h5 ((nI_eq (a := hw) (b := 2) (by omega) (by omega)).mpr q9)
          refine aw_aload_n hC dX0_doNext_68 rfl ?_
          refine aw_getR hC dX0_doNext_69 aF_X0_19 rfl (tg_38 (hT.next hp9b)) (pr_38_1 hR9) ?_
          refine aw_dup hC dX0_doNext_72 rfl ?_
          refine aw_getI hC dX0_doNext_73 aF_X0_72 rfl (tg_19 (hT.next hp9b)) ?_
          rw [hs35]
          refine aw_iconst (v := 1) hC dX0_doNext_76 (by decide) ?_
          refine aw_iadd hC dX0_doNext_77 ?_
          refine aw_putI hC dX0_doNext_78 aF_X0_72 rfl rfl (tg_19 (hT.next hp9b)) ?_
          refine aw_forget 3 (L2 := [some (.ref 38), some (.int (nI hw)), some (.int (nI (iN m 80 (128 * p + a)))), none, some (.int (nI x)), some (.int (bI ab))]) rfl ?_
          exact join81 _ T9 _ R9 hp9b ((hAc.srl (v := m1 44 35 + 1) hT hp9b).same (by rw [dn_y (hcan.trans hb) (by omega), if_neg (show ¬ hw = 2 by omega)]))
      · rw [show nI wh = 2 from by rw [e1]; rfl]
        obtain ⟨r1, hr1, hr2, hr3, hr4⟩ := hinv1.2.2.1.re (show x < 64 by omega) (by rw [hmo 69 (by decide)]; exact h69 (by omega))
        have hr5 : r1 < r := by have z := hN69 x (by omega) (h69 (by omega)); have z2 : iN m 69 x = r1 + 1 := (by rw [show iN m 69 x = iN m1 69 x from by unfold iN; rw [hmo 69 (by decide)]]; exact hr2); omega
        show AW X 0 0 60 [some (.ref 38), some (.int (nI hw)), some (.int (nI (iN m 80 (128 * p + a)))), some (.int 2), some (.int (nI x)), some (.int (bI ab))] [.int (nI hw), .int (nI x), .int 2, .ref 38] T I1 J R
        refine kX0_68 hC rfl (m_X0_act2 (I := I1) hT hR hC1 hinv1 hx hhw hGv1 h401 hr1 hr3 hr5) dX0_doNext_60 (tg_38 hT) rfl a_le a_le a_le a_le a_le rfl aRelT_x (aRelT_k (fun v9 T9 I9 J9 R9 hp9 hQ => ?_))
        obtain ⟨ev9, hJ9, hAc9⟩ := hQ
        rw [ev9, hJ9]
        have hAc : AcP T I1 R (acS m1 mj x wh hw r) g gq r T9 I9 R9 := by unfold acS; rw [if_neg (by omega), if_pos e1]; exact hAc9
        have hR9 := hAc.2.2.2.1
        have hp9b := hp9
        obtain ⟨eq9, hce9⟩ := hAc.1
        have hs35 : I9 19 8 = m1 44 35 := by rw [hce9.sr]; exact acS_35
        show AW X (0 + 3) (0 + 11) 63 [some (.ref 38), some (.int (nI hw)), some (.int (nI (iN m 80 (128 * p + a)))), some (.int 2), some (.int (nI x)), some (.int (bI ab))] [] T9 I9 J R9
        refine aw_iload_n hC dX0_doNext_63 rfl ?_
        refine aw_iconst (v := 2) hC dX0_doNext_64 (by decide) ?_
        refine aw_icmp_eq (tgt := 81) hC dX0_doNext_65 (by decide) (fun h6 => ?_) (fun h6 => ?_)
        · show AW X (0 + 3) (0 + 11) 81 [some (.ref 38), some (.int (nI hw)), some (.int (nI (iN m 80 (128 * p + a)))), some (.int 2), some (.int (nI x)), some (.int (bI ab))] [] T9 I9 J R9
          have h6n : hw = 2 := (nI_eq (a := hw) (b := 2) (by omega) (by omega)).mp h6
          refine aw_forget 3 (L2 := [some (.ref 38), some (.int (nI hw)), some (.int (nI (iN m 80 (128 * p + a)))), none, some (.int (nI x)), some (.int (bI ab))]) rfl ?_
          exact join81 _ T9 I9 R9 hp9b (hAc.same (by rw [dn_y (hcan.trans hb) (by omega)]; show a_u (acS m1 mj x wh hw r) 44 35 (m1 44 35 + (if hw = 2 then 0 else 1)) = acS m1 mj x wh hw r; exact a_u_same (by rw [acS_35, if_pos (show hw = 2 by omega), Int32.add_zero])))
        · show AW X (0 + 3) (0 + 11) 68 [some (.ref 38), some (.int (nI hw)), some (.int (nI (iN m 80 (128 * p + a)))), some (.int 2), some (.int (nI x)), some (.int (bI ab))] [] T9 I9 J R9
          have h6n : ¬ hw = 2 := fun q9 => h6 ((nI_eq (a := hw) (b := 2) (by omega) (by omega)).mpr q9)
          refine aw_aload_n hC dX0_doNext_68 rfl ?_
          refine aw_getR hC dX0_doNext_69 aF_X0_19 rfl (tg_38 (hT.next hp9b)) (pr_38_1 hR9) ?_
          refine aw_dup hC dX0_doNext_72 rfl ?_
          refine aw_getI hC dX0_doNext_73 aF_X0_72 rfl (tg_19 (hT.next hp9b)) ?_
          rw [hs35]
          refine aw_iconst (v := 1) hC dX0_doNext_76 (by decide) ?_
          refine aw_iadd hC dX0_doNext_77 ?_
          refine aw_putI hC dX0_doNext_78 aF_X0_72 rfl rfl (tg_19 (hT.next hp9b)) ?_
          refine aw_forget 3 (L2 := [some (.ref 38), some (.int (nI hw)), some (.int (nI (iN m 80 (128 * p + a)))), none, some (.int (nI x)), some (.int (bI ab))]) rfl ?_
          exact join81 _ T9 _ R9 hp9b ((hAc.srl (v := m1 44 35 + 1) hT hp9b).same (by rw [dn_y (hcan.trans hb) (by omega), if_neg (show ¬ hw = 2 by omega)]))
      · rw [show nI wh = 3 from by rw [e1]; rfl]
        obtain ⟨r1, hr1, hr2, hr3, hr4⟩ := hinv1.2.2.1.re (show x < 64 by omega) (by rw [hmo 69 (by decide)]; exact h69 (by omega))
        have hr5 : r1 < r := by have z := hN69 x (by omega) (h69 (by omega)); have z2 : iN m 69 x = r1 + 1 := (by rw [show iN m 69 x = iN m1 69 x from by unfold iN; rw [hmo 69 (by decide)]]; exact hr2); omega
        show AW X 0 0 60 [some (.ref 38), some (.int (nI hw)), some (.int (nI (iN m 80 (128 * p + a)))), some (.int 3), some (.int (nI x)), some (.int (bI ab))] [.int (nI hw), .int (nI x), .int 3, .ref 38] T I1 J R
        refine kX0_68 hC rfl (m_X0_act3 (I := I1) hT hR hC1 hinv1 hx hhw hGv1 h401 hr1 hr3 hr5) dX0_doNext_60 (tg_38 hT) rfl a_le a_le a_le a_le a_le rfl aRelT_x (aRelT_k (fun v9 T9 I9 J9 R9 hp9 hQ => ?_))
        obtain ⟨ev9, hJ9, hAc9⟩ := hQ
        rw [ev9, hJ9]
        have hAc : AcP T I1 R (acS m1 mj x wh hw r) g gq r T9 I9 R9 := by unfold acS; rw [if_neg (by omega), if_neg (by omega), if_pos e1]; exact hAc9
        have hR9 := hAc.2.2.2.1
        have hp9b := hp9
        obtain ⟨eq9, hce9⟩ := hAc.1
        have hs35 : I9 19 8 = m1 44 35 := by rw [hce9.sr]; exact acS_35
        show AW X (0 + 3) (0 + 11) 63 [some (.ref 38), some (.int (nI hw)), some (.int (nI (iN m 80 (128 * p + a)))), some (.int 3), some (.int (nI x)), some (.int (bI ab))] [] T9 I9 J R9
        refine aw_iload_n hC dX0_doNext_63 rfl ?_
        refine aw_iconst (v := 2) hC dX0_doNext_64 (by decide) ?_
        refine aw_icmp_eq (tgt := 81) hC dX0_doNext_65 (by decide) (fun h7 => ?_) (fun h7 => ?_)
        · show AW X (0 + 3) (0 + 11) 81 [some (.ref 38), some (.int (nI hw)), some (.int (nI (iN m 80 (128 * p + a)))), some (.int 3), some (.int (nI x)), some (.int (bI ab))] [] T9 I9 J R9
          have h7n : hw = 2 := (nI_eq (a := hw) (b := 2) (by omega) (by omega)).mp h7
          refine aw_forget 3 (L2 := [some (.ref 38), some (.int (nI hw)), some (.int (nI (iN m 80 (128 * p + a)))), none, some (.int (nI x)), some (.int (bI ab))]) rfl ?_
          exact join81 _ T9 I9 R9 hp9b (hAc.same (by rw [dn_y (hcan.trans hb) (by omega)]; show a_u (acS m1 mj x wh hw r) 44 35 (m1 44 35 + (if hw = 2 then 0 else 1)) = acS m1 mj x wh hw r; exact a_u_same (by rw [acS_35, if_pos (show hw = 2 by omega), Int32.add_zero])))
        · show AW X (0 + 3) (0 + 11) 68 [some (.ref 38), some (.int (nI hw)), some (.int (nI (iN m 80 (128 * p + a)))), some (.int 3), some (.int (nI x)), some (.int (bI ab))] [] T9 I9 J R9
          have h7n : ¬ hw = 2 := fun q9 => h7 ((nI_eq (a := hw) (b := 2) (by omega) (by omega)).mpr q9)
          refine aw_aload_n hC dX0_doNext_68 rfl ?_
          refine aw_getR hC dX0_doNext_69 aF_X0_19 rfl (tg_38 (hT.next hp9b)) (pr_38_1 hR9) ?_
          refine aw_dup hC dX0_doNext_72 rfl ?_
          refine aw_getI hC dX0_doNext_73 aF_X0_72 rfl (tg_19 (hT.next hp9b)) ?_
          rw [hs35]
          refine aw_iconst (v := 1) hC dX0_doNext_76 (by decide) ?_
          refine aw_iadd hC dX0_doNext_77 ?_
          refine aw_putI hC dX0_doNext_78 aF_X0_72 rfl rfl (tg_19 (hT.next hp9b)) ?_
          refine aw_forget 3 (L2 := [some (.ref 38), some (.int (nI hw)), some (.int (nI (iN m 80 (128 * p + a)))), none, some (.int (nI x)), some (.int (bI ab))]) rfl ?_
          exact join81 _ T9 _ R9 hp9b ((hAc.srl (v := m1 44 35 + 1) hT hp9b).same (by rw [dn_y (hcan.trans hb) (by omega), if_neg (show ¬ hw = 2 by omega)]))
      · rw [show nI wh = 4 from by rw [e1]; rfl]
        show AW X 0 0 60 [some (.ref 38), some (.int (nI hw)), some (.int (nI (iN m 80 (128 * p + a)))), some (.int 4), some (.int (nI x)), some (.int (bI ab))] [.int (nI hw), .int (nI x), .int 4, .ref 38] T I1 J R
        refine kX0_68 hC rfl (m_X0_act4 (I := I1) hT hR hC1 hinv1 hx hhw hGv1 h401 (r1 := iN m 82 x) (by rw [hmo 82 (by decide)]; exact (h82r x (by omega)).1) (h82r x (by omega)).2) dX0_doNext_60 (tg_38 hT) rfl a_le a_le a_le a_le a_le rfl aRelT_x (aRelT_k (fun v9 T9 I9 J9 R9 hp9 hQ => ?_))
        obtain ⟨ev9, hJ9, hAc9⟩ := hQ
        rw [ev9, hJ9]
        have hAc : AcP T I1 R (acS m1 mj x wh hw r) g gq r T9 I9 R9 := by unfold acS; rw [if_neg (by omega), if_neg (by omega), if_neg (by omega)]; exact hAc9
        have hR9 := hAc.2.2.2.1
        have hp9b := hp9
        obtain ⟨eq9, hce9⟩ := hAc.1
        have hs35 : I9 19 8 = m1 44 35 := by rw [hce9.sr]; exact acS_35
        show AW X (0 + 3) (0 + 11) 63 [some (.ref 38), some (.int (nI hw)), some (.int (nI (iN m 80 (128 * p + a)))), some (.int 4), some (.int (nI x)), some (.int (bI ab))] [] T9 I9 J R9
        refine aw_iload_n hC dX0_doNext_63 rfl ?_
        refine aw_iconst (v := 2) hC dX0_doNext_64 (by decide) ?_
        refine aw_icmp_eq (tgt := 81) hC dX0_doNext_65 (by decide) (fun h8 => ?_) (fun h8 => ?_)
        · show AW X (0 + 3) (0 + 11) 81 [some (.ref 38), some (.int (nI hw)), some (.int (nI (iN m 80 (128 * p + a)))), some (.int 4), some (.int (nI x)), some (.int (bI ab))] [] T9 I9 J R9
          have h8n : hw = 2 := (nI_eq (a := hw) (b := 2) (by omega) (by omega)).mp h8
          refine aw_forget 3 (L2 := [some (.ref 38), some (.int (nI hw)), some (.int (nI (iN m 80 (128 * p + a)))), none, some (.int (nI x)), some (.int (bI ab))]) rfl ?_
          exact join81 _ T9 I9 R9 hp9b (hAc.same (by rw [dn_y (hcan.trans hb) (by omega)]; show a_u (acS m1 mj x wh hw r) 44 35 (m1 44 35 + (if hw = 2 then 0 else 1)) = acS m1 mj x wh hw r; exact a_u_same (by rw [acS_35, if_pos (show hw = 2 by omega), Int32.add_zero])))
        · show AW X (0 + 3) (0 + 11) 68 [some (.ref 38), some (.int (nI hw)), some (.int (nI (iN m 80 (128 * p + a)))), some (.int 4), some (.int (nI x)), some (.int (bI ab))] [] T9 I9 J R9
          have h8n : ¬ hw = 2 := fun q9 => h8 ((nI_eq (a := hw) (b := 2) (by omega) (by omega)).mpr q9)
          refine aw_aload_n hC dX0_doNext_68 rfl ?_
          refine aw_getR hC dX0_doNext_69 aF_X0_19 rfl (tg_38 (hT.next hp9b)) (pr_38_1 hR9) ?_
          refine aw_dup hC dX0_doNext_72 rfl ?_
          refine aw_getI hC dX0_doNext_73 aF_X0_72 rfl (tg_19 (hT.next hp9b)) ?_
          rw [hs35]
          refine aw_iconst (v := 1) hC dX0_doNext_76 (by decide) ?_
          refine aw_iadd hC dX0_doNext_77 ?_
          refine aw_putI hC dX0_doNext_78 aF_X0_72 rfl rfl (tg_19 (hT.next hp9b)) ?_
          refine aw_forget 3 (L2 := [some (.ref 38), some (.int (nI hw)), some (.int (nI (iN m 80 (128 * p + a)))), none, some (.int (nI x)), some (.int (bI ab))]) rfl ?_
          exact join81 _ T9 _ R9 hp9b ((hAc.srl (v := m1 44 35 + 1) hT hp9b).same (by rw [dn_y (hcan.trans hb) (by omega), if_neg (show ¬ hw = 2 by omega)]))
    · show AW X 0 0 50 [some (.ref 38), some (.int (nI hw)), some (.int (nI (iN m 80 (128 * p + a)))), some (.int (nI wh)), some (.int (nI x)), some (.int (bI ab))] [] T I1 J R
      have h4n : hw = 1 := (nI_eq (a := hw) (b := 1) (by omega) (by omega)).mp h4
      refine aw_iload_n hC dX0_doNext_50 rfl ?_
      refine aw_iconst (v := 1) hC dX0_doNext_51 (by decide) ?_
      refine aw_icmp_ne (tgt := 81) hC dX0_doNext_52 (by decide) (fun h9 => ?_) (fun h9 => ?_)
      · show AW X 0 0 81 [some (.ref 38), some (.int (nI hw)), some (.int (nI (iN m 80 (128 * p + a)))), some (.int (nI wh)), some (.int (nI x)), some (.int (bI ab))] [] T I1 J R
        have h9n : ¬ wh = 1 := fun q9 => h9 ((nI_eq (a := wh) (b := 1) (by omega) (by omega)).mpr q9)
        refine aw_forget 3 (L2 := [some (.ref 38), some (.int (nI hw)), some (.int (nI (iN m 80 (128 * p + a)))), none, some (.int (nI x)), some (.int (bI ab))]) rfl ?_
        refine aw_widen (c2 := (0 + 3)) (s2 := (0 + 11)) (by decide) (by decide) ?_
        have hdn : (doS m1 mj x wh hw r) = (false, m1) := by first | exact dn_no (hcan.trans hb) | exact dn_f (by omega) (by omega)
        exact join81 r T I1 R (List.prefix_refl _) (by rw [hdn]; exact ⟨⟨eq, hC1⟩, fun _ _ _ _ => rfl, fun _ _ _ _ => rfl, hR, h401⟩)
      · show AW X 0 0 55 [some (.ref 38), some (.int (nI hw)), some (.int (nI (iN m 80 (128 * p + a)))), some (.int (nI wh)), some (.int (nI x)), some (.int (bI ab))] [] T I1 J R
        have h9n : wh = 1 := (nI_eq (a := wh) (b := 1) (by omega) (by omega)).mp h9
        refine aw_aload_n hC dX0_doNext_55 rfl ?_
        refine aw_iload_n hC dX0_doNext_56 rfl ?_
        refine aw_iload hC dX0_doNext_57 rfl ?_
        refine aw_iload_n hC dX0_doNext_59 rfl ?_
        have hwh1 : wh = 1 ∨ wh = 2 ∨ wh = 3 ∨ wh = 4 := by omega
        rcases hwh1 with e1 | e1 | e1 | e1
        · rw [show nI wh = 1 from by rw [e1]; rfl]
          have hr59 : r < 60 := by have z := hcan.trans hb; unfold canB at z; rw [if_pos e1, Bool.and_eq_true, decide_eq_true_eq] at z; omega
          show AW X 0 0 60 [some (.ref 38), some (.int (nI hw)), some (.int (nI (iN m 80 (128 * p + a)))), some (.int 1), some (.int (nI x)), some (.int (bI ab))] [.int (nI hw), .int (nI x), .int 1, .ref 38] T I1 J R
          refine kX0_68 hC rfl (m_X0_act1 (I := I1) hT hR hC1 hinv1 hx hhw hGv1 h401 hr59 (by unfold iN; rw [hmo 74 (by decide)]; exact (hmd x (by omega)).1) (by unfold iN; rw [hmo 74 (by decide)]; have := (hmd x (by omega)).2; unfold iN at this; omega) (by rw [hmo 82 (by decide)]; exact h82 e1)) dX0_doNext_60 (tg_38 hT) rfl a_le a_le a_le a_le a_le rfl aRelT_x (aRelT_k (fun v9 T9 I9 J9 R9 hp9 hQ => ?_))
          obtain ⟨ev9, hJ9, hAc9⟩ := hQ
          rw [ev9, hJ9]
          have hAc : AcP T I1 R (acS m1 mj x wh hw r) g gq (r + 1) T9 I9 R9 := by unfold acS; rw [if_pos e1]; exact hAc9
          have hR9 := hAc.2.2.2.1
          have hp9b := hp9
          obtain ⟨eq9, hce9⟩ := hAc.1
          have hs35 : I9 19 8 = m1 44 35 := by rw [hce9.sr]; exact acS_35
          show AW X (0 + 3) (0 + 11) 63 [some (.ref 38), some (.int (nI hw)), some (.int (nI (iN m 80 (128 * p + a)))), some (.int 1), some (.int (nI x)), some (.int (bI ab))] [] T9 I9 J R9
          refine aw_iload_n hC dX0_doNext_63 rfl ?_
          refine aw_iconst (v := 2) hC dX0_doNext_64 (by decide) ?_
          refine aw_icmp_eq (tgt := 81) hC dX0_doNext_65 (by decide) (fun h10 => ?_) (fun h10 => ?_)
          · show AW X (0 + 3) (0 + 11) 81 [some (.ref 38), some (.int (nI hw)), some (.int (nI (iN m 80 (128 * p + a)))), some (.int 1), some (.int (nI x)), some (.int (bI ab))] [] T9 I9 J R9
            have h10n : hw = 2 := (nI_eq (a := hw) (b := 2) (by omega) (by omega)).mp h10
            refine aw_forget 3 (L2 := [some (.ref 38), some (.int (nI hw)), some (.int (nI (iN m 80 (128 * p + a)))), none, some (.int (nI x)), some (.int (bI ab))]) rfl ?_
            exact join81 _ T9 I9 R9 hp9b (hAc.same (by rw [dn_y (hcan.trans hb) (by omega)]; show a_u (acS m1 mj x wh hw r) 44 35 (m1 44 35 + (if hw = 2 then 0 else 1)) = acS m1 mj x wh hw r; exact a_u_same (by rw [acS_35, if_pos (show hw = 2 by omega), Int32.add_zero])))
          · show AW X (0 + 3) (0 + 11) 68 [some (.ref 38), some (.int (nI hw)), some (.int (nI (iN m 80 (128 * p + a)))), some (.int 1), some (.int (nI x)), some (.int (bI ab))] [] T9 I9 J R9
            have h10n : ¬ hw = 2 := fun q9 => h10 ((nI_eq (a := hw) (b := 2) (by omega) (by omega)).mpr q9)
            refine aw_aload_n hC dX0_doNext_68 rfl ?_
            refine aw_getR hC dX0_doNext_69 aF_X0_19 rfl (tg_38 (hT.next hp9b)) (pr_38_1 hR9) ?_
            refine aw_dup hC dX0_doNext_72 rfl ?_
            refine aw_getI hC dX0_doNext_73 aF_X0_72 rfl (tg_19 (hT.next hp9b)) ?_
            rw [hs35]
            refine aw_iconst (v := 1) hC dX0_doNext_76 (by decide) ?_
            refine aw_iadd hC dX0_doNext_77 ?_
            refine aw_putI hC dX0_doNext_78 aF_X0_72 rfl rfl (tg_19 (hT.next hp9b)) ?_
            refine aw_forget 3 (L2 := [some (.ref 38), some (.int (nI hw)), some (.int (nI (iN m 80 (128 * p + a)))), none, some (.int (nI x)), some (.int (bI ab))]) rfl ?_
            exact join81 _ T9 _ R9 hp9b ((hAc.srl (v := m1 44 35 + 1) hT hp9b).same (by rw [dn_y (hcan.trans hb) (by omega), if_neg (show ¬ hw = 2 by omega)]))
        · rw [show nI wh = 2 from by rw [e1]; rfl]
          obtain ⟨r1, hr1, hr2, hr3, hr4⟩ := hinv1.2.2.1.re (show x < 64 by omega) (by rw [hmo 69 (by decide)]; exact h69 (by omega))
          have hr5 : r1 < r := by have z := hN69 x (by omega) (h69 (by omega)); have z2 : iN m 69 x = r1 + 1 := (by rw [show iN m 69 x = iN m1 69 x from by unfold iN; rw [hmo 69 (by decide)]]; exact hr2); omega
          show AW X 0 0 60 [some (.ref 38), some (.int (nI hw)), some (.int (nI (iN m 80 (128 * p + a)))), some (.int 2), some (.int (nI x)), some (.int (bI ab))] [.int (nI hw), .int (nI x), .int 2, .ref 38] T I1 J R
          refine kX0_68 hC rfl (m_X0_act2 (I := I1) hT hR hC1 hinv1 hx hhw hGv1 h401 hr1 hr3 hr5) dX0_doNext_60 (tg_38 hT) rfl a_le a_le a_le a_le a_le rfl aRelT_x (aRelT_k (fun v9 T9 I9 J9 R9 hp9 hQ => ?_))
          obtain ⟨ev9, hJ9, hAc9⟩ := hQ
          rw [ev9, hJ9]
          have hAc : AcP T I1 R (acS m1 mj x wh hw r) g gq r T9 I9 R9 := by unfold acS; rw [if_neg (by omega), if_pos e1]; exact hAc9
          have hR9 := hAc.2.2.2.1
          have hp9b := hp9
          obtain ⟨eq9, hce9⟩ := hAc.1
          have hs35 : I9 19 8 = m1 44 35 := by rw [hce9.sr]; exact acS_35
          show AW X (0 + 3) (0 + 11) 63 [some (.ref 38), some (.int (nI hw)), some (.int (nI (iN m 80 (128 * p + a)))), some (.int 2), some (.int (nI x)), some (.int (bI ab))] [] T9 I9 J R9
          refine aw_iload_n hC dX0_doNext_63 rfl ?_
          refine aw_iconst (v := 2) hC dX0_doNext_64 (by decide) ?_
          refine aw_icmp_eq (tgt := 81) hC dX0_doNext_65 (by decide) (fun h11 => ?_) (fun h11 => ?_)
          · show AW X (0 + 3) (0 + 11) 81 [some (.ref 38), some (.int (nI hw)), some (.int (nI (iN m 80 (128 * p + a)))), some (.int 2), some (.int (nI x)), some (.int (bI ab))] [] T9 I9 J R9
            have h11n : hw = 2 := (nI_eq (a := hw) (b := 2) (by omega) (by omega)).mp h11
            refine aw_forget 3 (L2 := [some (.ref 38), some (.int (nI hw)), some (.int (nI (iN m 80 (128 * p + a)))), none, some (.int (nI x)), some (.int (bI ab))]) rfl ?_
            exact join81 _ T9 I9 R9 hp9b (hAc.same (by rw [dn_y (hcan.trans hb) (by omega)]; show a_u (acS m1 mj x wh hw r) 44 35 (m1 44 35 + (if hw = 2 then 0 else 1)) = acS m1 mj x wh hw r; exact a_u_same (by rw [acS_35, if_pos (show hw = 2 by omega), Int32.add_zero])))
          · show AW X (0 + 3) (0 + 11) 68 [some (.ref 38), some (.int (nI hw)), some (.int (nI (iN m 80 (128 * p + a)))), some (.int 2), some (.int (nI x)), some (.int (bI ab))] [] T9 I9 J R9
            have h11n : ¬ hw = 2 := fun q9 => h11 ((nI_eq (a := hw) (b := 2) (by omega) (by omega)).mpr q9)
            refine aw_aload_n hC dX0_doNext_68 rfl ?_
            refine aw_getR hC dX0_doNext_69 aF_X0_19 rfl (tg_38 (hT.next hp9b)) (pr_38_1 hR9) ?_
            refine aw_dup hC dX0_doNext_72 rfl ?_
            refine aw_getI hC dX0_doNext_73 aF_X0_72 rfl (tg_19 (hT.next hp9b)) ?_
            rw [hs35]
            refine aw_iconst (v := 1) hC dX0_doNext_76 (by decide) ?_
            refine aw_iadd hC dX0_doNext_77 ?_
            refine aw_putI hC dX0_doNext_78 aF_X0_72 rfl rfl (tg_19 (hT.next hp9b)) ?_
            refine aw_forget 3 (L2 := [some (.ref 38), some (.int (nI hw)), some (.int (nI (iN m 80 (128 * p + a)))), none, some (.int (nI x)), some (.int (bI ab))]) rfl ?_
            exact join81 _ T9 _ R9 hp9b ((hAc.srl (v := m1 44 35 + 1) hT hp9b).same (by rw [dn_y (hcan.trans hb) (by omega), if_neg (show ¬ hw = 2 by omega)]))
        · rw [show nI wh = 3 from by rw [e1]; rfl]
          obtain ⟨r1, hr1, hr2, hr3, hr4⟩ := hinv1.2.2.1.re (show x < 64 by omega) (by rw [hmo 69 (by decide)]; exact h69 (by omega))
          have hr5 : r1 < r := by have z := hN69 x (by omega) (h69 (by omega)); have z2 : iN m 69 x = r1 + 1 := (by rw [show iN m 69 x = iN m1 69 x from by unfold iN; rw [hmo 69 (by decide)]]; exact hr2); omega
          show AW X 0 0 60 [some (.ref 38), some (.int (nI hw)), some (.int (nI (iN m 80 (128 * p + a)))), some (.int 3), some (.int (nI x)), some (.int (bI ab))] [.int (nI hw), .int (nI x), .int 3, .ref 38] T I1 J R
          refine kX0_68 hC rfl (m_X0_act3 (I := I1) hT hR hC1 hinv1 hx hhw hGv1 h401 hr1 hr3 hr5) dX0_doNext_60 (tg_38 hT) rfl a_le a_le a_le a_le a_le rfl aRelT_x (aRelT_k (fun v9 T9 I9 J9 R9 hp9 hQ => ?_))
          obtain ⟨ev9, hJ9, hAc9⟩ := hQ
          rw [ev9, hJ9]
          have hAc : AcP T I1 R (acS m1 mj x wh hw r) g gq r T9 I9 R9 := by unfold acS; rw [if_neg (by omega), if_neg (by omega), if_pos e1]; exact hAc9
          have hR9 := hAc.2.2.2.1
          have hp9b := hp9
          obtain ⟨eq9, hce9⟩ := hAc.1
          have hs35 : I9 19 8 = m1 44 35 := by rw [hce9.sr]; exact acS_35
          show AW X (0 + 3) (0 + 11) 63 [some (.ref 38), some (.int (nI hw)), some (.int (nI (iN m 80 (128 * p + a)))), some (.int 3), some (.int (nI x)), some (.int (bI ab))] [] T9 I9 J R9
          refine aw_iload_n hC dX0_doNext_63 rfl ?_
          refine aw_iconst (v := 2) hC dX0_doNext_64 (by decide) ?_
          refine aw_icmp_eq (tgt := 81) hC dX0_doNext_65 (by decide) (fun h12 => ?_) (fun h12 => ?_)
          · show AW X (0 + 3) (0 + 11) 81 [some (.ref 38), some (.int (nI hw)), some (.int (nI (iN m 80 (128 * p + a)))), some (.int 3), some (.int (nI x)), some (.int (bI ab))] [] T9 I9 J R9
            have h12n : hw = 2 := (nI_eq (a := hw) (b := 2) (by omega) (by omega)).mp h12
            refine aw_forget 3 (L2 := [some (.ref 38), some (.int (nI hw)), some (.int (nI (iN m 80 (128 * p + a)))), none, some (.int (nI x)), some (.int (bI ab))]) rfl ?_
            exact join81 _ T9 I9 R9 hp9b (hAc.same (by rw [dn_y (hcan.trans hb) (by omega)]; show a_u (acS m1 mj x wh hw r) 44 35 (m1 44 35 + (if hw = 2 then 0 else 1)) = acS m1 mj x wh hw r; exact a_u_same (by rw [acS_35, if_pos (show hw = 2 by omega), Int32.add_zero])))
          · show AW X (0 + 3) (0 + 11) 68 [some (.ref 38), some (.int (nI hw)), some (.int (nI (iN m 80 (128 * p + a)))), some (.int 3), some (.int (nI x)), some (.int (bI ab))] [] T9 I9 J R9
            have h12n : ¬ hw = 2 := fun q9 => h12 ((nI_eq (a := hw) (b := 2) (by omega) (by omega)).mpr q9)
            refine aw_aload_n hC dX0_doNext_68 rfl ?_
            refine aw_getR hC dX0_doNext_69 aF_X0_19 rfl (tg_38 (hT.next hp9b)) (pr_38_1 hR9) ?_
            refine aw_dup hC dX0_doNext_72 rfl ?_
            refine aw_getI hC dX0_doNext_73 aF_X0_72 rfl (tg_19 (hT.next hp9b)) ?_
            rw [hs35]
            refine aw_iconst (v := 1) hC dX0_doNext_76 (by decide) ?_
            refine aw_iadd hC dX0_doNext_77 ?_
            refine aw_putI hC dX0_doNext_78 aF_X0_72 rfl rfl (tg_19 (hT.next hp9b)) ?_
            refine aw_forget 3 (L2 := [some (.ref 38), some (.int (nI hw)), some (.int (nI (iN m 80 (128 * p + a)))), none, some (.int (nI x)), some (.int (bI ab))]) rfl ?_
            exact join81 _ T9 _ R9 hp9b ((hAc.srl (v := m1 44 35 + 1) hT hp9b).same (by rw [dn_y (hcan.trans hb) (by omega), if_neg (show ¬ hw = 2 by omega)]))
        · rw [show nI wh = 4 from by rw [e1]; rfl]
          show AW X 0 0 60 [some (.ref 38), some (.int (nI hw)), some (.int (nI (iN m 80 (128 * p + a)))), some (.int 4), some (.int (nI x)), some (.int (bI ab))] [.int (nI hw), .int (nI x), .int 4, .ref 38] T I1 J R
          refine kX0_68 hC rfl (m_X0_act4 (I := I1) hT hR hC1 hinv1 hx hhw hGv1 h401 (r1 := iN m 82 x) (by rw [hmo 82 (by decide)]; exact (h82r x (by omega)).1) (h82r x (by omega)).2) dX0_doNext_60 (tg_38 hT) rfl a_le a_le a_le a_le a_le rfl aRelT_x (aRelT_k (fun v9 T9 I9 J9 R9 hp9 hQ => ?_))
          obtain ⟨ev9, hJ9, hAc9⟩ := hQ
          rw [ev9, hJ9]
          have hAc : AcP T I1 R (acS m1 mj x wh hw r) g gq r T9 I9 R9 := by unfold acS; rw [if_neg (by omega), if_neg (by omega), if_neg (by omega)]; exact hAc9
          have hR9 := hAc.2.2.2.1
          have hp9b := hp9
          obtain ⟨eq9, hce9⟩ := hAc.1
          have hs35 : I9 19 8 = m1 44 35 := by rw [hce9.sr]; exact acS_35
          show AW X (0 + 3) (0 + 11) 63 [some (.ref 38), some (.int (nI hw)), some (.int (nI (iN m 80 (128 * p + a)))), some (.int 4), some (.int (nI x)), some (.int (bI ab))] [] T9 I9 J R9
          refine aw_iload_n hC dX0_doNext_63 rfl ?_
          refine aw_iconst (v := 2) hC dX0_doNext_64 (by decide) ?_
          refine aw_icmp_eq (tgt := 81) hC dX0_doNext_65 (by decide) (fun h13 => ?_) (fun h13 => ?_)
          · show AW X (0 + 3) (0 + 11) 81 [some (.ref 38), some (.int (nI hw)), some (.int (nI (iN m 80 (128 * p + a)))), some (.int 4), some (.int (nI x)), some (.int (bI ab))] [] T9 I9 J R9
            have h13n : hw = 2 := (nI_eq (a := hw) (b := 2) (by omega) (by omega)).mp h13
            refine aw_forget 3 (L2 := [some (.ref 38), some (.int (nI hw)), some (.int (nI (iN m 80 (128 * p + a)))), none, some (.int (nI x)), some (.int (bI ab))]) rfl ?_
            exact join81 _ T9 I9 R9 hp9b (hAc.same (by rw [dn_y (hcan.trans hb) (by omega)]; show a_u (acS m1 mj x wh hw r) 44 35 (m1 44 35 + (if hw = 2 then 0 else 1)) = acS m1 mj x wh hw r; exact a_u_same (by rw [acS_35, if_pos (show hw = 2 by omega), Int32.add_zero])))
          · show AW X (0 + 3) (0 + 11) 68 [some (.ref 38), some (.int (nI hw)), some (.int (nI (iN m 80 (128 * p + a)))), some (.int 4), some (.int (nI x)), some (.int (bI ab))] [] T9 I9 J R9
            have h13n : ¬ hw = 2 := fun q9 => h13 ((nI_eq (a := hw) (b := 2) (by omega) (by omega)).mpr q9)
            refine aw_aload_n hC dX0_doNext_68 rfl ?_
            refine aw_getR hC dX0_doNext_69 aF_X0_19 rfl (tg_38 (hT.next hp9b)) (pr_38_1 hR9) ?_
            refine aw_dup hC dX0_doNext_72 rfl ?_
            refine aw_getI hC dX0_doNext_73 aF_X0_72 rfl (tg_19 (hT.next hp9b)) ?_
            rw [hs35]
            refine aw_iconst (v := 1) hC dX0_doNext_76 (by decide) ?_
            refine aw_iadd hC dX0_doNext_77 ?_
            refine aw_putI hC dX0_doNext_78 aF_X0_72 rfl rfl (tg_19 (hT.next hp9b)) ?_
            refine aw_forget 3 (L2 := [some (.ref 38), some (.int (nI hw)), some (.int (nI (iN m 80 (128 * p + a)))), none, some (.int (nI x)), some (.int (bI ab))]) rfl ?_
            exact join81 _ T9 _ R9 hp9b ((hAc.srl (v := m1 44 35 + 1) hT hp9b).same (by rw [dn_y (hcan.trans hb) (by omega), if_neg (show ¬ hw = 2 by omega)]))
  · have hb : ab = false := by simpa using hb
    show AW X 0 0 40 [some (.ref 38), some (.int (nI hw)), some (.int (nI (iN m 80 (128 * p + a)))), some (.int (nI wh)), some (.int (nI x)), some (.int (bI ab))] [] T I1 J R
    refine aw_iload hC dX0_doNext_40 rfl ?_
    refine aw_if_eq (tgt := 81) hC dX0_doNext_42 (by decide) (fun _ => ?_) (fun h => absurd (by rw [hb]; rfl) h)
    show AW X 0 0 81 [some (.ref 38), some (.int (nI hw)), some (.int (nI (iN m 80 (128 * p + a)))), some (.int (nI wh)), some (.int (nI x)), some (.int (bI ab))] [] T I1 J R
    refine aw_forget 3 (L2 := [some (.ref 38), some (.int (nI hw)), some (.int (nI (iN m 80 (128 * p + a)))), none, some (.int (nI x)), some (.int (bI ab))]) rfl ?_
    refine aw_widen (c2 := (0 + 3)) (s2 := (0 + 11)) (by decide) (by decide) ?_
    have hdn : (doS m1 mj x wh hw r) = (false, m1) := by first | exact dn_no (hcan.trans hb) | exact dn_f (by omega) (by omega)
    exact join81 r T I1 R (List.prefix_refl _) (by rw [hdn]; exact ⟨⟨eq, hC1⟩, fun _ _ _ _ => rfl, fun _ _ _ _ => rfl, hR, h401⟩)
