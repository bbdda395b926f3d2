theorem CB.fr0 {T T2 : List aT} {I I2 : aI} {J J2 : aJ} {R R2 : aR} {m : aI} {n : Nat} {sq : Nat → Nat} (h : CB T I J R m n sq) (hp : T <+: T2) (h1 : ∀ o, 1 ≤ o → o < 19 → I2 o = I o ∧ J2 o = J o) (hs : ∀ s, s < n → I2 (sq s) = I (sq s) ∧ R2 (sq s) = R (sq s)) (h2 : R2 2 = R 2) : CB T2 I2 J2 R2 m n sq := by
  obtain ⟨a1, a2, a3, a4, a5⟩ := h
  refine ⟨⟨by rw [(h1 1 (by decide) (by decide)).1]; exact a1.1, fun s hs9 => ⟨by rw [h2]; exact a1.rf hs9, ?_⟩, a1.2.2⟩, ?_, ?_, ?_, ?_⟩
  · have q := a1.at hs9
    unfold StAt at *
    rw [(hs s hs9).1]; exact ⟨a_pfx hp q.1, q.2⟩
  · unfold CBk at *
    rw [(h1 3 (by decide) (by decide)).1, (h1 4 (by decide) (by decide)).1, (h1 5 (by decide) (by decide)).1, (h1 6 (by decide) (by decide)).1, (h1 1 (by decide) (by decide)).1]; exact a2
  · unfold ZR3 at *
    rw [(h1 10 (by decide) (by decide)).2, (h1 13 (by decide) (by decide)).2, (h1 15 (by decide) (by decide)).2]; exact a3
  · rw [(h1 8 (by decide) (by decide)).1]; exact a4
  · rw [(h1 8 (by decide) (by decide)).1]
    exact a5.imp id (fun q => by
      obtain ⟨m0, q1, q2⟩ := q
      exact ⟨m0, q1, q2.fr (h1 8 (by decide) (by decide)).1 (h1 11 (by decide) (by decide)).1 hs ⟨(h1 10 (by decide) (by decide)).2, (h1 13 (by decide) (by decide)).2⟩⟩)
abbrev poM (m : aI) (k f a b : Nat) : aI := a_u (a_u (a_u (a_u m 57 (3 * k) (nI f)) 57 (3 * k + 1) (nI a)) 57 (3 * k + 2) (nI b)) 44 14 (nI (k + 1))
theorem poM_o {m : aI} {k f a b q : Nat} (h : q ≠ 57) (h4 : q ≠ 44) : poM m k f a b q = m q := by unfold poM; rw [a_u_row h4, a_u_row h, a_u_row h, a_u_row h]
theorem poM_4 {m : aI} {k f a b j : Nat} (h : j ≠ 14) : poM m k f a b 44 j = m 44 j := by unfold poM; rw [a_u_ne (fun z => h z.2), a_u_row (by decide), a_u_row (by decide), a_u_row (by decide)]
theorem poM_57 {m : aI} {k f a b j : Nat} : poM m k f a b 57 j = if j = 3 * k + 2 then nI b else if j = 3 * k + 1 then nI a else if j = 3 * k then nI f else m 57 j := by
  unfold poM
  rw [a_u_row (by decide)]
  by_cases c1 : j = 3 * k + 2
  · rw [if_pos c1, c1, a_u_self]
  · rw [if_neg c1, a_u_ne (fun z => c1 z.2)]
    by_cases c2 : j = 3 * k + 1
    · rw [if_pos c2, c2, a_u_self]
    · rw [if_neg c2, a_u_ne (fun z => c2 z.2)]
      by_cases c3 : j = 3 * k
      · rw [if_pos c3, c3, a_u_self]
      · rw [if_neg c3, a_u_ne (fun z => c3 z.2)]
theorem po_g9 {T : List aT} {I : aI} {J : aJ} {R : aR} {m : aI} {c n : Nat} {sq : Nat → Nat} {g : Nat} {gq eq : Nat → Nat} {r p : Nat} {pq : Nat → Nat} {k : Nat} (h9 : G9 T I J R m c n sq g gq eq r p pq k) {f a b : Nat} (hk : k < 8) (hf : f < 10) (ha : a < 64) (hb : b < 64) : G9 T (a_u (a_u I 41 k (nI f)) 0 7 (nI (k + 1))) (a_u J 42 k (sRng a (nI b))) R (poM m k f a b) c n sq g gq eq r p pq (k + 1) := by
  have hT := h9.hT
  have ii : ∀ o, o ≠ 0 → o ≠ 41 → a_u (a_u I 41 k (nI f)) 0 7 (nI (k + 1)) o = I o := fun o a b => by rw [a_u_row a, a_u_row b]
  have jj : ∀ o, o ≠ 42 → a_u J 42 k (sRng a (nI b)) o = J o := fun o a => a_u_row a
  have mm : ∀ o, o ≠ 57 → o ≠ 44 → poM m k f a b o = m o := fun o h h4 => poM_o h h4
  refine ⟨hT, h9.hR, ⟨MBk_cg h9.bk (fun o u v => mm o (by omega) (by omega)) (poM_4 (by decide)), MEs_cg h9.es (fun o u v => mm o (by omega) (by omega)) (poM_4 (by decide)), MPl_cg h9.pl (fun o u v => mm o (by omega) (by omega)) (mm 69 (by decide) (by decide)) (fun j hj => poM_4 (by omega)) (fun i _ => ⟨by rw [mm 77 (by decide) (by decide)], by rw [mm 78 (by decide) (by decide)]⟩), ⟨a_u_self, by omega, fun j hj => ?_, fun j hj => ?_⟩, ?_⟩, ?_, ?_, ?_, ?_, h9.cpi, ?_⟩
  · have q := h9.po.2.2.1 j hj
    unfold iN at *
    rw [poM_57]
    split
    · rw [nI_clamp (by omega)]; exact ⟨rfl, hb⟩
    · split
      · rw [nI_clamp (by omega)]; exact ⟨rfl, ha⟩
      · split
        · rw [nI_clamp (by omega)]; exact ⟨rfl, by omega⟩
        · exact q
  · unfold iN
    rw [poM_57, if_neg (by omega), if_neg (by omega)]
    by_cases e : j = k
    · rw [if_pos (by rw [e]), nI_clamp (by omega)]; exact hf
    · rw [if_neg (by omega)]; exact h9.po.2.2.2 j (by omega)
  · obtain ⟨d, d1, d2⟩ := h9.dy
    exact ⟨d, (poM_4 (by decide)).trans d1, d2⟩
  · exact (h9.cb.fr0 (List.prefix_refl _) (fun o u v => ⟨ii o (by omega) (by omega), jj o (by omega)⟩) (fun s hs => by have := (h9.cb.sq hT hs).2.2; exact ⟨ii _ (by omega) (by omega), rfl⟩) rfl).cgm ⟨fun o u => mm o (by omega) (by omega), poM_4 (by decide), poM_4 (by decide)⟩
  · refine ⟨a_u_self, fun j hj => ?_⟩
    unfold iN
    rw [a_u_row (by decide), poM_57, poM_57, poM_57]
    by_cases e : j = k
    · rw [e, a_u_self, a_u_self, if_neg (by omega), if_neg (by omega), if_pos rfl, if_neg (by omega), if_pos rfl, if_pos rfl, nI_clamp (by omega), nI_clamp (by omega)]; exact ⟨rfl, rfl⟩
    · rw [a_u_ne (fun z => e z.2), a_u_ne (fun z => e z.2), if_neg (by omega), if_neg (by omega), if_neg (by omega), if_neg (by omega), if_neg (by omega), if_neg (by omega), if_neg (by omega), if_neg (by omega), if_neg (by omega)]
      exact h9.cpo.2 j (by omega)
  · exact (h9.ces.frt hT (List.prefix_refl _) (fun o u v => ii o (by omega) (by omega)) (fun o u v _ _ => ⟨ii o (by omega) (by omega), rfl⟩) rfl rfl).cgm (fun o u v => mm o (by omega) (by omega)) (poM_4 (by decide)) (poM_4 (by decide))
  · exact (h9.cpl.fr (List.prefix_refl _) (by rw [a_u_ne (fun z => absurd z.2 (by decide)), a_u_row (by decide)]) (fun i hi => by have := (h9.cpl.pq hT hi).1.2.2; exact ⟨ii _ (by omega) (by omega), ii _ (by omega) (by omega), rfl⟩) rfl).cgm (fun o u v => mm o (by omega) (by omega))
  · exact (h9.cap.fr (fun o u v => ii o (by omega) (by omega)) rfl).cgm (mm 81 (by decide) (by decide)) (mm 82 (by decide) (by decide)) (fun j hj => poM_4 (by omega))
set_option maxRecDepth 100000 in
theorem m_X11_policy {T : List aT} {I : aI} {J : aJ} {R : aR} {m : aI} {c n : Nat} {sq : Nat → Nat} {g : Nat} {gq eq : Nat → Nat} {r p : Nat} {pq : Nat → Nat} {k : Nat} (h9 : G9 T I J R m c n sq g gq eq r p pq k) (f a b : Int32) : MX11_policy 3 200 [.ref 0, .int f, .int a, .int b] T I J R (CP [exI, exA, exS] I J m c (fun kk v m2 => ((0 ≤ f ∧ f ≤ 9) ∧ ((0 ≤ a ∧ a ≤ 63) ∧ (a ≤ b ∧ b ≤ 63)) ∧ k ≠ 8 ∧ kk = 0 ∧ v = nI k ∧ m2 = poM m k f.toNatClampNeg a.toNatClampNeg b.toNatClampNeg) ∨ ((0 ≤ f ∧ f ≤ 9) ∧ ((0 ≤ a ∧ a ≤ 63) ∧ (a ≤ b ∧ b ≤ 63)) ∧ k = 8 ∧ kk = 3 ∧ m2 = m) ∨ ((0 ≤ f ∧ f ≤ 9) ∧ ¬ ((0 ≤ a ∧ a ≤ 63) ∧ (a ≤ b ∧ b ≤ 63)) ∧ kk = 2 ∧ m2 = m) ∨ (¬ (0 ≤ f ∧ f ≤ 9) ∧ kk = 1 ∧ m2 = m))) := by
  refine a_met (by decide +kernel) a_le (fun X hC hq => ?_)
  show AW X 0 0 0 [some (.ref 0), some (.int f), some (.int a), some (.int b)] [] T I J R
  have hT := h9.hT
  have hR := h9.hR
  have hk8 := h9.po.2.1
  refine aw_iload_n hC dX11_policy_0 rfl ?_
  refine aw_bipush (v := 10) hC dX11_policy_1 (by decide) ?_
  refine kX11_64 hC rfl (m_X11_isBelow f (10 : Int32)) dX11_policy_3 rfl a_le a_le a_le a_le a_le rfl aPure_x (aPure_k ?_)
  show AW X 0 0 6 [some (.ref 0), some (.int f), some (.int a), some (.int b)] [.int (bI (decide (0 ≤ f ∧ f < (10 : Int32))))] T I J R
  by_cases hn1 : bI (decide (0 ≤ f ∧ f < (10 : Int32))) = 0
  · rw [hn1]
    exact kX11_68 hC rfl (m_X11_needIndexF (T := T) (I := I) (J := J) (R := R)) dX11_policy_6 rfl a_le a_le a_le a_le a_le rfl (aTh_x (ae_out hC hq a_le a_le (CP.th (j := 0) rfl (Or.inr (Or.inr (Or.inr ⟨fun q => absurd (show 0 ≤ f ∧ f < 10 from ⟨q.1, by have q9 := q.2; clear hC hq; simp only [i_lt, i_le, Int32.reduceToInt] at *; omega⟩) (of_decide_eq_false (bI_e0.mp (by assumption))), rfl, rfl⟩))) h9.gi))) aTh_k
  · refine kX11_68 hC rfl (m_X11_needIndexT (T := T) (I := I) (J := J) (R := R) (x := bI (decide (0 ≤ f ∧ f < (10 : Int32)))) hn1) dX11_policy_6 rfl a_le a_le a_le a_le a_le rfl aPure_x (aPure_k ?_)
    show AW X 0 0 9 [some (.ref 0), some (.int f), some (.int a), some (.int b)] [] T I J R
    refine aw_iload_n hC dX11_policy_9 rfl ?_
    refine aw_iconst (v := 0) hC dX11_policy_10 (by decide) ?_
    refine aw_bipush (v := 63) hC dX11_policy_11 (by decide) ?_
    refine kX11_126 hC rfl (m_X11_isWithin a (0 : Int32) (63 : Int32)) dX11_policy_13 rfl a_le a_le a_le a_le a_le rfl aPure_x (aPure_k ?_)
    show AW X 0 0 16 [some (.ref 0), some (.int f), some (.int a), some (.int b)] [.int (bI (decide ((0 : Int32) ≤ a ∧ a ≤ (63 : Int32))))] T I J R
    refine aw_if_eq (tgt := 33) hC dX11_policy_16 (by decide) (fun h2 => ?_) (fun h2 => ?_)
    · show AW X 0 0 33 [some (.ref 0), some (.int f), some (.int a), some (.int b)] [] T I J R
      refine aw_iconst (v := 0) hC dX11_policy_33 (by decide) ?_
      exact kX11_130 hC rfl (m_X11_needArgumentF (T := T) (I := I) (J := J) (R := R)) dX11_policy_34 rfl a_le a_le a_le a_le a_le rfl (aTh_x (ae_out hC hq a_le a_le (CP.th (j := 1) rfl (Or.inr (Or.inr (Or.inl ⟨by have q9 : 0 ≤ f ∧ f < 10 := of_decide_eq_true (bI_n0.mp (by assumption)); clear hC hq; (try simp only [bI_e0, bI_n0, decide_eq_false_iff_not, decide_eq_true_eq, Classical.not_not] at *); (simp only [i_lt, i_le, i_eq, Int32.reduceToInt] at *); omega, by clear hC hq; (try simp only [bI_e0, bI_n0, decide_eq_false_iff_not, decide_eq_true_eq, Classical.not_not] at *); (simp only [i_lt, i_le, i_eq, Int32.reduceToInt] at *); omega, rfl, rfl⟩))) h9.gi))) aTh_k
    · show AW X 0 0 19 [some (.ref 0), some (.int f), some (.int a), some (.int b)] [] T I J R
      refine aw_iload_n hC dX11_policy_19 rfl ?_
      refine aw_iload_n hC dX11_policy_20 rfl ?_
      refine aw_bipush (v := 63) hC dX11_policy_21 (by decide) ?_
      refine kX11_126 hC rfl (m_X11_isWithin b a (63 : Int32)) dX11_policy_23 rfl a_le a_le a_le a_le a_le rfl aPure_x (aPure_k ?_)
      show AW X 0 0 26 [some (.ref 0), some (.int f), some (.int a), some (.int b)] [.int (bI (decide (a ≤ b ∧ b ≤ (63 : Int32))))] T I J R
      refine aw_if_eq (tgt := 33) hC dX11_policy_26 (by decide) (fun h3 => ?_) (fun h3 => ?_)
      · show AW X 0 0 33 [some (.ref 0), some (.int f), some (.int a), some (.int b)] [] T I J R
        refine aw_iconst (v := 0) hC dX11_policy_33 (by decide) ?_
        exact kX11_130 hC rfl (m_X11_needArgumentF (T := T) (I := I) (J := J) (R := R)) dX11_policy_34 rfl a_le a_le a_le a_le a_le rfl (aTh_x (ae_out hC hq a_le a_le (CP.th (j := 1) rfl (Or.inr (Or.inr (Or.inl ⟨by have q9 : 0 ≤ f ∧ f < 10 := of_decide_eq_true (bI_n0.mp (by assumption)); clear hC hq; (try simp only [bI_e0, bI_n0, decide_eq_false_iff_not, decide_eq_true_eq, Classical.not_not] at *); (simp only [i_lt, i_le, i_eq, Int32.reduceToInt] at *); omega, by clear hC hq; (try simp only [bI_e0, bI_n0, decide_eq_false_iff_not, decide_eq_true_eq, Classical.not_not] at *); (simp only [i_lt, i_le, i_eq, Int32.reduceToInt] at *); omega, rfl, rfl⟩))) h9.gi))) aTh_k
      · show AW X 0 0 29 [some (.ref 0), some (.int f), some (.int a), some (.int b)] [] T I J R
        refine aw_iconst (v := 1) hC dX11_policy_29 (by decide) ?_
        refine aw_goto (tgt := 34) hC dX11_policy_30 (by decide) ?_
        have hac : ((0 ≤ a ∧ a ≤ 63) ∧ (a ≤ b ∧ b ≤ 63)) := by clear hC hq; (try simp only [bI_e0, bI_n0, decide_eq_false_iff_not, decide_eq_true_eq, Classical.not_not] at *); (simp only [i_lt, i_le, i_eq, Int32.reduceToInt] at *); omega
        refine kX11_130 hC rfl (m_X11_needArgumentT (T := T) (I := I) (J := J) (R := R) (x := 1) (by decide)) dX11_policy_34 rfl a_le a_le a_le a_le a_le rfl aPure_x (aPure_k ?_)
        show AW X 0 0 37 [some (.ref 0), some (.int f), some (.int a), some (.int b)] [] T I J R
        have hfc : (0 ≤ f ∧ f ≤ 9) := by have q9 : 0 ≤ f ∧ f < 10 := of_decide_eq_true (bI_n0.mp (by assumption)); clear hC hq; (try simp only [bI_e0, bI_n0, decide_eq_false_iff_not, decide_eq_true_eq, Classical.not_not] at *); (simp only [i_lt, i_le, i_eq, Int32.reduceToInt] at *); omega
        obtain ⟨f1, hf1, ef1⟩ := i_nat (x := f) (z := 10) (b := 10) hfc.1 (by have q9 := hfc.2; clear hC hq; simp only [i_lt, i_le, Int32.reduceToInt] at *; omega) rfl (by decide)
        obtain ⟨a1, ha1, ea1⟩ := i_nat (x := a) (z := 64) (b := 64) hac.1.1 (by have q9 := hac.1.2; clear hC hq; simp only [i_lt, i_le, Int32.reduceToInt] at *; omega) rfl (by decide)
        obtain ⟨b1, hb1, eb1⟩ := i_nat (x := b) (z := 64) (b := 64) (by have q9 := hac; clear hC hq; simp only [i_lt, i_le, Int32.reduceToInt] at *; omega) (by have q9 := hac.2.2; clear hC hq; simp only [i_lt, i_le, Int32.reduceToInt] at *; omega) rfl (by decide)
        subst ef1
        subst ea1
        subst eb1
        show AW X 0 0 37 [some (.ref 0), some (.int (nI f1)), some (.int (nI a1)), some (.int (nI b1))] [] T I J R
        refine aw_aload_n hC dX11_policy_37 rfl ?_
        refine aw_getI hC dX11_policy_38 aF_X11_175 rfl (tg_0 hT) ?_
        rw [h9.cpo.1]
        refine aw_bipush (v := 8) hC dX11_policy_41 (by decide) ?_
        refine aw_icmp_ge (tgt := 50) hC dX11_policy_43 (by decide) (fun h4 => ?_) (fun h4 => ?_)
        · show AW X 0 0 50 [some (.ref 0), some (.int (nI f1)), some (.int (nI a1)), some (.int (nI b1))] [] T I J R
          have h4n : 8 ≤ k := (nI_leI (a := 8) (b := k) (by omega) (by omega)).mp h4
          refine aw_iconst (v := 0) hC dX11_policy_50 (by decide) ?_
          exact kX11_88 hC rfl (m_X11_needStateF (T := T) (I := I) (J := J) (R := R)) dX11_policy_51 rfl a_le a_le a_le a_le a_le rfl (aTh_x (ae_out hC hq a_le a_le (CP.th (j := 2) rfl (Or.inr (Or.inl ⟨hfc, hac, by omega, rfl, rfl⟩)) h9.gi))) aTh_k
        · show AW X 0 0 46 [some (.ref 0), some (.int (nI f1)), some (.int (nI a1)), some (.int (nI b1))] [] T I J R
          have h4n : ¬ 8 ≤ k := fun q9 => h4 ((nI_leI (a := 8) (b := k) (by omega) (by omega)).mpr q9)
          refine aw_iconst (v := 1) hC dX11_policy_46 (by decide) ?_
          refine aw_goto (tgt := 51) hC dX11_policy_47 (by decide) ?_
          refine kX11_88 hC rfl (m_X11_needStateT (T := T) (I := I) (J := J) (R := R) (x := 1) (by decide)) dX11_policy_51 rfl a_le a_le a_le a_le a_le rfl aPure_x (aPure_k ?_)
          show AW X 0 0 54 [some (.ref 0), some (.int (nI f1)), some (.int (nI a1)), some (.int (nI b1))] [] T I J R
          refine aw_aload_n hC dX11_policy_54 rfl ?_
          refine aw_getR hC dX11_policy_55 aF_X11_50 rfl (tg_0 hT) (pr_0_5 hR) ?_
          refine aw_aload_n hC dX11_policy_58 rfl ?_
          refine aw_getI hC dX11_policy_59 aF_X11_175 rfl (tg_0 hT) ?_
          rw [h9.cpo.1]
          refine aw_iload_n hC dX11_policy_62 rfl ?_
          refine aw_iastore_k (j := k) hC dX11_policy_63 (tg_41 hT) (nI_clamp (by omega)) (vp_in_nI (by omega) (by decide)) ?_
          refine aw_aload_n hC dX11_policy_64 rfl ?_
          refine aw_getR hC dX11_policy_65 aF_X11_54 rfl (tg_0 hT) (pr_0_6 hR) ?_
          refine aw_aload_n hC dX11_policy_68 rfl ?_
          refine aw_getI hC dX11_policy_69 aF_X11_175 rfl (tg_0 hT) ?_
          rw [a_u_ne (f := I) (o := 41) (k := k) (a := 0) (b := 7) (v := nI f1) (fun q => absurd q.1 (by decide))]
          rw [h9.cpo.1]
          refine aw_iload_n hC dX11_policy_72 rfl ?_
          refine aw_iload_n hC dX11_policy_73 rfl ?_
          refine kX11_178 hC rfl (m_X7_range (a := a1) (b := b1) (by omega) (by omega)) dX11_policy_74 rfl a_le a_le a_le a_le a_le rfl aPure_x (aPure_k ?_)
          show AW X 0 0 77 [some (.ref 0), some (.int (nI f1)), some (.int (nI a1)), some (.int (nI b1))] [.long (sRng a1 (nI b1)), .int (nI k), .ref 42] T (a_u I 41 k (nI f1)) J R
          refine aw_lastore_k (j := k) hC dX11_policy_77 (tg_42 hT) (nI_clamp (by omega)) (vp_in_nI (by omega) (by decide)) ?_
          refine aw_aload_n hC dX11_policy_78 rfl ?_
          refine aw_dup hC dX11_policy_79 rfl ?_
          refine aw_getI hC dX11_policy_80 aF_X11_175 rfl (tg_0 hT) ?_
          rw [a_u_ne (f := I) (o := 41) (k := k) (a := 0) (b := 7) (v := nI f1) (fun q => absurd q.1 (by decide))]
          rw [h9.cpo.1]
          refine aw_iconst (v := 1) hC dX11_policy_83 (by decide) ?_
          refine aw_iadd hC dX11_policy_84 ?_
          rw [show (nI k) + 1 = nI (k + 1) from nI_add k 1]
          refine aw_putI hC dX11_policy_85 aF_X11_175 rfl rfl (tg_0 hT) ?_
          refine aw_aload_n hC dX11_policy_88 rfl ?_
          refine aw_getI hC dX11_policy_89 aF_X11_175 rfl (tg_0 hT) ?_
          rw [a_u_self (f := a_u I 41 k (nI f1)) (o := 0) (k := 7) (v := nI (k + 1))]
          refine aw_iconst (v := 1) hC dX11_policy_92 (by decide) ?_
          refine aw_isub hC dX11_policy_93 ?_
          rw [show (nI (k + 1)) - 1 = nI ((k + 1) - 1) from pk_sub (a := (k + 1)) (b := 1) (by omega)]
          exact aw_ireturn hC hq rfl dX11_policy_94 a_le a_le (CP.ok (Or.inl ⟨hfc, hac, by omega, rfl, by first | rfl | exact (show nI (k + 1 - 1) = nI k from congrArg nI (Nat.add_sub_cancel k 1)), by rw [nI_clamp (by omega), nI_clamp (by omega), nI_clamp (by omega)]⟩) (fun o u v => ⟨by rw [a_u_row (by omega), a_u_row (by omega)], a_u_row (by omega)⟩) (po_g9 h9 (by omega) hf1 ha1 hb1).gi)
theorem at128 {x a : Nat} (hx : x < 1000) (ha : a < 128) : (128 * nI x + nI a).toNatClampNeg = 128 * x + a := by
  rw [show (128 * nI x + nI a : Int32) = nI (128 * x + a) from by rw [← nI_add, ← pk_mul, show nI 128 = 128 from rfl], nI_clamp (by omega)]
set_option maxRecDepth 100000 in
theorem m_X11_action {T : List aT} {I : aI} {J : aJ} {R : aR} {m : aI} {c n : Nat} {sq : Nat → Nat} {g : Nat} {gq eq : Nat → Nat} {r p : Nat} {pq : Nat → Nat} {k : Nat} (h9 : G9 T I J R m c n sq g gq eq r p pq k) (x y : Int32) : MX11_action 3 200 [.ref 0, .int x, .int y] T I J R (CP [exI] I J m c (fun k v m2 => (((0 ≤ x ∧ x < nI p) ∧ (0 ≤ y ∧ y < nI (iN m 79 x.toNatClampNeg))) ∧ k = 0 ∧ v = m 80 (128 * x + y).toNatClampNeg ∧ m2 = m) ∨ (¬ ((0 ≤ x ∧ x < nI p) ∧ (0 ≤ y ∧ y < nI (iN m 79 x.toNatClampNeg))) ∧ k = 1 ∧ m2 = m))) := by
  refine a_met (by decide +kernel) a_le (fun X hC hq => ?_)
  show AW X 0 0 0 [some (.ref 0), some (.int x), some (.int y)] [] T I J R
  have hT := h9.hT
  have hR := h9.hR
  have hp40 := h9.pl.2.1
  refine aw_iload_n hC dX11_action_0 rfl ?_
  refine aw_aload_n hC dX11_action_1 rfl ?_
  refine aw_getI hC dX11_action_2 aF_X11_275 rfl (tg_0 hT) ?_
  rw [h9.cpl.1]
  refine kX11_64 hC rfl (m_X11_isBelow x (nI p)) dX11_action_5 rfl a_le a_le a_le a_le a_le rfl aPure_x (aPure_k ?_)
  show AW X 0 0 8 [some (.ref 0), some (.int x), some (.int y)] [.int (bI (decide (0 ≤ x ∧ x < (nI p))))] T I J R
  by_cases hn1 : bI (decide (0 ≤ x ∧ x < (nI p))) = 0
  · rw [hn1]
    exact kX11_68 hC rfl (m_X11_needIndexF (T := T) (I := I) (J := J) (R := R)) dX11_action_8 rfl a_le a_le a_le a_le a_le rfl (aTh_x (ae_out hC hq a_le a_le (CP.th (j := 0) rfl (Or.inr ⟨fun q => absurd q.1 (of_decide_eq_false (bI_e0.mp (by assumption))), rfl, rfl⟩) h9.gi))) aTh_k
  · refine kX11_68 hC rfl (m_X11_needIndexT (T := T) (I := I) (J := J) (R := R) (x := bI (decide (0 ≤ x ∧ x < (nI p)))) hn1) dX11_action_8 rfl a_le a_le a_le a_le a_le rfl aPure_x (aPure_k ?_)
    show AW X 0 0 11 [some (.ref 0), some (.int x), some (.int y)] [] T I J R
    have hfcx : 0 ≤ x ∧ x < nI (p) := of_decide_eq_true (bI_n0.mp (by assumption))
    obtain ⟨x1, hx1, ex1⟩ := i_nat (x := x) (b := p) hfcx.1 hfcx.2 rfl (by first | decide | omega)
    subst ex1
    have hcp := h9.cpl.2 x1 hx1
    have h79 := (h9.pl.2.2.2.1.1 x1 (by omega)).2
    show AW X 0 0 11 [some (.ref 0), some (.int (nI x1)), some (.int y)] [] T I J R
    refine aw_iload_n hC dX11_action_11 rfl ?_
    refine aw_aload_n hC dX11_action_12 rfl ?_
    refine aw_getR hC dX11_action_13 aF_X11_60 rfl (tg_0 hT) (pr_0_8 hR) ?_
    refine aw_iload_n hC dX11_action_16 rfl ?_
    refine aw_aaloadR_k (j := x1) hC dX11_action_17 (tg_43 hT) (nI_clamp (by omega)) (vp_in_nI (by omega) (by decide)) hcp.1 ?_
    refine aw_getR hC dX11_action_18 aF_X11_293 rfl hcp.2.1 hcp.2.2.1 ?_
    refine aw_alen (v := nI (iN m 79 x1)) hC dX11_action_21 hcp.2.2.2.1 rfl ?_
    refine kX11_64 hC rfl (m_X11_isBelow y (nI (iN m 79 x1))) dX11_action_22 rfl a_le a_le a_le a_le a_le rfl aPure_x (aPure_k ?_)
    show AW X 0 0 25 [some (.ref 0), some (.int (nI x1)), some (.int y)] [.int (bI (decide (0 ≤ y ∧ y < (nI (iN m 79 x1)))))] T I J R
    by_cases hn2 : bI (decide (0 ≤ y ∧ y < (nI (iN m 79 x1)))) = 0
    · rw [hn2]
      exact kX11_68 hC rfl (m_X11_needIndexF (T := T) (I := I) (J := J) (R := R)) dX11_action_25 rfl a_le a_le a_le a_le a_le rfl (aTh_x (ae_out hC hq a_le a_le (CP.th (j := 0) rfl (Or.inr ⟨fun q => absurd q.2 (by rw [nI_clamp (by omega)]; exact of_decide_eq_false (bI_e0.mp (by assumption))), rfl, rfl⟩) h9.gi))) aTh_k
    · refine kX11_68 hC rfl (m_X11_needIndexT (T := T) (I := I) (J := J) (R := R) (x := bI (decide (0 ≤ y ∧ y < (nI (iN m 79 x1))))) hn2) dX11_action_25 rfl a_le a_le a_le a_le a_le rfl aPure_x (aPure_k ?_)
      show AW X 0 0 28 [some (.ref 0), some (.int (nI x1)), some (.int y)] [] T I J R
      have hfcy : 0 ≤ y ∧ y < nI ((iN m 79 x1)) := of_decide_eq_true (bI_n0.mp (by assumption))
      obtain ⟨y1, hy1, ey1⟩ := i_nat (x := y) (b := (iN m 79 x1)) hfcy.1 hfcy.2 rfl (by first | decide | omega)
      subst ey1
      show AW X 0 0 28 [some (.ref 0), some (.int (nI x1)), some (.int (nI y1))] [] T I J R
      refine aw_aload_n hC dX11_action_28 rfl ?_
      refine aw_getR hC dX11_action_29 aF_X11_60 rfl (tg_0 hT) (pr_0_8 hR) ?_
      refine aw_iload_n hC dX11_action_32 rfl ?_
      refine aw_aaloadR_k (j := x1) hC dX11_action_33 (tg_43 hT) (nI_clamp (by omega)) (vp_in_nI (by omega) (by decide)) hcp.1 ?_
      refine aw_getR hC dX11_action_34 aF_X11_293 rfl hcp.2.1 hcp.2.2.1 ?_
      refine aw_iload_n hC dX11_action_37 rfl ?_
      refine aw_iaload_k (j := y1) hC dX11_action_38 hcp.2.2.2.1 (nI_clamp (by omega)) (vp_in_nI (by omega) (by omega)) ?_
      rw [(hcp.2.2.2.2.2.2.2.2 y1 hy1)]
      exact aw_ireturn hC hq rfl dX11_action_39 a_le a_le (CP.ok (Or.inl ⟨⟨hfcx, by rw [nI_clamp (by omega)]; exact hfcy⟩, rfl, by rw [at128 (by omega) (by omega)], rfl⟩) (fun _ _ _ => ⟨rfl, rfl⟩) h9.gi)
