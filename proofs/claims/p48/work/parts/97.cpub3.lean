theorem p1_s1 (l : Int32) : l = l + 1 - 1 := (Int32.add_sub_cancel l 1).symm
theorem lk_g9 {T : List aT} {I : aI} {J : aJ} {R : aR} {m : aI} {c n : Nat} {sq : Nat → Nat} {g : Nat} {gq eq : Nat → Nat} {r p : Nat} {pq : Nat → Nat} {k : Nat} (h9 : G9 T I J R m c n sq g gq eq r p pq k) {f : Nat} {l : Int32} (hf : f < 10) : G9 T (a_u (a_u I 4 f l) 8 11 0) J R (a_u m 55 f (l + 1)) c n sq g gq eq r p pq k := by
  have hs := h9.bk
  have b := h9.cb.2.1
  refine h9.book (List.prefix_refl _) (fun o u v => by rw [a_u_row (by omega), a_u_row (by omega)]) (fun _ _ _ => rfl) h9.hR (fun o u v => a_u_row (by omega)) (fun k _ _ _ _ _ _ => by rw [a_u_row (by decide)]) ⟨SW_cgr hs.1 (fun o u v => a_u_row (by omega)) (by rw [a_u_row (by decide)]), by rw [a_u_row (by decide), a_u_row (by decide)]; exact hs.2.1, NR_cg (a_u_row (by decide)) hs.2.2.1, by rw [a_u_row (by decide), a_u_row (by decide), a_u_row (by decide), a_u_row (by decide)]; exact hs.2.2.2⟩ (by obtain ⟨d, d1, d2⟩ := h9.dy; exact ⟨d, by rw [a_u_row (by decide)]; exact d1, d2⟩) (((h9.cb.1.put (tg_4 h9.hT) (by decide) (by decide)).put (tg_8 h9.hT) (by decide) (by decide)).cgm (fun o u v => a_u_row (by omega))) ?_ a_u_self
  refine ⟨fun q hq => ?_, fun q hq => ?_, fun q hq => ?_, fun q hq => ?_, ?_⟩
  · rw [a_u_row (by decide), a_u_row (by decide), a_u_row (by decide)]; exact b.1 q hq
  · rw [a_u_row (by decide)]
    by_cases z : q = f
    · rw [z, a_u_self, a_u_self]; exact p1_s1 l
    · rw [a_u_ne (fun w => z w.2), a_u_ne (fun w => z w.2)]; exact b.2.1 q hq
  · rw [a_u_row (by decide), a_u_row (by decide), a_u_row (by decide)]; exact b.2.2.1 q hq
  · rw [a_u_row (by decide), a_u_row (by decide), a_u_row (by decide)]; exact b.2.2.2.1 q hq
  · rw [a_u_row (by decide), a_u_row (by decide), a_u_row (by decide)]; exact b.2.2.2.2
theorem ec_g9 {T : List aT} {I : aI} {J : aJ} {R : aR} {m : aI} {c n : Nat} {sq : Nat → Nat} {g : Nat} {gq eq : Nat → Nat} {r p : Nat} {pq : Nat → Nat} {k : Nat} (h9 : G9 T I J R m c n sq g gq eq r p pq k) {j : Nat} {l : Int32} (hj : j < 60) : G9 T (a_u (a_u I 5 j l) 8 11 0) J R (a_u m 56 j l) c n sq g gq eq r p pq k := by
  have hs := h9.bk
  have b := h9.cb.2.1
  refine h9.book (List.prefix_refl _) (fun o u v => by rw [a_u_row (by omega), a_u_row (by omega)]) (fun _ _ _ => rfl) h9.hR (fun o u v => a_u_row (by omega)) (fun k _ _ _ _ _ _ => by rw [a_u_row (by decide)]) ⟨SW_cgr hs.1 (fun o u v => a_u_row (by omega)) (by rw [a_u_row (by decide)]), by rw [a_u_row (by decide), a_u_row (by decide)]; exact hs.2.1, NR_cg (a_u_row (by decide)) hs.2.2.1, by rw [a_u_row (by decide), a_u_row (by decide), a_u_row (by decide), a_u_row (by decide)]; exact hs.2.2.2⟩ (by obtain ⟨d, d1, d2⟩ := h9.dy; exact ⟨d, by rw [a_u_row (by decide)]; exact d1, d2⟩) (((h9.cb.1.put (tg_5 h9.hT) (by decide) (by decide)).put (tg_8 h9.hT) (by decide) (by decide)).cgm (fun o u v => a_u_row (by omega))) ?_ a_u_self
  refine ⟨fun q hq => ?_, fun q hq => ?_, fun q hq => ?_, fun q hq => ?_, ?_⟩
  · rw [a_u_row (by decide), a_u_row (by decide), a_u_row (by decide)]; exact b.1 q hq
  · rw [a_u_row (by decide), a_u_row (by decide), a_u_row (by decide)]; exact b.2.1 q hq
  · rw [a_u_row (by decide)]
    by_cases z : q = j
    · rw [z, a_u_self, a_u_self]
    · rw [a_u_ne (fun w => z w.2), a_u_ne (fun w => z w.2)]; exact b.2.2.1 q hq
  · rw [a_u_row (by decide), a_u_row (by decide), a_u_row (by decide)]; exact b.2.2.2.1 q hq
  · rw [a_u_row (by decide), a_u_row (by decide), a_u_row (by decide)]; exact b.2.2.2.2
theorem dy_g9 {T : List aT} {I : aI} {J : aJ} {R : aR} {m : aI} {c n : Nat} {sq : Nat → Nat} {g : Nat} {gq eq : Nat → Nat} {r p : Nat} {pq : Nat → Nat} {k : Nat} (h9 : G9 T I J R m c n sq g gq eq r p pq k) {d : Nat} (hd : d ≤ 30) : G9 T (a_u (a_u I 1 6 (m 44 13 + nI d)) 8 11 0) J R (a_u m 44 13 (m 44 13 + nI d)) (c + 1) n sq g gq eq r p pq k := by
  have hs := h9.bk
  have b := h9.cb.2.1
  have cs := h9.cb.1
  refine h9.book (List.prefix_refl _) (fun o u v => by rw [a_u_row (by omega), a_u_row (by omega)]) (fun _ _ _ => rfl) h9.hR (fun o u v => a_u_row (by omega)) (fun k _ hk _ _ _ _ => a_u_ne (fun z => hk z.2)) ⟨SW_cgr hs.1 (fun o u v => a_u_row (by omega)) (a_u_ne (fun z => absurd z.2 (by decide))), by rw [a_u_row (by decide), a_u_row (by decide)]; exact hs.2.1, NR_cg (a_u_row (by decide)) hs.2.2.1, by rw [a_u_row (by decide), a_u_row (by decide), a_u_row (by decide), a_u_row (by decide)]; exact hs.2.2.2⟩ (by obtain ⟨d0, d1, d2⟩ := h9.dy; exact ⟨d0 + d, by rw [a_u_self, d1, nI_add], by omega⟩) ?_ ?_ a_u_self
  · refine CSt.cgm (m := m) ⟨?_, fun s hs9 => ⟨cs.rf hs9, ?_⟩, cs.2.2⟩ (fun o u v => a_u_row (by omega))
    · rw [a_u_row (by decide), a_u_ne (fun z => absurd z.2 (by decide))]; exact cs.1
    · have q := cs.at hs9
      have g95 := cs.ge h9.hT hs9
      unfold StAt at *
      rw [a_u_row (by omega), a_u_row (by omega)]; exact q
  · refine ⟨fun q hq => ?_, fun q hq => ?_, fun q hq => ?_, fun q hq => ?_, ?_⟩
    · rw [a_u_row (by decide), a_u_row (by decide), a_u_row (by decide)]; exact b.1 q hq
    · rw [a_u_row (by decide), a_u_row (by decide), a_u_row (by decide)]; exact b.2.1 q hq
    · rw [a_u_row (by decide), a_u_row (by decide), a_u_row (by decide)]; exact b.2.2.1 q hq
    · rw [a_u_row (by decide), a_u_row (by decide), a_u_row (by decide)]; exact b.2.2.2.1 q hq
    · rw [a_u_row (by decide), a_u_self, a_u_self]
/-- an apply ends -/
theorem en_g9 {T : List aT} {I : aI} {J : aJ} {R : aR} {m : aI} {c n : Nat} {sq : Nat → Nat} {g : Nat} {gq eq : Nat → Nat} {r p : Nat} {pq : Nat → Nat} {k : Nat} (h9 : G9 T I J R m c n sq g gq eq r p pq k) : G9 T (a_u I 38 0 0) J (a_u R 38 3 none) (a_u (a_u m 44 43 (-1)) 44 45 (-1)) c n sq g gq eq r p pq k := by
  have hT := h9.hT
  have h4 : ∀ k, k ≠ 43 → k ≠ 45 → a_u (a_u m 44 43 (-1)) 44 45 (-1) 44 k = m 44 k := fun k a b => by rw [a_u_ne (fun z => b z.2), a_u_ne (fun z => a z.2)]
  have hm : ∀ o, o ≠ 44 → a_u (a_u m 44 43 (-1)) 44 45 (-1) o = m o := fun o ho => by rw [a_u_row ho, a_u_row ho]
  have e43 : a_u (a_u m 44 43 (-1)) 44 45 (-1) 44 43 = -1 := by rw [a_u_ne (fun z => absurd z.2 (by decide)), a_u_self]
  have e45 : a_u (a_u m 44 43 (-1)) 44 45 (-1) 44 45 = -1 := a_u_self
  have ii : ∀ o, o ≠ 38 → a_u I 38 0 0 o = I o := fun o ho => a_u_row ho
  have rr : ∀ o, o ≠ 38 → a_u R 38 3 none o = R o := fun o ho => a_u_row ho
  have h95 := hT.len
  refine ⟨hT, h9.hR.put (by decide +kernel), ⟨MBk_cg h9.bk (fun o u v => hm o (by omega)) (h4 0 (by decide) (by decide)), MEs_cg h9.es (fun o u v => hm o (by omega)) (h4 20 (by decide) (by decide)), ?_, MPo_cg h9.po (hm 57 (by decide)) (h4 14 (by decide) (by decide)), ?_⟩, ?_, ?_, ?_, ?_, h9.cpi, ?_⟩
  · have q := h9.pl
    refine ⟨(h4 36 (by decide) (by decide)).trans q.1, q.2.1, fun i hi => PlOK_cg (hm 79 (by decide)) (hm 80 (by decide)) (q.2.2.1 i hi), ⟨NR_cg (hm 79 (by decide)) q.2.2.2.1.1, by rw [hm 77 (by decide), hm 78 (by decide)]; exact q.2.2.2.1.2⟩, ?_⟩
    have w := q.2.2.2.2
    refine ⟨?_, ?_, Or.inl e45, Or.inl e43⟩
    · have w1 := w.1; unfold B01 at *; rw [hm 81 (by decide)]; exact w1
    · have w2 := w.2.1; unfold iN at *; rw [hm 82 (by decide)]; exact w2
  · obtain ⟨d, d1, d2⟩ := h9.dy
    exact ⟨d, (h4 13 (by decide) (by decide)).trans d1, d2⟩
  · exact (h9.cb.fr (List.prefix_refl _) (fun o u => ⟨ii o (by omega), rfl⟩) (fun s hs => by have := (h9.cb.sq hT hs).2.2; exact ⟨ii _ (by omega), rr _ (by omega)⟩) (rr 2 (by decide))).cgm ⟨fun o u => hm o (by omega), h4 0 (by decide) (by decide), h4 13 (by decide) (by decide)⟩
  · have q := h9.cpo.fr (I2 := a_u I 38 0 0) (J2 := J) (by rw [ii 0 (by decide)]) (ii 41 (by decide)) rfl
    unfold CPo iN at *; rw [hm 57 (by decide)]; exact q
  · exact (h9.ces.frt hT (List.prefix_refl _) (fun o u v => ii o (by omega)) (fun o u v _ _ => ⟨ii o (by omega), rr o (by omega)⟩) (rr 21 (by decide)) (rr 25 (by decide))).cgm (fun o u v => hm o (by omega)) (h4 25 (by decide) (by decide)) (h4 35 (by decide) (by decide))
  · exact (h9.cpl.fr (List.prefix_refl _) (by rw [ii 0 (by decide)]) (fun i hi => by have := (h9.cpl.pq hT hi).1.2.2; exact ⟨ii _ (by omega), ii _ (by omega), rr _ (by omega)⟩) (rr 43 (by decide))).cgm (fun o u v => hm o (by omega))
  · refine ⟨fun _ => a_u_self, fun p hp z => absurd (e43.symm.trans z) (fun y => nI_ne1b (by omega) y.symm), ?_, fun z => absurd z (by rw [e45]; decide)⟩
    rw [e45, a_u_self]; rfl
theorem nolk_g9 {T : List aT} {I : aI} {J : aJ} {R : aR} {m : aI} {c n : Nat} {sq : Nat → Nat} {g : Nat} {gq eq : Nat → Nat} {r p : Nat} {pq : Nat → Nat} {k : Nat} (h9 : G9 T I J R m c n sq g gq eq r p pq k) (h : ¬ 0 ≤ m 44 45) : a_u (a_u m 44 43 (-1)) 44 45 (-1) = m := by
  have w := h9.pl.2.2.2.2
  have e45 : m 44 45 = -1 := w.2.2.1.elim id (fun z => absurd z h)
  have e43 : m 44 43 = -1 := w.2.2.2.elim id (fun z => by obtain ⟨i, a, _, _, _, _, q, _⟩ := z; exact absurd q h)
  rw [show a_u m 44 43 (-1) = m from a_u_same e43, a_u_same e45]
set_option maxRecDepth 100000 in
theorem m_X11_lock {T : List aT} {I : aI} {J : aJ} {R : aR} {m : aI} {c n : Nat} {sq : Nat → Nat} {g : Nat} {gq eq : Nat → Nat} {r p : Nat} {pq : Nat → Nat} {k : Nat} (h9 : G9 T I J R m c n sq g gq eq r p pq k) (f l : Int32) : MX11_lock 3 200 [.ref 0, .int f, .int l] T I J R (CP [exI] I J m c (fun k v m2 => (((0 ≤ f ∧ f ≤ 9) ∧ (-1 ≤ l ∧ l ≤ 3)) ∧ k = 0 ∧ v = m 55 f.toNatClampNeg - 1 ∧ m2 = a_u m 55 f.toNatClampNeg (l + 1)) ∨ (¬ ((0 ≤ f ∧ f ≤ 9) ∧ (-1 ≤ l ∧ l ≤ 3)) ∧ k = 1 ∧ m2 = m))) := by
  refine a_met (by decide +kernel) a_le (fun X hC hq => ?_)
  show AW X 0 0 0 [some (.ref 0), some (.int f), some (.int l), none] [] T I J R
  have hT := h9.hT
  have hR := h9.hR
  refine aw_iload_n hC dX11_lock_0 rfl ?_
  refine aw_bipush (v := 10) hC dX11_lock_1 (by decide) ?_
  refine kX11_64 hC rfl (m_X11_isBelow f (10 : Int32)) dX11_lock_3 rfl a_le a_le a_le a_le a_le rfl aPure_x (aPure_k ?_)
  show AW X 0 0 6 [some (.ref 0), some (.int f), some (.int l), none] [.int (bI (decide (0 ≤ f ∧ f < (10 : Int32))))] T I J R
  refine aw_if_eq (tgt := 26) hC dX11_lock_6 (by decide) (fun h1 => ?_) (fun h1 => ?_)
  · show AW X 0 0 26 [some (.ref 0), some (.int f), some (.int l), none] [] T I J R
    refine aw_iconst (v := 0) hC dX11_lock_26 (by decide) ?_
    exact kX11_68 hC rfl (m_X11_needIndexF (T := T) (I := I) (J := J) (R := R)) dX11_lock_27 rfl a_le a_le a_le a_le a_le rfl (aTh_x (ae_out hC hq a_le a_le (CP.th (j := 0) rfl (Or.inr ⟨by clear hC hq; (try simp only [bI_e0, bI_n0, decide_eq_false_iff_not, decide_eq_true_eq, Classical.not_not] at *); (simp only [i_lt, i_le, i_eq, Int32.reduceToInt] at *); omega, rfl, rfl⟩) h9.gi))) aTh_k
  · show AW X 0 0 9 [some (.ref 0), some (.int f), some (.int l), none] [] T I J R
    refine aw_iload_n hC dX11_lock_9 rfl ?_
    refine aw_iconst (v := (-1)) hC dX11_lock_10 (by decide) ?_
    refine aw_icmp_eq (tgt := 22) hC dX11_lock_11 (by decide) (fun h2 => ?_) (fun h2 => ?_)
    · show AW X 0 0 22 [some (.ref 0), some (.int f), some (.int l), none] [] T I J R
      refine aw_iconst (v := 1) hC dX11_lock_22 (by decide) ?_
      refine aw_goto (tgt := 27) hC dX11_lock_23 (by decide) ?_
      have hlc : ((0 ≤ f ∧ f ≤ 9) ∧ (-1 ≤ l ∧ l ≤ 3)) := by clear hC hq; (try simp only [bI_e0, bI_n0, decide_eq_false_iff_not, decide_eq_true_eq, Classical.not_not] at *); (simp only [i_lt, i_le, i_eq, Int32.reduceToInt] at *); omega
      refine kX11_68 hC rfl (m_X11_needIndexT (T := T) (I := I) (J := J) (R := R) (x := 1) (by decide)) dX11_lock_27 rfl a_le a_le a_le a_le a_le rfl aPure_x (aPure_k ?_)
      show AW X 0 0 30 [some (.ref 0), some (.int f), some (.int l), none] [] T I J R
      have hfcf : 0 ≤ f ∧ f < 10 := of_decide_eq_true (bI_n0.mp (by assumption))
      obtain ⟨f1, hf1, ef1⟩ := i_nat (x := f) (b := 10) hfcf.1 hfcf.2 rfl (by first | decide | omega)
      subst ef1
      show AW X 0 0 30 [some (.ref 0), some (.int (nI f1)), some (.int l), none] [] T I J R
      refine aw_aload_n hC dX11_lock_30 rfl ?_
      refine aw_getR hC dX11_lock_31 aF_X11_10 rfl (tg_0 hT) (pr_0_0 hR) ?_
      refine aw_getR hC dX11_lock_34 aF_X11_123 rfl (tg_1 hT) (pr_1_3 hR) ?_
      refine aw_iload_n hC dX11_lock_37 rfl ?_
      refine aw_iaload_k (j := f1) hC dX11_lock_38 (tg_4 hT) (nI_clamp (by omega)) (vp_in_nI (by omega) (by decide)) ?_
      rw [(h9.cb.2.1.2.1 f1 hf1)]
      refine aw_istore_n (L2 := [some (.ref 0), some (.int (nI f1)), some (.int l), some (.int (m 55 f1 - 1))]) hC dX11_lock_39 rfl (by decide) rfl ?_
      refine aw_aload_n hC dX11_lock_40 rfl ?_
      refine aw_getR hC dX11_lock_41 aF_X11_10 rfl (tg_0 hT) (pr_0_0 hR) ?_
      refine aw_getR hC dX11_lock_44 aF_X11_123 rfl (tg_1 hT) (pr_1_3 hR) ?_
      refine aw_iload_n hC dX11_lock_47 rfl ?_
      refine aw_iload_n hC dX11_lock_48 rfl ?_
      refine aw_iastore_k (j := f1) hC dX11_lock_49 (tg_4 hT) (nI_clamp (by omega)) (vp_in_nI (by omega) (by decide)) ?_
      refine aw_aload_n hC dX11_lock_50 rfl ?_
      refine aw_getR hC dX11_lock_51 aF_X11_21 rfl (tg_0 hT) (pr_0_1 hR) ?_
      refine kX11_91 hC rfl (m_X10_forget (I := a_u I 4 f1 l) hT hR) dX11_lock_54 (tg_8 hT) rfl a_le a_le a_le a_le a_le rfl aPure_x (aPure_k ?_)
      show AW X 0 0 57 [some (.ref 0), some (.int (nI f1)), some (.int l), some (.int (m 55 f1 - 1))] [] T (a_u (a_u I 4 f1 l) 8 11 0) J R
      refine aw_iload_n hC dX11_lock_57 rfl ?_
      exact aw_ireturn hC hq rfl dX11_lock_58 a_le a_le (CP.ok (Or.inl ⟨hlc, rfl, by rw [nI_clamp (by omega)], by rw [nI_clamp (by omega)]⟩) (fun o u v => ⟨by rw [a_u_row (by omega), a_u_row (by omega)], rfl⟩) (lk_g9 h9 hf1).gi)
    · show AW X 0 0 14 [some (.ref 0), some (.int f), some (.int l), none] [] T I J R
      refine aw_iload_n hC dX11_lock_14 rfl ?_
      refine aw_iconst (v := 4) hC dX11_lock_15 (by decide) ?_
      refine kX11_64 hC rfl (m_X11_isBelow l (4 : Int32)) dX11_lock_16 rfl a_le a_le a_le a_le a_le rfl aPure_x (aPure_k ?_)
      show AW X 0 0 19 [some (.ref 0), some (.int f), some (.int l), none] [.int (bI (decide (0 ≤ l ∧ l < (4 : Int32))))] T I J R
      refine aw_if_eq (tgt := 26) hC dX11_lock_19 (by decide) (fun h3 => ?_) (fun h3 => ?_)
      · show AW X 0 0 26 [some (.ref 0), some (.int f), some (.int l), none] [] T I J R
        refine aw_iconst (v := 0) hC dX11_lock_26 (by decide) ?_
        exact kX11_68 hC rfl (m_X11_needIndexF (T := T) (I := I) (J := J) (R := R)) dX11_lock_27 rfl a_le a_le a_le a_le a_le rfl (aTh_x (ae_out hC hq a_le a_le (CP.th (j := 0) rfl (Or.inr ⟨by clear hC hq; (try simp only [bI_e0, bI_n0, decide_eq_false_iff_not, decide_eq_true_eq, Classical.not_not] at *); (simp only [i_lt, i_le, i_eq, Int32.reduceToInt] at *); omega, rfl, rfl⟩) h9.gi))) aTh_k
      · show AW X 0 0 22 [some (.ref 0), some (.int f), some (.int l), none] [] T I J R
        refine aw_iconst (v := 1) hC dX11_lock_22 (by decide) ?_
        refine aw_goto (tgt := 27) hC dX11_lock_23 (by decide) ?_
        have hlc : ((0 ≤ f ∧ f ≤ 9) ∧ (-1 ≤ l ∧ l ≤ 3)) := by clear hC hq; (try simp only [bI_e0, bI_n0, decide_eq_false_iff_not, decide_eq_true_eq, Classical.not_not] at *); (simp only [i_lt, i_le, i_eq, Int32.reduceToInt] at *); omega
        refine kX11_68 hC rfl (m_X11_needIndexT (T := T) (I := I) (J := J) (R := R) (x := 1) (by decide)) dX11_lock_27 rfl a_le a_le a_le a_le a_le rfl aPure_x (aPure_k ?_)
        show AW X 0 0 30 [some (.ref 0), some (.int f), some (.int l), none] [] T I J R
        have hfcf : 0 ≤ f ∧ f < 10 := of_decide_eq_true (bI_n0.mp (by assumption))
        obtain ⟨f1, hf1, ef1⟩ := i_nat (x := f) (b := 10) hfcf.1 hfcf.2 rfl (by first | decide | omega)
        subst ef1
        show AW X 0 0 30 [some (.ref 0), some (.int (nI f1)), some (.int l), none] [] T I J R
        refine aw_aload_n hC dX11_lock_30 rfl ?_
        refine aw_getR hC dX11_lock_31 aF_X11_10 rfl (tg_0 hT) (pr_0_0 hR) ?_
        refine aw_getR hC dX11_lock_34 aF_X11_123 rfl (tg_1 hT) (pr_1_3 hR) ?_
        refine aw_iload_n hC dX11_lock_37 rfl ?_
        refine aw_iaload_k (j := f1) hC dX11_lock_38 (tg_4 hT) (nI_clamp (by omega)) (vp_in_nI (by omega) (by decide)) ?_
        rw [(h9.cb.2.1.2.1 f1 hf1)]
        refine aw_istore_n (L2 := [some (.ref 0), some (.int (nI f1)), some (.int l), some (.int (m 55 f1 - 1))]) hC dX11_lock_39 rfl (by decide) rfl ?_
        refine aw_aload_n hC dX11_lock_40 rfl ?_
        refine aw_getR hC dX11_lock_41 aF_X11_10 rfl (tg_0 hT) (pr_0_0 hR) ?_
        refine aw_getR hC dX11_lock_44 aF_X11_123 rfl (tg_1 hT) (pr_1_3 hR) ?_
        refine aw_iload_n hC dX11_lock_47 rfl ?_
        refine aw_iload_n hC dX11_lock_48 rfl ?_
        refine aw_iastore_k (j := f1) hC dX11_lock_49 (tg_4 hT) (nI_clamp (by omega)) (vp_in_nI (by omega) (by decide)) ?_
        refine aw_aload_n hC dX11_lock_50 rfl ?_
        refine aw_getR hC dX11_lock_51 aF_X11_21 rfl (tg_0 hT) (pr_0_1 hR) ?_
        refine kX11_91 hC rfl (m_X10_forget (I := a_u I 4 f1 l) hT hR) dX11_lock_54 (tg_8 hT) rfl a_le a_le a_le a_le a_le rfl aPure_x (aPure_k ?_)
        show AW X 0 0 57 [some (.ref 0), some (.int (nI f1)), some (.int l), some (.int (m 55 f1 - 1))] [] T (a_u (a_u I 4 f1 l) 8 11 0) J R
        refine aw_iload_n hC dX11_lock_57 rfl ?_
        exact aw_ireturn hC hq rfl dX11_lock_58 a_le a_le (CP.ok (Or.inl ⟨hlc, rfl, by rw [nI_clamp (by omega)], by rw [nI_clamp (by omega)]⟩) (fun o u v => ⟨by rw [a_u_row (by omega), a_u_row (by omega)], rfl⟩) (lk_g9 h9 hf1).gi)
theorem at10 {x a : Nat} (hx : x < 6) (ha : a < 10) : (10 * nI x + nI a).toNatClampNeg = x * 10 + a := by
  rw [show (10 * nI x + nI a : Int32) = nI (x * 10 + a) from by rw [Nat.mul_comm, ← nI_add, ← pk_mul, show nI 10 = 10 from rfl], nI_clamp (by omega)]
set_option maxRecDepth 100000 in
theorem m_X11_except {T : List aT} {I : aI} {J : aJ} {R : aR} {m : aI} {c n : Nat} {sq : Nat → Nat} {g : Nat} {gq eq : Nat → Nat} {r p : Nat} {pq : Nat → Nat} {k : Nat} (h9 : G9 T I J R m c n sq g gq eq r p pq k) (f l d : Int32) : MX11_except 3 200 [.ref 0, .int f, .int l, .int d] T I J R (CP [exI, exA] I J m c (fun k v m2 => ((((0 ≤ f ∧ f ≤ 5) ∧ (0 ≤ l ∧ l ≤ 9)) ∧ (1 ≤ d ∧ d ≤ 30)) ∧ k = 0 ∧ v = m 44 13 + d ∧ m2 = a_u m 56 (10 * f + l).toNatClampNeg (m 44 13 + d)) ∨ (((0 ≤ f ∧ f ≤ 5) ∧ (0 ≤ l ∧ l ≤ 9)) ∧ ¬ (1 ≤ d ∧ d ≤ 30) ∧ k = 2 ∧ m2 = m) ∨ (¬ ((0 ≤ f ∧ f ≤ 5) ∧ (0 ≤ l ∧ l ≤ 9)) ∧ k = 1 ∧ m2 = m))) := by
  refine a_met (by decide +kernel) a_le (fun X hC hq => ?_)
  show AW X 0 0 0 [some (.ref 0), some (.int f), some (.int l), some (.int d), none] [] T I J R
  have hT := h9.hT
  have hR := h9.hR
  refine aw_iload_n hC dX11_except_0 rfl ?_
  refine aw_bipush (v := 6) hC dX11_except_1 (by decide) ?_
  refine kX11_64 hC rfl (m_X11_isBelow f (6 : Int32)) dX11_except_3 rfl a_le a_le a_le a_le a_le rfl aPure_x (aPure_k ?_)
  show AW X 0 0 6 [some (.ref 0), some (.int f), some (.int l), some (.int d), none] [.int (bI (decide (0 ≤ f ∧ f < (6 : Int32))))] T I J R
  refine aw_if_eq (tgt := 22) hC dX11_except_6 (by decide) (fun h1 => ?_) (fun h1 => ?_)
  · show AW X 0 0 22 [some (.ref 0), some (.int f), some (.int l), some (.int d), none] [] T I J R
    refine aw_iconst (v := 0) hC dX11_except_22 (by decide) ?_
    exact kX11_68 hC rfl (m_X11_needIndexF (T := T) (I := I) (J := J) (R := R)) dX11_except_23 rfl a_le a_le a_le a_le a_le rfl (aTh_x (ae_out hC hq a_le a_le (CP.th (j := 0) rfl (Or.inr (Or.inr ⟨by clear hC hq; (try simp only [bI_e0, bI_n0, decide_eq_false_iff_not, decide_eq_true_eq, Classical.not_not] at *); (simp only [i_lt, i_le, i_eq, Int32.reduceToInt] at *); omega, rfl, rfl⟩)) h9.gi))) aTh_k
  · show AW X 0 0 9 [some (.ref 0), some (.int f), some (.int l), some (.int d), none] [] T I J R
    refine aw_iload_n hC dX11_except_9 rfl ?_
    refine aw_bipush (v := 10) hC dX11_except_10 (by decide) ?_
    refine kX11_64 hC rfl (m_X11_isBelow l (10 : Int32)) dX11_except_12 rfl a_le a_le a_le a_le a_le rfl aPure_x (aPure_k ?_)
    show AW X 0 0 15 [some (.ref 0), some (.int f), some (.int l), some (.int d), none] [.int (bI (decide (0 ≤ l ∧ l < (10 : Int32))))] T I J R
    refine aw_if_eq (tgt := 22) hC dX11_except_15 (by decide) (fun h2 => ?_) (fun h2 => ?_)
    · show AW X 0 0 22 [some (.ref 0), some (.int f), some (.int l), some (.int d), none] [] T I J R
      refine aw_iconst (v := 0) hC dX11_except_22 (by decide) ?_
      exact kX11_68 hC rfl (m_X11_needIndexF (T := T) (I := I) (J := J) (R := R)) dX11_except_23 rfl a_le a_le a_le a_le a_le rfl (aTh_x (ae_out hC hq a_le a_le (CP.th (j := 0) rfl (Or.inr (Or.inr ⟨by clear hC hq; (try simp only [bI_e0, bI_n0, decide_eq_false_iff_not, decide_eq_true_eq, Classical.not_not] at *); (simp only [i_lt, i_le, i_eq, Int32.reduceToInt] at *); omega, rfl, rfl⟩)) h9.gi))) aTh_k
    · show AW X 0 0 18 [some (.ref 0), some (.int f), some (.int l), some (.int d), none] [] T I J R
      refine aw_iconst (v := 1) hC dX11_except_18 (by decide) ?_
      refine aw_goto (tgt := 23) hC dX11_except_19 (by decide) ?_
      have hec : ((0 ≤ f ∧ f ≤ 5) ∧ (0 ≤ l ∧ l ≤ 9)) := by clear hC hq; (try simp only [bI_e0, bI_n0, decide_eq_false_iff_not, decide_eq_true_eq, Classical.not_not] at *); (simp only [i_lt, i_le, i_eq, Int32.reduceToInt] at *); omega
      refine kX11_68 hC rfl (m_X11_needIndexT (T := T) (I := I) (J := J) (R := R) (x := 1) (by decide)) dX11_except_23 rfl a_le a_le a_le a_le a_le rfl aPure_x (aPure_k ?_)
      show AW X 0 0 26 [some (.ref 0), some (.int f), some (.int l), some (.int d), none] [] T I J R
      refine aw_iload_n hC dX11_except_26 rfl ?_
      refine aw_iconst (v := 1) hC dX11_except_27 (by decide) ?_
      refine aw_bipush (v := 30) hC dX11_except_28 (by decide) ?_
      refine kX11_126 hC rfl (m_X11_isWithin d (1 : Int32) (30 : Int32)) dX11_except_30 rfl a_le a_le a_le a_le a_le rfl aPure_x (aPure_k ?_)
      show AW X 0 0 33 [some (.ref 0), some (.int f), some (.int l), some (.int d), none] [.int (bI (decide ((1 : Int32) ≤ d ∧ d ≤ (30 : Int32))))] T I J R
      by_cases hn3 : bI (decide ((1 : Int32) ≤ d ∧ d ≤ (30 : Int32))) = 0
      · rw [hn3]
        exact kX11_130 hC rfl (m_X11_needArgumentF (T := T) (I := I) (J := J) (R := R)) dX11_except_33 rfl a_le a_le a_le a_le a_le rfl (aTh_x (ae_out hC hq a_le a_le (CP.th (j := 1) rfl (Or.inr (Or.inl ⟨hec, of_decide_eq_false (bI_e0.mp (by assumption)), rfl, rfl⟩)) h9.gi))) aTh_k
      · refine kX11_130 hC rfl (m_X11_needArgumentT (T := T) (I := I) (J := J) (R := R) (x := bI (decide ((1 : Int32) ≤ d ∧ d ≤ (30 : Int32)))) hn3) dX11_except_33 rfl a_le a_le a_le a_le a_le rfl aPure_x (aPure_k ?_)
        show AW X 0 0 36 [some (.ref 0), some (.int f), some (.int l), some (.int d), none] [] T I J R
        have hdc : 1 ≤ d ∧ d ≤ 30 := of_decide_eq_true (bI_n0.mp (by assumption))
        have hfcf : 0 ≤ f ∧ f < 6 := of_decide_eq_true (bI_n0.mp (by assumption))
        obtain ⟨f1, hf1, ef1⟩ := i_nat (x := f) (b := 6) hfcf.1 hfcf.2 rfl (by first | decide | omega)
        subst ef1
        have hfcl : 0 ≤ l ∧ l < 10 := of_decide_eq_true (bI_n0.mp (by assumption))
        obtain ⟨l1, hl1, el1⟩ := i_nat (x := l) (b := 10) hfcl.1 hfcl.2 rfl (by first | decide | omega)
        subst el1
        show AW X 0 0 36 [some (.ref 0), some (.int (nI f1)), some (.int (nI l1)), some (.int d), none] [] T I J R
        refine aw_aload_n hC dX11_except_36 rfl ?_
        refine aw_getR hC dX11_except_37 aF_X11_10 rfl (tg_0 hT) (pr_0_0 hR) ?_
        refine aw_getI hC dX11_except_40 aF_X11_133 rfl (tg_1 hT) ?_
        rw [h9.cb.2.1.2.2.2.2]
        refine aw_iload_n hC dX11_except_43 rfl ?_
        refine aw_iadd hC dX11_except_44 ?_
        refine aw_istore (L2 := [some (.ref 0), some (.int (nI f1)), some (.int (nI l1)), some (.int d), some (.int ((m 44 13) + d))]) hC dX11_except_45 (by decide) rfl ?_
        refine aw_aload_n hC dX11_except_47 rfl ?_
        refine aw_getR hC dX11_except_48 aF_X11_10 rfl (tg_0 hT) (pr_0_0 hR) ?_
        refine aw_getR hC dX11_except_51 aF_X11_136 rfl (tg_1 hT) (pr_1_4 hR) ?_
        refine aw_iload_n hC dX11_except_54 rfl ?_
        refine aw_bipush (v := 10) hC dX11_except_55 (by decide) ?_
        refine aw_imul hC dX11_except_57 ?_
        rw [show (nI f1) * 10 = nI (f1 * 10) from pk_mul f1 10]
        refine aw_iload_n hC dX11_except_58 rfl ?_
        refine aw_iadd hC dX11_except_59 ?_
        rw [show (nI (f1 * 10)) + (nI l1) = nI ((f1 * 10) + l1) from nI_add (f1 * 10) l1]
        refine aw_iload hC dX11_except_60 rfl ?_
        refine aw_iastore_k (j := ((f1 * 10) + l1)) hC dX11_except_62 (tg_5 hT) (nI_clamp (by omega)) (vp_in_nI (by omega) (by decide)) ?_
        refine aw_aload_n hC dX11_except_63 rfl ?_
        refine aw_getR hC dX11_except_64 aF_X11_21 rfl (tg_0 hT) (pr_0_1 hR) ?_
        refine kX11_91 hC rfl (m_X10_forget (I := a_u I 5 ((f1 * 10) + l1) ((m 44 13) + d)) hT hR) dX11_except_67 (tg_8 hT) rfl a_le a_le a_le a_le a_le rfl aPure_x (aPure_k ?_)
        show AW X 0 0 70 [some (.ref 0), some (.int (nI f1)), some (.int (nI l1)), some (.int d), some (.int ((m 44 13) + d))] [] T (a_u (a_u I 5 ((f1 * 10) + l1) ((m 44 13) + d)) 8 11 0) J R
        refine aw_iload hC dX11_except_70 rfl ?_
        exact aw_ireturn hC hq rfl dX11_except_72 a_le a_le (CP.ok (Or.inl ⟨⟨hec, hdc⟩, rfl, rfl, by rw [at10 hf1 hl1]⟩) (fun o u v => ⟨by rw [a_u_row (by omega), a_u_row (by omega)], rfl⟩) (ec_g9 h9 (by omega)).gi)
set_option maxRecDepth 100000 in
theorem m_X11_pass {T : List aT} {I : aI} {J : aJ} {R : aR} {m : aI} {c n : Nat} {sq : Nat → Nat} {g : Nat} {gq eq : Nat → Nat} {r p : Nat} {pq : Nat → Nat} {k : Nat} (h9 : G9 T I J R m c n sq g gq eq r p pq k) (d : Int32) : MX11_pass 3 200 [.ref 0, .int d] T I J R (CP [exA] I J m c (fun k v m2 => ((1 ≤ d ∧ d ≤ 30) ∧ k = 0 ∧ v = m 44 13 + d ∧ m2 = (if 0 ≤ m 44 45 ∧ m 44 45 ≤ m 44 13 + d then a_u (a_u (a_u m 44 13 (m 44 13 + d)) 44 43 (-1)) 44 45 (-1) else (a_u m 44 13 (m 44 13 + d)))) ∨ (¬ (1 ≤ d ∧ d ≤ 30) ∧ k = 1 ∧ m2 = m))) := by
  refine a_met (by decide +kernel) a_le (fun X hC hq => ?_)
  show AW X 0 0 0 [some (.ref 0), some (.int d)] [] T I J R
  have hT := h9.hT
  have hR := h9.hR
  refine aw_iload_n hC dX11_pass_0 rfl ?_
  refine aw_iconst (v := 1) hC dX11_pass_1 (by decide) ?_
  refine aw_bipush (v := 30) hC dX11_pass_2 (by decide) ?_
  refine kX11_126 hC rfl (m_X11_isWithin d (1 : Int32) (30 : Int32)) dX11_pass_4 rfl a_le a_le a_le a_le a_le rfl aPure_x (aPure_k ?_)
  show AW X 0 0 7 [some (.ref 0), some (.int d)] [.int (bI (decide ((1 : Int32) ≤ d ∧ d ≤ (30 : Int32))))] T I J R
  by_cases hn1 : bI (decide ((1 : Int32) ≤ d ∧ d ≤ (30 : Int32))) = 0
  · rw [hn1]
    exact kX11_130 hC rfl (m_X11_needArgumentF (T := T) (I := I) (J := J) (R := R)) dX11_pass_7 rfl a_le a_le a_le a_le a_le rfl (aTh_x (ae_out hC hq a_le a_le (CP.th (j := 0) rfl (Or.inr ⟨of_decide_eq_false (bI_e0.mp (by assumption)), rfl, rfl⟩) h9.gi))) aTh_k
  · refine kX11_130 hC rfl (m_X11_needArgumentT (T := T) (I := I) (J := J) (R := R) (x := bI (decide ((1 : Int32) ≤ d ∧ d ≤ (30 : Int32)))) hn1) dX11_pass_7 rfl a_le a_le a_le a_le a_le rfl aPure_x (aPure_k ?_)
    show AW X 0 0 10 [some (.ref 0), some (.int d)] [] T I J R
    have hdc : 1 ≤ d ∧ d ≤ 30 := of_decide_eq_true (bI_n0.mp (by assumption))
    obtain ⟨d1, hd1, ed1⟩ := i_nat (x := d) (z := 31) (b := 31) (by have := hdc.1; clear hC hq; (try simp only [bI_e0, bI_n0, decide_eq_false_iff_not, decide_eq_true_eq, Classical.not_not] at *); (simp only [i_lt, i_le, i_eq, Int32.reduceToInt] at *); omega) (by have := hdc.2; clear hC hq; (try simp only [bI_e0, bI_n0, decide_eq_false_iff_not, decide_eq_true_eq, Classical.not_not] at *); (simp only [i_lt, i_le, i_eq, Int32.reduceToInt] at *); omega) rfl (by decide)
    subst ed1
    show AW X 0 0 10 [some (.ref 0), some (.int (nI d1))] [] T I J R
    refine aw_aload_n hC dX11_pass_10 rfl ?_
    refine aw_getR hC dX11_pass_11 aF_X11_10 rfl (tg_0 hT) (pr_0_0 hR) ?_
    refine aw_dup hC dX11_pass_14 rfl ?_
    refine aw_getI hC dX11_pass_15 aF_X11_133 rfl (tg_1 hT) ?_
    rw [h9.cb.2.1.2.2.2.2]
    refine aw_iload_n hC dX11_pass_18 rfl ?_
    refine aw_iadd hC dX11_pass_19 ?_
    refine aw_putI hC dX11_pass_20 aF_X11_133 rfl rfl (tg_1 hT) ?_
    refine aw_aload_n hC dX11_pass_23 rfl ?_
    refine aw_getR hC dX11_pass_24 aF_X11_21 rfl (tg_0 hT) (pr_0_1 hR) ?_
    refine kX11_91 hC rfl (m_X10_forget (I := a_u I 1 6 ((m 44 13) + (nI d1))) hT hR) dX11_pass_27 (tg_8 hT) rfl a_le a_le a_le a_le a_le rfl aPure_x (aPure_k ?_)
    show AW X 0 0 30 [some (.ref 0), some (.int (nI d1))] [] T (a_u (a_u I 1 6 ((m 44 13) + (nI d1))) 8 11 0) J R
    refine aw_aload_n hC dX11_pass_30 rfl ?_
    refine aw_getR hC dX11_pass_31 aF_X11_46 rfl (tg_0 hT) (pr_0_4 hR) ?_
    refine aw_aload_n hC dX11_pass_34 rfl ?_
    refine aw_getR hC dX11_pass_35 aF_X11_10 rfl (tg_0 hT) (pr_0_0 hR) ?_
    refine aw_getI hC dX11_pass_38 aF_X11_133 rfl (tg_1 hT) ?_
    rw [a_u_ne (f := a_u I 1 6 ((m 44 13) + (nI d1))) (o := 8) (k := 11) (a := 1) (b := 6) (v := 0) (fun q => absurd q.1 (by decide))]
    rw [a_u_self (f := I) (o := 1) (k := 6) (v := (m 44 13) + (nI d1))]
    have hg9 := dy_g9 h9 (d := d1) (by omega)
    have e38 : (a_u (a_u I 1 6 (m 44 13 + nI d1)) 8 11 0) 38 = I 38 := by rw [a_u_row (by decide), a_u_row (by decide)]
    have e45 : (a_u m 44 13 (m 44 13 + nI d1)) 44 45 = m 44 45 := a_u_ne (fun z => absurd z.2 (by decide))
    by_cases c0 : I 38 5 ≤ m 44 13 + nI d1
    · refine kX11_139 hC rfl (m_X0_dayComesT (I := a_u (a_u I 1 6 ((m 44 13) + (nI d1))) 8 11 0) hT hR (d := m 44 13 + nI d1) (by rw [e38]; exact c0)) dX11_pass_41 (tg_38 hT) rfl a_le a_le a_le a_le a_le rfl aPure_x (aPure_k ?_)
      have hR2 : aPR (a_u R 38 3 none) := hR.put (by decide +kernel)
      show AW X 0 0 44 [some (.ref 0), some (.int (nI d1))] [] T (a_u (a_u (a_u I 1 6 ((m 44 13) + (nI d1))) 8 11 0) 38 0 0) J (a_u R 38 3 none)
      refine aw_aload_n hC dX11_pass_44 rfl ?_
      refine aw_getR hC dX11_pass_45 aF_X11_10 rfl (tg_0 hT) (pr_0_0 hR2) ?_
      refine aw_getI hC dX11_pass_48 aF_X11_133 rfl (tg_1 hT) ?_
      rw [a_u_ne (f := a_u (a_u I 1 6 ((m 44 13) + (nI d1))) 8 11 0) (o := 38) (k := 0) (a := 1) (b := 6) (v := 0) (fun q => absurd q.1 (by decide))]
      rw [a_u_ne (f := a_u I 1 6 ((m 44 13) + (nI d1))) (o := 8) (k := 11) (a := 1) (b := 6) (v := 0) (fun q => absurd q.1 (by decide))]
      rw [a_u_self (f := I) (o := 1) (k := 6) (v := (m 44 13) + (nI d1))]
      exact aw_ireturn hC hq rfl dX11_pass_51 a_le a_le (by by_cases c1 : 0 ≤ m 44 45; (exact CP.ok (Or.inl ⟨hdc, rfl, rfl, (if_pos ⟨c1, by rw [← h9.cap.2.2.2 c1]; exact c0⟩).symm⟩) (fun o u v => ⟨by rw [a_u_row (by omega), a_u_row (by omega), a_u_row (by omega)], rfl⟩) ⟨n, sq, g, gq, eq, r, p, pq, k, en_g9 hg9⟩); (exact CP.ok (Or.inl ⟨hdc, rfl, rfl, (if_neg (fun q => c1 q.1)).symm⟩) (fun o u v => ⟨by rw [a_u_row (by omega), a_u_row (by omega), a_u_row (by omega)], rfl⟩) ⟨n, sq, g, gq, eq, r, p, pq, k, by have q := en_g9 hg9; rw [nolk_g9 hg9 (by rw [e45]; exact c1)] at q; exact q⟩))
    · refine kX11_139 hC rfl (m_X0_dayComesF (I := a_u (a_u I 1 6 ((m 44 13) + (nI d1))) 8 11 0) hT hR (d := m 44 13 + nI d1) (by rw [e38]; exact Int32.not_le.mp c0)) dX11_pass_41 (tg_38 hT) rfl a_le a_le a_le a_le a_le rfl aPure_x (aPure_k ?_)
      show AW X 0 0 44 [some (.ref 0), some (.int (nI d1))] [] T (a_u (a_u I 1 6 ((m 44 13) + (nI d1))) 8 11 0) J R
      refine aw_aload_n hC dX11_pass_44 rfl ?_
      refine aw_getR hC dX11_pass_45 aF_X11_10 rfl (tg_0 hT) (pr_0_0 hR) ?_
      refine aw_getI hC dX11_pass_48 aF_X11_133 rfl (tg_1 hT) ?_
      rw [a_u_ne (f := a_u I 1 6 ((m 44 13) + (nI d1))) (o := 8) (k := 11) (a := 1) (b := 6) (v := 0) (fun q => absurd q.1 (by decide))]
      rw [a_u_self (f := I) (o := 1) (k := 6) (v := (m 44 13) + (nI d1))]
      exact aw_ireturn hC hq rfl dX11_pass_51 a_le a_le (CP.ok (Or.inl ⟨hdc, rfl, rfl, (if_neg (fun q => c0 (by rw [h9.cap.2.2.2 q.1]; exact q.2))).symm⟩) (fun o u v => ⟨by rw [a_u_row (by omega), a_u_row (by omega)], rfl⟩) ⟨n, sq, g, gq, eq, r, p, pq, k, hg9⟩)
