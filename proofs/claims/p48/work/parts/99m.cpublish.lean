abbrev pbM (m : aI) (z n : Nat) : aI := a_ur (a_u m 53 z (nI (iN m 53 z + 1))) 51 (pubS m z (iN m 53 z + 1) n)
theorem pb_g9 {T : List aT} {I : aI} {J : aJ} {R : aR} {m : aI} {c n : Nat} {sq : Nat → Nat} {g : Nat} {gq eq : Nat → Nat} {r p : Nat} {pq : Nat → Nat} {k : Nat} (h9 : G9 T I J R m c n sq g gq eq r p pq k) {I2 : aI} {z : Nat} (hz : z < 3) (h3 : iN m 53 z < 3) (hC : CDI (a_u I 8 11 0) m n sq z (nI (iN m 53 z + 1)) n I2) : G9 T I2 J R (pbM m z n) c n sq g gq eq r p pq k := by
  have hT := h9.hT
  have cs := h9.cb.1
  have b := h9.cb.2.1
  have bk := h9.bk
  obtain ⟨zz1, zz2, zz3⟩ := hC
  have ge : ∀ s, s < n → 44 ≤ sq s := fun s q => cs.ge hT q
  have ea : ∀ o, o ≠ 51 → o ≠ 53 → pbM m z n o = m o := fun o a d => by unfold pbM; rw [a_ur_ne a, a_u_row d]
  have e51 : ∀ s, pbM m z n 51 s = if s < n ∧ m 50 s = nI z ∧ m 51 s = 0 then nI (iN m 53 z + 1) else m 51 s := fun s => by unfold pbM; rw [a_ur_self]
  have e53 : pbM m z n 53 = a_u m 53 z (nI (iN m 53 z + 1)) 53 := by unfold pbM; rw [a_ur_ne (by decide)]
  have lo : ∀ o q, o < 44 → ¬ (o = 6 ∧ q = z) → I2 o q = a_u I 8 11 0 o q := fun o q a d => zz1 o q d (fun w => by obtain ⟨_, s, w1, w2⟩ := w; have := ge s w1; omega)
  have lr : ∀ o, o < 44 → o ≠ 6 → o ≠ 8 → I2 o = I o := fun o a d f => funext fun q => by rw [lo o q a (fun w => d w.1), a_u_row f]
  have n4 : ∀ q, q ≠ 51 → q ≠ 53 → iN (pbM m z n) q = iN m q := fun q a d => by unfold iN; rw [ea q a d]
  refine h9.book (List.prefix_refl _) (fun o u v => ?_) (fun _ _ _ => rfl) h9.hR (fun o u v => ea o (by omega) (by omega)) (fun k _ _ _ _ _ _ => by rw [ea 44 (by decide) (by decide)]) ⟨⟨bk.1.1, by rw [ea 44 (by decide) (by decide)]; exact bk.1.2.1, NR_cg (ea 45 (by decide) (by decide)) bk.1.kd, NR_cg (ea 46 (by decide) (by decide)) bk.1.fd, NR_cg (ea 47 (by decide) (by decide)) bk.1.on, fun s hs => ?_, NR_cg e53 (bk.1.vv.put (by omega) (by decide)), by rw [n4 45 (by decide) (by decide), n4 46 (by decide) (by decide), n4 47 (by decide) (by decide)]; exact bk.1.k12, by rw [n4 45 (by decide) (by decide), n4 47 (by decide) (by decide)]; exact bk.1.k56, by rw [n4 45 (by decide) (by decide), n4 48 (by decide) (by decide), ea 48 (by decide) (by decide)]; exact bk.1.tw, by rw [ea 49 (by decide) (by decide)]; exact bk.1.fl, by rw [ea 49 (by decide) (by decide), ea 50 (by decide) (by decide), n4 50 (by decide) (by decide)]; exact bk.1.pk⟩, fun s hs h0 => ?_, NR_cg (ea 54 (by decide) (by decide)) bk.2.2.1, fun s hs1 hs2 => ⟨?_, by rw [ea 52 (by decide) (by decide)]; exact (bk.2.2.2.1 s hs1 hs2).2⟩, by rw [ea 49 (by decide) (by decide), ea 50 (by decide) (by decide)]; exact bk.2.2.2.2⟩ (by obtain ⟨d, d1, d2⟩ := h9.dy; exact ⟨d, by rw [ea 44 (by decide) (by decide)]; exact d1, d2⟩) ⟨by rw [lr 1 (by decide) (by decide) (by decide)]; exact cs.1, fun s hs => ⟨cs.rf hs, ?_⟩, cs.2.2⟩ ⟨fun q hq => by rw [lr 3 (by decide) (by decide) (by decide), ea 54 (by decide) (by decide)]; exact b.1 q hq, fun q hq => by rw [lr 4 (by decide) (by decide) (by decide), ea 55 (by decide) (by decide)]; exact b.2.1 q hq, fun q hq => by rw [lr 5 (by decide) (by decide) (by decide), ea 56 (by decide) (by decide)]; exact b.2.2.1 q hq, fun q hq => ?_, by rw [lr 1 (by decide) (by decide) (by decide), ea 44 (by decide) (by decide)]; exact b.2.2.2.2⟩ (by rw [lo 8 11 (by decide) (fun w => absurd w.1 (by decide))]; exact a_u_self)
  · have hne : ∀ s, s < n → o ≠ sq s := fun s hs e => by
      have t := (cs.at hs).1
      rw [← e] at t
      rcases v with v | v | v
      · have := ge s hs; omega
      · have := ge s hs; omega
      · exact v.2 t
    funext q
    rw [zz1 o q (fun w => by omega) (fun w => by obtain ⟨_, s, w1, w2⟩ := w; exact hne s w1 w2), a_u_row (by omega)]
  · unfold iN
    rw [e51]
    split
    · rw [nI_clamp (by omega)]; exact ⟨rfl, by omega⟩
    · have q := bk.1.vs s hs; unfold iN at q; exact q
  · rw [ea 49 (by decide) (by decide)] at h0
    rw [e51, if_neg (fun q => by rw [bk.2.2.2.2 s hs h0] at q; exact nI_ne1 (by omega) q.2.1.symm)]
    exact bk.2.1 s hs h0
  · rw [e51, if_neg (fun q => by omega)]; exact (bk.2.2.2.1 s hs1 hs2).1
  · have q := cs.at hs
    have h95 := ge s hs
    have sl : ∀ j, j ≠ 6 → I2 (sq s) j = I (sq s) j := fun j a => by rw [zz1 (sq s) j (fun w => by omega) (fun w => a w.1), a_u_row (by omega)]
    unfold StAt at *
    rw [sl 0 (by decide), sl 1 (by decide), sl 2 (by decide), sl 3 (by decide), sl 4 (by decide), sl 5 (by decide), sl 7 (by decide), ea 49 (by decide) (by decide), ea 50 (by decide) (by decide), ea 45 (by decide) (by decide), ea 46 (by decide) (by decide), ea 47 (by decide) (by decide), ea 48 (by decide) (by decide), ea 52 (by decide) (by decide)]
    refine ⟨q.1, q.2.1, q.2.2.1, q.2.2.2.1, q.2.2.2.2.1, q.2.2.2.2.2.1, q.2.2.2.2.2.2.1, ?_, q.2.2.2.2.2.2.2.2⟩
    rw [zz3 s hs, if_pos hs, e51]
    by_cases zd : m 50 s = nI z ∧ m 51 s = 0
    · rw [if_pos ⟨hs, zd⟩]; exact if_pos zd
    · rw [if_neg (fun w => zd w.2)]; exact if_neg zd
  · rw [e53]
    by_cases zd : q = z
    · rw [zd, a_u_self]; exact zz2
    · rw [lo 6 q (by decide) (fun w => zd w.2), a_u_row (by decide), a_u_ne (fun w => zd w.2)]; exact b.2.2.2.1 q hq
set_option maxRecDepth 100000 in
theorem m_X11_publish {T : List aT} {I : aI} {J : aJ} {R : aR} {m : aI} {c n : Nat} {sq : Nat → Nat} {g : Nat} {gq eq : Nat → Nat} {r p : Nat} {pq : Nat → Nat} {k : Nat} (h9 : G9 T I J R m c n sq g gq eq r p pq k) (x : Int32) : MX11_publish 3 200 [.ref 0, .int x] T I J R (CP [exI, exS] I J m c (fun k v m2 => (((0 ≤ x ∧ x ≤ 2) ∧ iN m 53 x.toNatClampNeg < 3) ∧ k = 0 ∧ v = nI (iN m 53 x.toNatClampNeg + 1) ∧ m2 = pbM m x.toNatClampNeg n) ∨ (((0 ≤ x ∧ x ≤ 2) ∧ ¬ iN m 53 x.toNatClampNeg < 3) ∧ k = 2 ∧ m2 = m) ∨ (¬ (0 ≤ x ∧ x ≤ 2) ∧ k = 1 ∧ m2 = m))) := by
  refine a_met (by decide +kernel) a_le (fun X hC hq => ?_)
  show AW X 0 0 0 [some (.ref 0), some (.int x)] [] T I J R
  have hT := h9.hT
  have hR := h9.hR
  have hn30 := h9.bk.1.n30
  refine aw_iload_n hC dX11_publish_0 rfl ?_
  refine aw_iconst (v := 3) hC dX11_publish_1 (by decide) ?_
  refine kX11_64 hC rfl (m_X11_isBelow x (3 : Int32)) dX11_publish_2 rfl a_le a_le a_le a_le a_le rfl aPure_x (aPure_k ?_)
  show AW X 0 0 5 [some (.ref 0), some (.int x)] [.int (bI (decide (0 ≤ x ∧ x < (3 : Int32))))] T I J R
  by_cases hn1 : bI (decide (0 ≤ x ∧ x < (3 : Int32))) = 0
  · rw [hn1]
    exact kX11_68 hC rfl (m_X11_needIndexF (T := T) (I := I) (J := J) (R := R)) dX11_publish_5 rfl a_le a_le a_le a_le a_le rfl (aTh_x (ae_out hC hq a_le a_le (CP.th (j := 0) rfl (Or.inr (Or.inr ⟨fun q => absurd (show 0 ≤ x ∧ x < 3 from ⟨q.1, i_lt3 q.2⟩) (of_decide_eq_false (bI_e0.mp (by assumption))), rfl, rfl⟩)) h9.gi))) aTh_k
  · refine kX11_68 hC rfl (m_X11_needIndexT (T := T) (I := I) (J := J) (R := R) (x := bI (decide (0 ≤ x ∧ x < (3 : Int32)))) hn1) dX11_publish_5 rfl a_le a_le a_le a_le a_le rfl aPure_x (aPure_k ?_)
    show AW X 0 0 8 [some (.ref 0), some (.int x)] [] T I J R
    have hfcx : 0 ≤ x ∧ x < 3 := of_decide_eq_true (bI_n0.mp (by assumption))
    obtain ⟨x1, hx1, ex1⟩ := i_nat (x := x) (b := 3) hfcx.1 hfcx.2 rfl (by first | decide | omega)
    subst ex1
    have hv53 := h9.bk.1.vv x1 hx1
    show AW X 0 0 8 [some (.ref 0), some (.int (nI x1))] [] T I J R
    refine aw_aload_n hC dX11_publish_8 rfl ?_
    refine aw_getR hC dX11_publish_9 aF_X11_10 rfl (tg_0 hT) (pr_0_0 hR) ?_
    refine aw_getR hC dX11_publish_12 aF_X11_85 rfl (tg_1 hT) (pr_1_5 hR) ?_
    refine aw_iload_n hC dX11_publish_15 rfl ?_
    refine aw_iaload_k (j := x1) hC dX11_publish_16 (tg_6 hT) (nI_clamp (by omega)) (vp_in_nI (by omega) (by decide)) ?_
    rw [((h9.cb.2.1.2.2.2.1 x1 hx1).trans hv53.1)]
    refine aw_iconst (v := 3) hC dX11_publish_17 (by decide) ?_
    refine aw_icmp_ge (tgt := 25) hC dX11_publish_18 (by decide) (fun h2 => ?_) (fun h2 => ?_)
    · show AW X 0 0 25 [some (.ref 0), some (.int (nI x1))] [] T I J R
      have h2n : 3 ≤ (iN m 53 x1) := (nI_leI (a := 3) (b := (iN m 53 x1)) (by omega) (by omega)).mp h2
      refine aw_iconst (v := 0) hC dX11_publish_25 (by decide) ?_
      exact kX11_88 hC rfl (m_X11_needStateF (T := T) (I := I) (J := J) (R := R)) dX11_publish_26 rfl a_le a_le a_le a_le a_le rfl (aTh_x (ae_out hC hq a_le a_le (CP.th (j := 1) rfl (Or.inr (Or.inl ⟨⟨⟨hfcx.1, i_le2 hfcx.2⟩, by rw [nI_clamp (show x1 < 2 ^ 31 by omega)]; omega⟩, rfl, rfl⟩)) h9.gi))) aTh_k
    · show AW X 0 0 21 [some (.ref 0), some (.int (nI x1))] [] T I J R
      have h2n : ¬ 3 ≤ (iN m 53 x1) := fun q9 => h2 ((nI_leI (a := 3) (b := (iN m 53 x1)) (by omega) (by omega)).mpr q9)
      refine aw_iconst (v := 1) hC dX11_publish_21 (by decide) ?_
      refine aw_goto (tgt := 26) hC dX11_publish_22 (by decide) ?_
      refine kX11_88 hC rfl (m_X11_needStateT (T := T) (I := I) (J := J) (R := R) (x := 1) (by decide)) dX11_publish_26 rfl a_le a_le a_le a_le a_le rfl aPure_x (aPure_k ?_)
      show AW X 0 0 29 [some (.ref 0), some (.int (nI x1))] [] T I J R
      refine aw_aload_n hC dX11_publish_29 rfl ?_
      refine aw_getR hC dX11_publish_30 aF_X11_21 rfl (tg_0 hT) (pr_0_1 hR) ?_
      refine kX11_91 hC rfl (m_X10_forget (I := I) hT hR) dX11_publish_33 (tg_8 hT) rfl a_le a_le a_le a_le a_le rfl aPure_x (aPure_k ?_)
      show AW X 0 0 36 [some (.ref 0), some (.int (nI x1))] [] T (a_u I 8 11 0) J R
      refine aw_aload_n hC dX11_publish_36 rfl ?_
      refine aw_getR hC dX11_publish_37 aF_X11_10 rfl (tg_0 hT) (pr_0_0 hR) ?_
      refine aw_iload_n hC dX11_publish_40 rfl ?_
      refine kX11_94 hC rfl (m_X1_closeDraft hT hR (h9.cb.1.put (tg_8 hT) (by decide) (by decide)) h9.bk.1 (p := x1) hx1) dX11_publish_41 (tg_1 hT) rfl a_le a_le a_le a_le a_le rfl aRelV_x (aRelV_k (fun v9 I8 J8 hQ => ?_))
      obtain ⟨ev8, hJ8, hCD⟩ := hQ
      have evv : a_u I 8 11 0 6 x1 + 1 = nI (iN m 53 x1 + 1) := by rw [a_u_row (by decide), h9.cb.2.1.2.2.2.1 x1 hx1, (h9.bk.1.vv x1 hx1).1]; exact nI_add _ 1
      rw [evv] at ev8 hCD
      rw [ev8, hJ8]
      show AW X 0 0 44 [some (.ref 0), some (.int (nI x1))] [.int (nI (iN m 53 x1 + 1))] T I8 J R
      exact aw_ireturn hC hq rfl dX11_publish_44 a_le a_le (CP.ok (Or.inl ⟨⟨⟨hfcx.1, i_le2 hfcx.2⟩, by rw [nI_clamp (show x1 < 2 ^ 31 by omega)]; omega⟩, rfl, by rw [nI_clamp (show x1 < 2 ^ 31 by omega)], by rw [nI_clamp (show x1 < 2 ^ 31 by omega)]⟩) (fun o u v => ⟨funext fun q => by have hq9 := hCD.1 o q (fun w => by omega) (fun w => by obtain ⟨_, s, w1, w2⟩ := w; have := h9.cb.1.ge hT w1; have := (h9.cb.sq hT w1).2.2; omega); rw [hq9, a_u_row (by omega)], rfl⟩) (pb_g9 h9 hx1 (by omega) hCD).gi)
