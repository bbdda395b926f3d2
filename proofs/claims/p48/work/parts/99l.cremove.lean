theorem SW.rm {m : aI} {n x : Nat} (h : SW m n) : SW (a_u m 52 x 1) n := by
  have ea : ∀ o, o ≠ 52 → a_u m 52 x 1 o = m o := fun o a => a_u_row a
  unfold SW NR iN at *
  rw [ea 44 (by decide), ea 45 (by decide), ea 46 (by decide), ea 47 (by decide), ea 48 (by decide), ea 49 (by decide), ea 50 (by decide), ea 51 (by decide), ea 53 (by decide)]
  exact h
theorem rm_g9 {T : List aT} {I : aI} {J : aJ} {R : aR} {m : aI} {c n : Nat} {sq : Nat → Nat} {g : Nat} {gq eq : Nat → Nat} {r p : Nat} {pq : Nat → Nat} {k : Nat} (h9 : G9 T I J R m c n sq g gq eq r p pq k) {x : Nat} (hx : x < n) : G9 T (a_u (a_u I (sq x) 7 1) 8 11 0) J R (a_u m 52 x 1) c n sq g gq eq r p pq k := by
  have hT := h9.hT
  have cs := h9.cb.1
  have b := h9.cb.2.1
  have h95 := cs.ge hT hx
  have tx := (cs.at hx).1
  have ea : ∀ o, o ≠ 52 → a_u m 52 x 1 o = m o := fun o a => a_u_row a
  have lo : ∀ o, o < 44 → o ≠ 8 → a_u (a_u I (sq x) 7 1) 8 11 0 o = I o := fun o a d => by rw [a_u_row d, a_u_row (by omega)]
  refine h9.book (List.prefix_refl _) (fun o u v => ?_) (fun _ _ _ => rfl) h9.hR (fun o u v => ea o (by omega)) (fun k _ _ _ _ _ _ => by rw [ea 44 (by decide)]) ⟨h9.bk.1.rm, by rw [ea 49 (by decide), ea 51 (by decide)]; exact h9.bk.2.1, NR_cg (ea 54 (by decide)) h9.bk.2.2.1, fun s hs1 hs2 => ⟨by rw [ea 51 (by decide)]; exact (h9.bk.2.2.2.1 s hs1 hs2).1, by rw [a_u_ne (fun z => by omega)]; exact (h9.bk.2.2.2.1 s hs1 hs2).2⟩, by rw [ea 49 (by decide), ea 50 (by decide)]; exact h9.bk.2.2.2.2⟩ (by obtain ⟨d, d1, d2⟩ := h9.dy; exact ⟨d, by rw [ea 44 (by decide)]; exact d1, d2⟩) ⟨by rw [lo 1 (by decide) (by decide)]; exact cs.1, fun s hs => ⟨cs.rf hs, ?_⟩, cs.2.2⟩ ⟨fun q hq => by rw [lo 3 (by decide) (by decide), ea 54 (by decide)]; exact b.1 q hq, fun q hq => by rw [lo 4 (by decide) (by decide), ea 55 (by decide)]; exact b.2.1 q hq, fun q hq => by rw [lo 5 (by decide) (by decide), ea 56 (by decide)]; exact b.2.2.1 q hq, fun q hq => by rw [lo 6 (by decide) (by decide), ea 53 (by decide)]; exact b.2.2.2.1 q hq, by rw [lo 1 (by decide) (by decide), ea 44 (by decide)]; exact b.2.2.2.2⟩ a_u_self
  · rw [a_u_row (by omega)]
    refine a_u_row (fun z => ?_)
    rcases v with v | v | v
    · omega
    · omega
    · rw [z] at v; exact v.2 tx
  · have q := cs.at hs
    have hs95 := cs.ge hT hs
    unfold StAt at *
    rw [a_u_row (by omega)]
    have sl : ∀ j, j ≠ 7 → a_u I (sq x) 7 1 (sq s) j = I (sq s) j := fun j a => a_u_ne (fun z => a z.2)
    rw [sl 0 (by decide), sl 1 (by decide), sl 2 (by decide), sl 3 (by decide), sl 4 (by decide), sl 5 (by decide), sl 6 (by decide), ea 49 (by decide), ea 50 (by decide), ea 45 (by decide), ea 46 (by decide), ea 47 (by decide), ea 48 (by decide), ea 51 (by decide)]
    refine ⟨q.1, q.2.1, q.2.2.1, q.2.2.2.1, q.2.2.2.2.1, q.2.2.2.2.2.1, q.2.2.2.2.2.2.1, q.2.2.2.2.2.2.2.1, ?_⟩
    by_cases zd : s = x
    · rw [zd, a_u_self, a_u_self]
    · rw [a_u_ne (fun z => zd (cs.inj hs hx z.1)), a_u_ne (fun z => zd z.2)]; exact q.2.2.2.2.2.2.2.2
set_option maxRecDepth 100000 in
theorem m_X11_remove {T : List aT} {I : aI} {J : aJ} {R : aR} {m : aI} {c n : Nat} {sq : Nat → Nat} {g : Nat} {gq eq : Nat → Nat} {r p : Nat} {pq : Nat → Nat} {k : Nat} (h9 : G9 T I J R m c n sq g gq eq r p pq k) (x : Int32) : MX11_remove 3 200 [.ref 0, .int x] T I J R (CP [exI] I J m c (fun k v m2 => (((0 ≤ x ∧ x < nI n) ∧ (m 49 x.toNatClampNeg ≠ -1 ∧ m 52 x.toNatClampNeg = 0)) ∧ k = 0 ∧ m2 = a_u m 52 x.toNatClampNeg 1 ∧ ∃ m0 M P S, StEq m2 m0 ∧ SolR m0 M n P S ∧ v = nI (cntT (thB M) n)) ∨ (¬ ((0 ≤ x ∧ x < nI n) ∧ (m 49 x.toNatClampNeg ≠ -1 ∧ m 52 x.toNatClampNeg = 0)) ∧ k = 1 ∧ m2 = m))) := by
  refine a_met (by decide +kernel) a_le (fun X hC hq => ?_)
  show AW X 0 0 0 [some (.ref 0), some (.int x), none] [] T I J R
  have hT := h9.hT
  have hR := h9.hR
  have hn30 := h9.bk.1.n30
  refine aw_iload_n hC dX11_remove_0 rfl ?_
  refine aw_aload_n hC dX11_remove_1 rfl ?_
  refine aw_getR hC dX11_remove_2 aF_X11_10 rfl (tg_0 hT) (pr_0_0 hR) ?_
  refine aw_getI hC dX11_remove_5 aF_X11_98 rfl (tg_1 hT) ?_
  rw [h9.cb.1.1]
  refine kX11_64 hC rfl (m_X11_isBelow x (nI n)) dX11_remove_8 rfl a_le a_le a_le a_le a_le rfl aPure_x (aPure_k ?_)
  show AW X 0 0 11 [some (.ref 0), some (.int x), none] [.int (bI (decide (0 ≤ x ∧ x < (nI n))))] T I J R
  by_cases hn1 : bI (decide (0 ≤ x ∧ x < (nI n))) = 0
  · rw [hn1]
    exact kX11_68 hC rfl (m_X11_needIndexF (T := T) (I := I) (J := J) (R := R)) dX11_remove_11 rfl a_le a_le a_le a_le a_le rfl (aTh_x (ae_out hC hq a_le a_le (CP.th (j := 0) rfl (Or.inr ⟨fun q => absurd q.1 (of_decide_eq_false (bI_e0.mp (by assumption))), rfl, rfl⟩) h9.gi))) aTh_k
  · refine kX11_68 hC rfl (m_X11_needIndexT (T := T) (I := I) (J := J) (R := R) (x := bI (decide (0 ≤ x ∧ x < (nI n)))) hn1) dX11_remove_11 rfl a_le a_le a_le a_le a_le rfl aPure_x (aPure_k ?_)
    show AW X 0 0 14 [some (.ref 0), some (.int x), none] [] T I J R
    have hfcx : 0 ≤ x ∧ x < nI (n) := of_decide_eq_true (bI_n0.mp (by assumption))
    obtain ⟨x1, hx1, ex1⟩ := i_nat (x := x) (b := n) hfcx.1 hfcx.2 rfl (by first | decide | omega)
    subst ex1
    show AW X 0 0 14 [some (.ref 0), some (.int (nI x1)), none] [] T I J R
    refine aw_aload_n hC dX11_remove_14 rfl ?_
    refine aw_getR hC dX11_remove_15 aF_X11_10 rfl (tg_0 hT) (pr_0_0 hR) ?_
    refine aw_getR hC dX11_remove_18 aF_X11_102 rfl (tg_1 hT) (pr_1_0 hR) ?_
    refine aw_iload_n hC dX11_remove_21 rfl ?_
    refine aw_aaloadR_k (j := x1) hC dX11_remove_22 (tg_2 hT) (nI_clamp (by omega)) (vp_in_nI (by omega) (by decide)) (h9.cb.1.rf hx1) ?_
    refine aw_astore_n (L2 := [some (.ref 0), some (.int (nI x1)), some (.ref (sq x1))]) hC dX11_remove_23 rfl (by decide) rfl ?_
    refine aw_aload_n hC dX11_remove_24 rfl ?_
    refine aw_getI hC dX11_remove_25 aF_X11_106 rfl (h9.cb.1.at hx1).1 ?_
    rw [(h9.cb.1.at hx1).2.1]
    refine aw_iconst (v := (-1)) hC dX11_remove_28 (by decide) ?_
    refine aw_icmp_eq (tgt := 43) hC dX11_remove_29 (by decide) (fun h2 => ?_) (fun h2 => ?_)
    · show AW X 0 0 43 [some (.ref 0), some (.int (nI x1)), some (.ref (sq x1))] [] T I J R
      refine aw_iconst (v := 0) hC dX11_remove_43 (by decide) ?_
      exact kX11_68 hC rfl (m_X11_needIndexF (T := T) (I := I) (J := J) (R := R)) dX11_remove_44 rfl a_le a_le a_le a_le a_le rfl (aTh_x (ae_out hC hq a_le a_le (CP.th (j := 0) rfl (Or.inr ⟨fun q => by have q9 := q.2; rw [nI_clamp (show x1 < 2 ^ 31 by omega)] at q9; first | exact absurd (by assumption) q9.1 | exact absurd q9.2 (by assumption), rfl, rfl⟩) h9.gi))) aTh_k
    · show AW X 0 0 32 [some (.ref 0), some (.int (nI x1)), some (.ref (sq x1))] [] T I J R
      refine aw_aload_n hC dX11_remove_32 rfl ?_
      refine aw_getI hC dX11_remove_33 aF_X11_109 rfl (h9.cb.1.at hx1).1 ?_
      rw [(h9.cb.1.at hx1).2.2.2.2.2.2.2.2]
      refine aw_if_ne (tgt := 43) hC dX11_remove_36 (by decide) (fun h3 => ?_) (fun h3 => ?_)
      · show AW X 0 0 43 [some (.ref 0), some (.int (nI x1)), some (.ref (sq x1))] [] T I J R
        refine aw_iconst (v := 0) hC dX11_remove_43 (by decide) ?_
        exact kX11_68 hC rfl (m_X11_needIndexF (T := T) (I := I) (J := J) (R := R)) dX11_remove_44 rfl a_le a_le a_le a_le a_le rfl (aTh_x (ae_out hC hq a_le a_le (CP.th (j := 0) rfl (Or.inr ⟨fun q => by have q9 := q.2; rw [nI_clamp (show x1 < 2 ^ 31 by omega)] at q9; first | exact absurd (by assumption) q9.1 | exact absurd q9.2 (by assumption), rfl, rfl⟩) h9.gi))) aTh_k
      · show AW X 0 0 39 [some (.ref 0), some (.int (nI x1)), some (.ref (sq x1))] [] T I J R
        refine aw_iconst (v := 1) hC dX11_remove_39 (by decide) ?_
        refine aw_goto (tgt := 44) hC dX11_remove_40 (by decide) ?_
        refine kX11_68 hC rfl (m_X11_needIndexT (T := T) (I := I) (J := J) (R := R) (x := 1) (by decide)) dX11_remove_44 rfl a_le a_le a_le a_le a_le rfl aPure_x (aPure_k ?_)
        show AW X 0 0 47 [some (.ref 0), some (.int (nI x1)), some (.ref (sq x1))] [] T I J R
        refine aw_aload_n hC dX11_remove_47 rfl ?_
        refine aw_iconst (v := 1) hC dX11_remove_48 (by decide) ?_
        refine aw_putZ hC dX11_remove_49 aF_X11_109 rfl rfl (h9.cb.1.at hx1).1 (Or.inr rfl) ?_
        refine aw_aload_n hC dX11_remove_52 rfl ?_
        refine aw_getR hC dX11_remove_53 aF_X11_21 rfl (tg_0 hT) (pr_0_1 hR) ?_
        refine kX11_91 hC rfl (m_X10_forget (I := a_u I (sq x1) 7 1) hT hR) dX11_remove_56 (tg_8 hT) rfl a_le a_le a_le a_le a_le rfl aPure_x (aPure_k ?_)
        show AW X 0 0 59 [some (.ref 0), some (.int (nI x1)), some (.ref (sq x1))] [] T (a_u (a_u I (sq x1) 7 1) 8 11 0) J R
        have hr9 := rm_g9 h9 hx1
        refine aw_aload_n hC dX11_remove_59 rfl ?_
        refine aw_getR hC dX11_remove_60 aF_X11_21 rfl (tg_0 hT) (pr_0_1 hR) ?_
        refine kX11_113 hC rfl (m_settleG hr9) dX11_remove_63 (tg_8 hT) rfl a_le a_le a_le a_le a_le rfl aRelT_x (aRelT_k (fun v9 T9 I9 J9 R9 hp9 hQ => ?_))
        obtain ⟨ev9, hT9, hf9, hg9, m0, hs9, hl9⟩ := hQ
        rw [ev9, hT9]
        have hR9 := hg9.hR
        obtain ⟨M, P, S, hso, hD9, hC9, hP9, hS9, h57, hfo, htn, hcf, hSM, hcs, h53, hfx⟩ := hl9.use hs9 hr9.bk hg9.cb.1
        show AW X 0 0 66 [some (.ref 0), some (.int (nI x1)), some (.ref (sq x1))] [] T I9 J9 R9
        refine aw_aload_n hC dX11_remove_66 rfl ?_
        refine aw_getR hC dX11_remove_67 aF_X11_10 rfl (tg_0 hT) (pr_0_0 hR9) ?_
        refine kX11_116 hC rfl (m_X1_countThere hT hR9 hcs hSM (fun s hs => (hD9 s hs).1)) dX11_remove_70 (tg_1 hT) rfl a_le a_le a_le a_le a_le rfl aPure_x (aPure_k ?_)
        show AW X 0 0 73 [some (.ref 0), some (.int (nI x1)), some (.ref (sq x1))] [.int (nI (cntT (thB M) n))] T I9 J9 R9
        exact aw_ireturn hC hq rfl dX11_remove_73 a_le a_le (CP.ok (Or.inl ⟨⟨hfcx, by rw [nI_clamp (show x1 < 2 ^ 31 by omega)]; exact ⟨by assumption, by assumption⟩⟩, rfl, by rw [nI_clamp (show x1 < 2 ^ 31 by omega)], m0, M, P, S, hs9, hso, rfl⟩) (fun o u v => ⟨(hf9 o u v).1.trans (by have := h9.cb.1.ge hT hx1; rw [a_u_row (by omega), a_u_row (by omega)]), (hf9 o u v).2⟩) hg9.gi)
