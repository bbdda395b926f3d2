/-- the list has all of a plan's actions -/
def hasA (m : aI) (x : Nat) (A : Option (List Nat)) : Bool := match A with | none => false | some l => allB (fun i => anyB (fun k => decide (nI (l.getD k 0) = m 80 (128 * x + i))) l.length) (iN m 79 x)
theorem PlQ.le {m : aI} {n g : Nat} {l : List Nat} (h : PlQ m n g (some l)) (hg : g ≤ 4) : l.length ≤ 128 := by
  obtain ⟨m0, M, P, S, mj, w, zz1, zz2, zz3, zz4, zz5⟩ := h
  rcases zz5 with zz6 | zz6
  · cases zz6.2
  · obtain ⟨zz7, zzN, zzG, zz8, zz9⟩ := zz6
    cases zz9
    have := allA_le (a_ur (gst m M) 91 zzN) (16 * g); omega
theorem m_hasG {T : List aT} {I : aI} {J : aJ} {R : aR} {m : aI} {c n : Nat} {sq : Nat → Nat} {g : Nat} {gq eq : Nat → Nat} {r p : Nat} {pq : Nat → Nat} {k : Nat} (h9 : G9 T I J R m c n sq g gq eq r p pq k) {x : Nat} (hx : x < p) {A : Option (List Nat)} (hA : PlQ m n g A) (hL : CLs I A) : MX2_hasAllOf 0 0 [.ref 33, .ref (pq x + 1)] T I J R (aPure (some (.int (bI (hasA m x A)))) T I J R) := by
  have hcp := h9.cpl.2 x hx
  have hp40 := h9.pl.2.1
  have h79 := (h9.pl.2.2.2.1.1 x (by omega)).2
  cases A with
  | none => exact m_X2_hasAllOfN h9.hT h9.hR hL hcp.2.2.2.1 (by omega)
  | some l =>
    have hL2 : CLI I l := hL
    have e : hasA m x (some l) = allB (fun i => anyB (fun k => decide (I 35 k = I (pq x + 1) i)) l.length) (iN m 79 x) := allB_cg (fun i hi => anyB_cg (fun k hk => by
      rw [hL2.2 k hk, hcp.2.2.2.2.2.2.2.2 i hi, show l.getD k 0 = l[k] from by simp [List.getD, hk]]))
    rw [e]
    exact m_X2_hasAllOf h9.hT h9.hR hL2.1 (hA.le h9.es.1.1.1) hcp.2.2.2.1 (by omega)
theorem sl_1 {a b : Int32} {q : Bool} (h : ¬ a = b) : 1 = bI (decide (a ≠ b) || !q) := by simp [bI, h]
theorem sl_2 {a b : Int32} {q : Bool} (h : bI q = 0) : 1 = bI (decide (a ≠ b) || !q) := by
  rw [bI_e0] at h; simp [bI, h]
theorem sl_0 {a b : Int32} {q : Bool} (h : a = b) (h2 : ¬ bI q = 0) : 0 = bI (decide (a ≠ b) || !q) := by
  rw [bI_n0] at h2; simp [bI, h, h2]
set_option maxRecDepth 100000 in
theorem m_X11_isStale {T : List aT} {I : aI} {J : aJ} {R : aR} {m : aI} {c n : Nat} {sq : Nat → Nat} {g : Nat} {gq eq : Nat → Nat} {r p : Nat} {pq : Nat → Nat} {k : Nat} (h9 : G9 T I J R m c n sq g gq eq r p pq k) (x : Int32) : MX11_isStale 3 200 [.ref 0, .int x] T I J R (CP [exI] I J m c (fun k v m2 => ((0 ≤ x ∧ x < nI p) ∧ k = 0 ∧ (∃ A, PlQ m n g A ∧ v = bI (decide (m 76 x.toNatClampNeg ≠ m 44 35) || !hasA m x.toNatClampNeg A)) ∧ m2 = m) ∨ (¬ (0 ≤ x ∧ x < nI p) ∧ k = 1 ∧ m2 = m))) := by
  refine a_met (by decide +kernel) a_le (fun X hC hq => ?_)
  show AW X 0 0 0 [some (.ref 0), some (.int x)] [] T I J R
  have hT := h9.hT
  have hR := h9.hR
  have hp40 := h9.pl.2.1
  refine aw_iload_n hC dX11_isStale_0 rfl ?_
  refine aw_aload_n hC dX11_isStale_1 rfl ?_
  refine aw_getI hC dX11_isStale_2 aF_X11_275 rfl (tg_0 hT) ?_
  rw [h9.cpl.1]
  refine kX11_64 hC rfl (m_X11_isBelow x (nI p)) dX11_isStale_5 rfl a_le a_le a_le a_le a_le rfl aPure_x (aPure_k ?_)
  show AW X 0 0 8 [some (.ref 0), some (.int x)] [.int (bI (decide (0 ≤ x ∧ x < (nI p))))] T I J R
  by_cases hn1 : bI (decide (0 ≤ x ∧ x < (nI p))) = 0
  · rw [hn1]
    exact kX11_68 hC rfl (m_X11_needIndexF (T := T) (I := I) (J := J) (R := R)) dX11_isStale_8 rfl a_le a_le a_le a_le a_le rfl (aTh_x (ae_out hC hq a_le a_le (CP.th (j := 0) rfl (Or.inr ⟨of_decide_eq_false (bI_e0.mp (by assumption)), rfl, rfl⟩) h9.gi))) aTh_k
  · refine kX11_68 hC rfl (m_X11_needIndexT (T := T) (I := I) (J := J) (R := R) (x := bI (decide (0 ≤ x ∧ x < (nI p)))) hn1) dX11_isStale_8 rfl a_le a_le a_le a_le a_le rfl aPure_x (aPure_k ?_)
    show AW X 0 0 11 [some (.ref 0), some (.int x)] [] T I J R
    have hfcx : 0 ≤ x ∧ x < nI (p) := of_decide_eq_true (bI_n0.mp (by assumption))
    obtain ⟨x1, hx1, ex1⟩ := i_nat (x := x) (b := p) hfcx.1 hfcx.2 rfl (by first | decide | omega)
    subst ex1
    have hcp0 := h9.cpl.2 x1 hx1
    show AW X 0 0 11 [some (.ref 0), some (.int (nI x1))] [] T I J R
    refine aw_aload_n hC dX11_isStale_11 rfl ?_
    refine aw_getR hC dX11_isStale_12 aF_X11_21 rfl (tg_0 hT) (pr_0_1 hR) ?_
    refine kX11_113 hC rfl (m_settleG h9) dX11_isStale_15 (tg_8 hT) rfl a_le a_le a_le a_le a_le rfl aRelT_x (aRelT_k (fun v9 T9 I9 J9 R9 hp9 hQ => ?_))
    obtain ⟨ev9, hT9, hf9, hg9, m0, hs9, hl9⟩ := hQ
    rw [ev9, hT9]
    have hR9 := hg9.hR
    obtain ⟨M, P, S, hso, hD9, hC9, hP9, hS9, h57, hfo, htn, hcf, hSM, hcs, h53, hfx⟩ := hl9.use hs9 h9.bk hg9.cb.1
    show AW X 0 0 18 [some (.ref 0), some (.int (nI x1))] [] T I9 J9 R9
    refine aw_aload_n hC dX11_isStale_18 rfl ?_
    refine aw_getR hC dX11_isStale_19 aF_X11_37 rfl (tg_0 hT) (pr_0_3 hR9) ?_
    refine kX11_269 hC rfl (m_listG hg9 hs9 hso hD9 h57 hfo htn) dX11_isStale_22 (tg_33 hT) rfl a_le a_le a_le a_le a_le rfl aRelV_x (aRelV_k (fun v9 I8 J8 hQ => ?_))
    obtain ⟨hJ8, hI8, A8, hA8, hL8, ev8⟩ := hQ
    rw [ev8, hJ8]
    have hg8 := hg9.cmp (I2 := I8) (fun o ho => hI8 o (by omega))
    show AW X 0 0 25 [some (.ref 0), some (.int (nI x1))] [.int (aLen A8)] T I8 J9 R9
    have hcp := hg8.cpl.2 x1 hx1
    refine aw_pop hC dX11_isStale_25 rfl ?_
    refine aw_aload_n hC dX11_isStale_26 rfl ?_
    refine aw_getR hC dX11_isStale_27 aF_X11_60 rfl (tg_0 hT) (pr_0_8 hR9) ?_
    refine aw_iload_n hC dX11_isStale_30 rfl ?_
    refine aw_aaloadR_k (j := x1) hC dX11_isStale_31 (tg_43 hT) (nI_clamp (by omega)) (vp_in_nI (by omega) (by decide)) (by first | exact hcp.1 | exact hcp0.1) ?_
    refine aw_getI hC dX11_isStale_32 aF_X11_300 rfl hcp0.2.1 ?_
    rw [hcp.2.2.2.2.2.1]
    refine aw_aload_n hC dX11_isStale_35 rfl ?_
    refine aw_getR hC dX11_isStale_36 aF_X11_28 rfl (tg_0 hT) (pr_0_2 hR9) ?_
    refine aw_getI hC dX11_isStale_39 aF_X11_278 rfl (tg_19 hT) ?_
    rw [hg8.ces.sr]
    refine aw_icmp_ne (tgt := 64) hC dX11_isStale_42 (by decide) (fun h2 => ?_) (fun h2 => ?_)
    · show AW X 0 0 64 [some (.ref 0), some (.int (nI x1))] [] T I8 J9 R9
      refine aw_iconst (v := 1) hC dX11_isStale_64 (by decide) ?_
      refine aw_goto (tgt := 69) hC dX11_isStale_65 (by decide) ?_
      exact aw_zreturn hC hq rfl (Or.inr rfl) dX11_isStale_69 a_le a_le (CP.ok (Or.inl ⟨hfcx, rfl, ⟨A8, hA8, by rw [nI_clamp (show x1 < 2 ^ 31 by omega)]; first | exact sl_1 (by assumption) | exact sl_2 (by assumption)⟩, rfl⟩) (fun o u v => ⟨(hI8 o (by omega)).trans (hf9 o u v).1, (hf9 o u v).2⟩) hg8.gi)
    · show AW X 0 0 45 [some (.ref 0), some (.int (nI x1))] [] T I8 J9 R9
      refine aw_aload_n hC dX11_isStale_45 rfl ?_
      refine aw_getR hC dX11_isStale_46 aF_X11_37 rfl (tg_0 hT) (pr_0_3 hR9) ?_
      refine aw_aload_n hC dX11_isStale_49 rfl ?_
      refine aw_getR hC dX11_isStale_50 aF_X11_60 rfl (tg_0 hT) (pr_0_8 hR9) ?_
      refine aw_iload_n hC dX11_isStale_53 rfl ?_
      refine aw_aaloadR_k (j := x1) hC dX11_isStale_54 (tg_43 hT) (nI_clamp (by omega)) (vp_in_nI (by omega) (by decide)) (by first | exact hcp.1 | exact hcp0.1) ?_
      refine aw_getR hC dX11_isStale_55 aF_X11_293 rfl hcp0.2.1 (by first | exact hcp.2.2.1 | exact hcp0.2.2.1) ?_
      refine kX11_301 hC rfl (m_hasG hg8 hx1 hA8 hL8) dX11_isStale_58 (tg_33 hT) rfl a_le a_le a_le a_le a_le rfl aPure_x (aPure_k ?_)
      show AW X 0 0 61 [some (.ref 0), some (.int (nI x1))] [.int (bI (hasA m x1 A8))] T I8 J9 R9
      refine aw_if_ne (tgt := 68) hC dX11_isStale_61 (by decide) (fun h3 => ?_) (fun h3 => ?_)
      · show AW X 0 0 68 [some (.ref 0), some (.int (nI x1))] [] T I8 J9 R9
        refine aw_iconst (v := 0) hC dX11_isStale_68 (by decide) ?_
        exact aw_zreturn hC hq rfl (Or.inl rfl) dX11_isStale_69 a_le a_le (CP.ok (Or.inl ⟨hfcx, rfl, ⟨A8, hA8, by rw [nI_clamp (show x1 < 2 ^ 31 by omega)]; exact sl_0 (by assumption) (by assumption)⟩, rfl⟩) (fun o u v => ⟨(hI8 o (by omega)).trans (hf9 o u v).1, (hf9 o u v).2⟩) hg8.gi)
      · show AW X 0 0 64 [some (.ref 0), some (.int (nI x1))] [] T I8 J9 R9
        refine aw_iconst (v := 1) hC dX11_isStale_64 (by decide) ?_
        refine aw_goto (tgt := 69) hC dX11_isStale_65 (by decide) ?_
        exact aw_zreturn hC hq rfl (Or.inr rfl) dX11_isStale_69 a_le a_le (CP.ok (Or.inl ⟨hfcx, rfl, ⟨A8, hA8, by rw [nI_clamp (show x1 < 2 ^ 31 by omega)]; first | exact sl_1 (by assumption) | exact sl_2 (by assumption)⟩, rfl⟩) (fun o u v => ⟨(hI8 o (by omega)).trans (hf9 o u v).1, (hf9 o u v).2⟩) hg8.gi)
theorem rb_g9 {T : List aT} {I : aI} {J : aJ} {R : aR} {m : aI} {c n : Nat} {sq : Nat → Nat} {g : Nat} {gq eq : Nat → Nat} {r p : Nat} {pq : Nat → Nat} {k : Nat} (h9 : G9 T I J R m c n sq g gq eq r p pq k) {x : Nat} {v : Int32} (hx : x < p) : G9 T (a_u I (pq x) 1 v) J R (a_u m 76 x v) c n sq g gq eq r p pq k := by
  have hT := h9.hT
  have t := (h9.cpl.2 x hx).2.1
  have e : ∀ q, q ≠ 76 → a_u m 76 x v q = m q := fun q z => a_u_row z
  have ne : ∀ o u, T[o]? = some u → u ≠ .inr 6 → a_u I (pq x) 1 v o = I o := fun o u a b => a_u_row (fun z => by rw [z, t] at a; cases a; exact b rfl)
  have h95 := (h9.cpl.pq hT hx).1.2.2
  have lo : ∀ o, o < 44 → a_u I (pq x) 1 v o = I o := fun o a => a_u_row (by omega)
  refine ⟨hT, h9.hR, ⟨MBk_cg h9.bk (fun o u v => e o (by omega)) (by rw [e 44 (by decide)]), MEs_cg h9.es (fun o u v => e o (by omega)) (by rw [e 44 (by decide)]), MPl_cg h9.pl (fun o u v => e o (by omega)) (e 69 (by decide)) (fun k _ => by rw [e 44 (by decide)]) (fun i _ => ⟨a_u_ne (fun z => by omega), by rw [e 78 (by decide)]⟩), MPo_cg h9.po (e 57 (by decide)) (by rw [e 44 (by decide)]), by obtain ⟨d, d1, d2⟩ := h9.dy; exact ⟨d, by rw [e 44 (by decide)]; exact d1, d2⟩⟩, (h9.cb.fr (List.prefix_refl _) (fun o u => ⟨lo o (by omega), rfl⟩) (fun s hs => ⟨ne _ _ (h9.cb.1.at hs).1 (by decide), rfl⟩) rfl).cgm ⟨fun o u => e o (by omega), by rw [e 44 (by decide)], by rw [e 44 (by decide)]⟩, ?_, (h9.ces.frt hT (List.prefix_refl _) (fun o u v => lo o (by omega)) (fun o u v w z => ⟨a_u_row (fun y => z (by rw [y]; exact t)), rfl⟩) rfl rfl).cgm (fun o u v => e o (by omega)) (by rw [e 44 (by decide)]) (by rw [e 44 (by decide)]), ⟨by rw [lo 0 (by decide)]; exact h9.cpl.1, fun i hi => ?_⟩, h9.cpi, (h9.cap.fr (fun o u v => lo o (by omega)) rfl).cgm (e 81 (by decide)) (e 82 (by decide)) (fun k _ => by rw [e 44 (by decide)])⟩
  · have q := h9.cpo.fr (I2 := a_u I (pq x) 1 v) (J2 := J) (by rw [lo 0 (by decide)]) (lo 41 (by decide)) rfl
    unfold CPo iN at *; rw [e 57 (by decide)]; exact q
  · have q := h9.cpl.2 i hi
    have e79 : iN (a_u m 76 x v) 79 i = iN m 79 i := by unfold iN; rw [e 79 (by decide)]
    have sl : ∀ j, j ≠ 1 → a_u I (pq x) 1 v (pq i) j = I (pq i) j := fun j z => a_u_ne (fun w => z w.2)
    rw [ne _ _ q.2.2.2.1 (fun z => by cases z), e79, e 75 (by decide), e 77 (by decide), e 78 (by decide), e 80 (by decide), sl 0 (by decide), sl 3 (by decide), sl 4 (by decide)]
    refine ⟨q.1, q.2.1, q.2.2.1, q.2.2.2.1, q.2.2.2.2.1, ?_, q.2.2.2.2.2.2⟩
    by_cases z : i = x
    · rw [z, a_u_self, a_u_self]
    · rw [a_u_ne (fun w => z (h9.cpi i x hi hx w.1)), a_u_ne (fun w => z w.2)]; exact q.2.2.2.2.2.1
set_option maxRecDepth 100000 in
theorem m_X11_rebase {T : List aT} {I : aI} {J : aJ} {R : aR} {m : aI} {c n : Nat} {sq : Nat → Nat} {g : Nat} {gq eq : Nat → Nat} {r p : Nat} {pq : Nat → Nat} {k : Nat} (h9 : G9 T I J R m c n sq g gq eq r p pq k) (x : Int32) : MX11_rebase 3 200 [.ref 0, .int x] T I J R (CP [exI, exS] I J m c (fun k v m2 => (((0 ≤ x ∧ x < nI p) ∧ m 78 x.toNatClampNeg = 0) ∧ k = 0 ∧ ∃ A, PlQ m n g A ∧ v = bI (hasA m x.toNatClampNeg A) ∧ m2 = (if hasA m x.toNatClampNeg A = true then a_u m 76 x.toNatClampNeg (m 44 35) else m)) ∨ (((0 ≤ x ∧ x < nI p) ∧ m 78 x.toNatClampNeg ≠ 0) ∧ k = 2 ∧ m2 = m) ∨ (¬ (0 ≤ x ∧ x < nI p) ∧ k = 1 ∧ m2 = m))) := by
  refine a_met (by decide +kernel) a_le (fun X hC hq => ?_)
  show AW X 0 0 0 [some (.ref 0), some (.int x)] [] T I J R
  have hT := h9.hT
  have hR := h9.hR
  have hp40 := h9.pl.2.1
  refine aw_iload_n hC dX11_rebase_0 rfl ?_
  refine aw_aload_n hC dX11_rebase_1 rfl ?_
  refine aw_getI hC dX11_rebase_2 aF_X11_275 rfl (tg_0 hT) ?_
  rw [h9.cpl.1]
  refine kX11_64 hC rfl (m_X11_isBelow x (nI p)) dX11_rebase_5 rfl a_le a_le a_le a_le a_le rfl aPure_x (aPure_k ?_)
  show AW X 0 0 8 [some (.ref 0), some (.int x)] [.int (bI (decide (0 ≤ x ∧ x < (nI p))))] T I J R
  by_cases hn1 : bI (decide (0 ≤ x ∧ x < (nI p))) = 0
  · rw [hn1]
    exact kX11_68 hC rfl (m_X11_needIndexF (T := T) (I := I) (J := J) (R := R)) dX11_rebase_8 rfl a_le a_le a_le a_le a_le rfl (aTh_x (ae_out hC hq a_le a_le (CP.th (j := 0) rfl (Or.inr (Or.inr ⟨of_decide_eq_false (bI_e0.mp (by assumption)), rfl, rfl⟩)) h9.gi))) aTh_k
  · refine kX11_68 hC rfl (m_X11_needIndexT (T := T) (I := I) (J := J) (R := R) (x := bI (decide (0 ≤ x ∧ x < (nI p)))) hn1) dX11_rebase_8 rfl a_le a_le a_le a_le a_le rfl aPure_x (aPure_k ?_)
    show AW X 0 0 11 [some (.ref 0), some (.int x)] [] T I J R
    have hfcx : 0 ≤ x ∧ x < nI (p) := of_decide_eq_true (bI_n0.mp (by assumption))
    obtain ⟨x1, hx1, ex1⟩ := i_nat (x := x) (b := p) hfcx.1 hfcx.2 rfl (by first | decide | omega)
    subst ex1
    have hcp0 := h9.cpl.2 x1 hx1
    show AW X 0 0 11 [some (.ref 0), some (.int (nI x1))] [] T I J R
    refine aw_aload_n hC dX11_rebase_11 rfl ?_
    refine aw_getR hC dX11_rebase_12 aF_X11_60 rfl (tg_0 hT) (pr_0_8 hR) ?_
    refine aw_iload_n hC dX11_rebase_15 rfl ?_
    refine aw_aaloadR_k (j := x1) hC dX11_rebase_16 (tg_43 hT) (nI_clamp (by omega)) (vp_in_nI (by omega) (by decide)) (by first | exact hcp.1 | exact hcp0.1) ?_
    refine aw_getI hC dX11_rebase_17 aF_X11_305 rfl hcp0.2.1 ?_
    rw [hcp0.2.2.2.2.2.2.2.1]
    refine aw_if_ne (tgt := 27) hC dX11_rebase_20 (by decide) (fun h2 => ?_) (fun h2 => ?_)
    · show AW X 0 0 27 [some (.ref 0), some (.int (nI x1))] [] T I J R
      refine aw_iconst (v := 0) hC dX11_rebase_27 (by decide) ?_
      exact kX11_88 hC rfl (m_X11_needStateF (T := T) (I := I) (J := J) (R := R)) dX11_rebase_28 rfl a_le a_le a_le a_le a_le rfl (aTh_x (ae_out hC hq a_le a_le (CP.th (j := 1) rfl (Or.inr (Or.inl ⟨⟨hfcx, by rw [nI_clamp (show x1 < 2 ^ 31 by omega)]; assumption⟩, rfl, rfl⟩)) h9.gi))) aTh_k
    · show AW X 0 0 23 [some (.ref 0), some (.int (nI x1))] [] T I J R
      refine aw_iconst (v := 1) hC dX11_rebase_23 (by decide) ?_
      refine aw_goto (tgt := 28) hC dX11_rebase_24 (by decide) ?_
      refine kX11_88 hC rfl (m_X11_needStateT (T := T) (I := I) (J := J) (R := R) (x := 1) (by decide)) dX11_rebase_28 rfl a_le a_le a_le a_le a_le rfl aPure_x (aPure_k ?_)
      show AW X 0 0 31 [some (.ref 0), some (.int (nI x1))] [] T I J R
      refine aw_aload_n hC dX11_rebase_31 rfl ?_
      refine aw_getR hC dX11_rebase_32 aF_X11_21 rfl (tg_0 hT) (pr_0_1 hR) ?_
      refine kX11_113 hC rfl (m_settleG h9) dX11_rebase_35 (tg_8 hT) rfl a_le a_le a_le a_le a_le rfl aRelT_x (aRelT_k (fun v9 T9 I9 J9 R9 hp9 hQ => ?_))
      obtain ⟨ev9, hT9, hf9, hg9, m0, hs9, hl9⟩ := hQ
      rw [ev9, hT9]
      have hR9 := hg9.hR
      obtain ⟨M, P, S, hso, hD9, hC9, hP9, hS9, h57, hfo, htn, hcf, hSM, hcs, h53, hfx⟩ := hl9.use hs9 h9.bk hg9.cb.1
      show AW X 0 0 38 [some (.ref 0), some (.int (nI x1))] [] T I9 J9 R9
      refine aw_aload_n hC dX11_rebase_38 rfl ?_
      refine aw_getR hC dX11_rebase_39 aF_X11_37 rfl (tg_0 hT) (pr_0_3 hR9) ?_
      refine kX11_269 hC rfl (m_listG hg9 hs9 hso hD9 h57 hfo htn) dX11_rebase_42 (tg_33 hT) rfl a_le a_le a_le a_le a_le rfl aRelV_x (aRelV_k (fun v9 I8 J8 hQ => ?_))
      obtain ⟨hJ8, hI8, A8, hA8, hL8, ev8⟩ := hQ
      rw [ev8, hJ8]
      have hg8 := hg9.cmp (I2 := I8) (fun o ho => hI8 o (by omega))
      show AW X 0 0 45 [some (.ref 0), some (.int (nI x1))] [.int (aLen A8)] T I8 J9 R9
      have hcp := hg8.cpl.2 x1 hx1
      refine aw_pop hC dX11_rebase_45 rfl ?_
      refine aw_aload_n hC dX11_rebase_46 rfl ?_
      refine aw_getR hC dX11_rebase_47 aF_X11_37 rfl (tg_0 hT) (pr_0_3 hR9) ?_
      refine aw_aload_n hC dX11_rebase_50 rfl ?_
      refine aw_getR hC dX11_rebase_51 aF_X11_60 rfl (tg_0 hT) (pr_0_8 hR9) ?_
      refine aw_iload_n hC dX11_rebase_54 rfl ?_
      refine aw_aaloadR_k (j := x1) hC dX11_rebase_55 (tg_43 hT) (nI_clamp (by omega)) (vp_in_nI (by omega) (by decide)) (by first | exact hcp.1 | exact hcp0.1) ?_
      refine aw_getR hC dX11_rebase_56 aF_X11_293 rfl hcp0.2.1 (by first | exact hcp.2.2.1 | exact hcp0.2.2.1) ?_
      refine kX11_301 hC rfl (m_hasG hg8 hx1 hA8 hL8) dX11_rebase_59 (tg_33 hT) rfl a_le a_le a_le a_le a_le rfl aPure_x (aPure_k ?_)
      show AW X 0 0 62 [some (.ref 0), some (.int (nI x1))] [.int (bI (hasA m x1 A8))] T I8 J9 R9
      refine aw_if_ne (tgt := 67) hC dX11_rebase_62 (by decide) (fun h3 => ?_) (fun h3 => ?_)
      · show AW X 0 0 67 [some (.ref 0), some (.int (nI x1))] [] T I8 J9 R9
        refine aw_aload_n hC dX11_rebase_67 rfl ?_
        refine aw_getR hC dX11_rebase_68 aF_X11_60 rfl (tg_0 hT) (pr_0_8 hR9) ?_
        refine aw_iload_n hC dX11_rebase_71 rfl ?_
        refine aw_aaloadR_k (j := x1) hC dX11_rebase_72 (tg_43 hT) (nI_clamp (by omega)) (vp_in_nI (by omega) (by decide)) (by first | exact hcp.1 | exact hcp0.1) ?_
        refine aw_aload_n hC dX11_rebase_73 rfl ?_
        refine aw_getR hC dX11_rebase_74 aF_X11_28 rfl (tg_0 hT) (pr_0_2 hR9) ?_
        refine aw_getI hC dX11_rebase_77 aF_X11_278 rfl (tg_19 hT) ?_
        rw [hg8.ces.sr]
        refine aw_putI hC dX11_rebase_80 aF_X11_300 rfl rfl hcp0.2.1 ?_
        refine aw_iconst (v := 1) hC dX11_rebase_83 (by decide) ?_
        exact aw_zreturn hC hq rfl (Or.inr rfl) dX11_rebase_84 a_le a_le (CP.ok (Or.inl ⟨⟨hfcx, by rw [nI_clamp (show x1 < 2 ^ 31 by omega)]; assumption⟩, rfl, A8, hA8, by rw [nI_clamp (show x1 < 2 ^ 31 by omega)]; rw [bI_n0.mp (by assumption : ¬ bI (hasA m x1 A8) = 0)]; rfl, by rw [nI_clamp (show x1 < 2 ^ 31 by omega)]; rw [if_pos (bI_n0.mp (by assumption : ¬ bI (hasA m x1 A8) = 0))]⟩) (fun o u v => ⟨by have := (hg8.cpl.pq hT hx1).1.2.2; rw [a_u_row (by omega)]; exact (hI8 o (by omega)).trans (hf9 o u v).1, (hf9 o u v).2⟩) (rb_g9 hg8 hx1).gi)
      · show AW X 0 0 65 [some (.ref 0), some (.int (nI x1))] [] T I8 J9 R9
        refine aw_iconst (v := 0) hC dX11_rebase_65 (by decide) ?_
        exact aw_zreturn hC hq rfl (Or.inl rfl) dX11_rebase_66 a_le a_le (CP.ok (Or.inl ⟨⟨hfcx, by rw [nI_clamp (show x1 < 2 ^ 31 by omega)]; assumption⟩, rfl, A8, hA8, by rw [nI_clamp (show x1 < 2 ^ 31 by omega)]; exact (by assumption : bI (hasA m x1 A8) = 0).symm, by rw [nI_clamp (show x1 < 2 ^ 31 by omega)]; rw [if_neg (fun q => by have q2 := bI_e0.mp (by assumption : bI (hasA m x1 A8) = 0); rw [q] at q2; cases q2)]⟩) (fun o u v => ⟨(hI8 o (by omega)).trans (hf9 o u v).1, (hf9 o u v).2⟩) hg8.gi)
