theorem G9.gi {T : List aT} {I : aI} {J : aJ} {R : aR} {m : aI} {c n : Nat} {sq : Nat → Nat} {g : Nat} {gq eq : Nat → Nat} {r p : Nat} {pq : Nat → Nat} {k : Nat} (h : G9 T I J R m c n sq g gq eq r p pq k) : GI T I J R m (c + 1) := GI.next ⟨n, sq, g, gq, eq, r, p, pq, k, h⟩
theorem i_nat {x z : Int32} {b : Nat} (h1 : 0 ≤ x) (h2 : x < z) (hz : z = nI b) (hb : b < 100000) : ∃ j, j < b ∧ x = nI j := by
  have e : (nI b).toInt = b := i_nl b (by omega)
  rw [hz] at h2
  have h3 := (i_le _ _).mp h1
  have h4 := (i_lt _ _).mp h2
  rw [e] at h4
  have h5 : (0 : Int32).toInt = 0 := by decide
  rw [h5] at h3
  refine ⟨x.toNatClampNeg, ?_, ?_⟩
  · show x.toInt.toNat < b
    omega
  · apply (i_eq _ _).mpr
    rw [i_nl _ (by show x.toInt.toNat < 2147483648; omega)]
    show x.toInt = (x.toInt.toNat : Int)
    omega
theorem CP.th {ex : List String} {T : List aT} {I : aI} {J : aJ} {R : aR} {m : aI} {c : Nat} {Sp : Nat → Int32 → aI → Prop} {j : Nat} {E : String} (he : ex[j]? = some E) (hs : Sp (j + 1) 0 m) (hg : GI T I J R m (c + 1)) : CP ex I J m c Sp (.inr E) T I J R := ⟨fun _ _ _ => ⟨rfl, rfl⟩, Or.inr ⟨j, E, he, rfl, hs, hg⟩⟩
theorem CP.ok {ex : List String} {T2 : List aT} {I I2 : aI} {J J2 : aJ} {R2 : aR} {m m2 : aI} {c : Nat} {Sp : Nat → Int32 → aI → Prop} {v : Int32} (hs : Sp 0 v m2) (hf : MFr I I2 J J2) (hg : GI T2 I2 J2 R2 m2 (c + 1)) : CP ex I J m c Sp (.inl (some (.int v))) T2 I2 J2 R2 := ⟨hf, Or.inl ⟨v, m2, rfl, hs, hg⟩⟩
theorem CEst.frt {T T2 : List aT} {I I2 : aI} {R R2 : aR} {m : aI} {g r : Nat} {gq eq : Nat → Nat} (h : CEst T I R m g gq eq r) (hT : aPT T) (hp : T <+: T2) (h1 : ∀ o, 19 ≤ o → o ≤ 32 → I2 o = I o) (h2 : ∀ o, o < T.length → 44 ≤ o → T[o]? ≠ some (.inr 8) → T[o]? ≠ some (.inr 6) → I2 o = I o ∧ R2 o = R o) (h3 : R2 21 = R 21) (h4 : R2 25 = R 25) : CEst T2 I2 R2 m g gq eq r := by
  have tg : ∀ {o t}, T[o]? = some t → 44 ≤ o → t ≠ .inr 8 → t ≠ .inr 6 → I2 o = I o ∧ R2 o = R o := fun {o t} u v w x => h2 o (a_rel_lt u) v (fun z => by rw [u] at z; cases z; exact w rfl) (fun z => by rw [u] at z; cases z; exact x rfl)
  refine ⟨⟨by rw [h1 19 (by decide) (by decide)]; exact h.gn.1, fun i hi => ⟨by rw [h3]; exact h.gn.rf hi, ?_⟩, h.gn.2.2⟩, h.ty.fr (fun o a b => h1 o (by omega) (by omega)), ?_, ⟨fun x hx => ⟨fun h0 => by rw [h4]; exact h.en.no hx h0, fun h0 => ⟨by rw [h4]; exact h.en.rf hx h0, ?_⟩⟩, h.en.2⟩, by rw [h1 19 (by decide) (by decide)]; exact h.sr, fun x hx => by rw [h1 26 (by decide) (by decide)]; exact h.md hx⟩
  · have h95 := h.gn.ge hT hi
    have q := h.gn.at hi
    have a0 := tg (h.gn.tg hi) h95 (by decide) (by decide)
    have a1 := tg (h.gn.t1 hi) (by omega) (by decide) (by decide)
    have a2 := tg (h.gn.t2 hi) (by omega) (by decide) (by decide)
    unfold GnAt at *
    rw [a0.1, a0.2, a1.1, a2.1]
    exact ⟨a_pfx hp q.1, q.2.1, a_pfx hp q.2.2.1, q.2.2.2.1, a_pfx hp q.2.2.2.2.1, q.2.2.2.2.2⟩
  · have q := h.rs
    unfold CRs at *
    rw [h1 19 (by decide) (by decide), h1 22 (by decide) (by decide), h1 23 (by decide) (by decide), h1 24 (by decide) (by decide)]
    exact q
  · have h95 := h.en.ge hT hx h0
    have q := h.en.at hx h0
    have a0 := tg (h.en.tg hx h0) h95 (by decide) (by decide)
    have a1 := tg (h.en.t1 hx h0) (by omega) (by decide) (by decide)
    have a2 := tg (h.en.t2 hx h0) (by omega) (by decide) (by decide)
    unfold EnAt at *
    rw [a0.1, a0.2, a1.1, a2.1]
    exact ⟨a_pfx hp q.1, q.2.1, a_pfx hp q.2.2.1, q.2.2.2.1, a_pfx hp q.2.2.2.2.1, q.2.2.2.2.2⟩
/-- when the book changes -/
theorem G9.book {T T2 : List aT} {I I2 : aI} {J : aJ} {R R2 : aR} {m m2 : aI} {c c2 n n2 : Nat} {sq sq2 : Nat → Nat} {g : Nat} {gq eq : Nat → Nat} {r p : Nat} {pq : Nat → Nat} {k : Nat} (h : G9 T I J R m c n sq g gq eq r p pq k) (hp : T <+: T2) (hI : ∀ o, o < T.length → (o = 0 ∨ (19 ≤ o ∧ o < 44) ∨ (44 ≤ o ∧ T[o]? ≠ some (.inr 8))) → I2 o = I o) (hR : ∀ o, o < T.length → (o = 21 ∨ o = 25 ∨ o = 38 ∨ o = 43 ∨ (44 ≤ o ∧ T[o]? ≠ some (.inr 8))) → R2 o = R o) (hR2 : aPR R2)
    (hm : ∀ o, 57 ≤ o → o ≤ 82 → m2 o = m o) (h4 : ∀ k, k ≠ 0 → k ≠ 13 → k ≠ 53 → k ≠ 57 → k ≠ 59 → k ≠ 61 → m2 44 k = m 44 k) (hbk : MBk m2 n2) (hdy : MDy m2 c2) (hst : CSt T2 I2 R2 m2 n2 sq2) (hcb : CBk I2 m2) (h811 : I2 8 11 = 0) : G9 T2 I2 J R2 m2 c2 n2 sq2 g gq eq r p pq k := by
  have hT := h.hT
  have h95 := hT.len
  have lo : ∀ o, 19 ≤ o → o < 44 → I2 o = I o := fun o u v => hI o (by omega) (Or.inr (Or.inl ⟨u, v⟩))
  have i0 := hI 0 (by omega) (Or.inl rfl)
  have e4 : ∀ k, k = 14 ∨ k = 20 ∨ k = 25 ∨ k = 35 ∨ k = 36 ∨ k = 43 ∨ k = 44 ∨ k = 45 → m2 44 k = m 44 k := fun k hk => h4 k (by omega) (by omega) (by omega) (by omega) (by omega) (by omega)
  have q1 : CEst T2 I2 R2 m g gq eq r := h.ces.frt hT hp (fun o u v => lo o u (by omega)) (fun o u v w _ => ⟨hI o u (Or.inr (Or.inr ⟨v, w⟩)), hR o u (Or.inr (Or.inr (Or.inr (Or.inr ⟨v, w⟩))))⟩) (hR 21 (by omega) (by omega)) (hR 25 (by omega) (by omega))
  refine ⟨hT.next hp, hR2, ⟨hbk, MEs_cg h.es (fun o u v => hm o (by omega) (by omega)) (e4 20 (by decide)), MPl_cg h.pl (fun o u v => hm o (by omega) v) (hm 69 (by decide) (by decide)) (fun k hk => e4 k (by omega)) (fun i _ => ⟨by rw [hm 77 (by decide) (by decide)], by rw [hm 78 (by decide) (by decide)]⟩), MPo_cg h.po (hm 57 (by decide) (by decide)) (e4 14 (by decide)), hdy⟩, ⟨hst, hcb, h.cb.2.2.1, Or.inl h811, Or.inl h811⟩, ?_, q1.cgm (fun o u v => hm o (by omega) (by omega)) (e4 25 (by decide)) (e4 35 (by decide)), (h.cpl.fr hp (by rw [i0]) (fun i hi => ?_) (hR 43 (by omega) (by omega))).cgm (fun o u v => hm o (by omega) (by omega)), h.cpi, (h.cap.fr (fun o u v => lo o (by omega) (by omega)) (hR 38 (by omega) (by omega))).cgm (hm 81 (by decide) (by decide)) (hm 82 (by decide) (by decide)) (fun k hk => e4 k (by omega))⟩
  · have q := h.cpo.fr (I2 := I2) (J2 := J) (by rw [i0]) (lo 41 (by decide) (by decide)) rfl
    unfold CPo iN at *; rw [hm 57 (by decide) (by decide)]; exact q
  · have q := h.cpl.pq hT hi
    have t := h.cpl.2 i hi
    have n1 : T[pq i]? ≠ some (.inr 8) := fun z => by rw [t.2.1] at z; cases z
    have n2 : T[pq i + 1]? ≠ some (.inr 8) := fun z => by rw [t.2.2.2.1] at z; cases z
    exact ⟨hI _ q.1.1 (Or.inr (Or.inr ⟨q.1.2.2, n1⟩)), hI _ q.2.1 (Or.inr (Or.inr ⟨by omega, n2⟩)), hR _ q.1.1 (Or.inr (Or.inr (Or.inr (Or.inr ⟨q.1.2.2, n1⟩))))⟩
set_option maxRecDepth 100000 in
theorem m_X11_isLocked {T : List aT} {I : aI} {J : aJ} {R : aR} {m : aI} {c n : Nat} {sq : Nat → Nat} {g : Nat} {gq eq : Nat → Nat} {r p : Nat} {pq : Nat → Nat} {k : Nat} (h9 : G9 T I J R m c n sq g gq eq r p pq k)  : MX11_isLocked 3 200 [.ref 0] T I J R (CP [] I J m c (fun k v m2 => k = 0 ∧ v = bI (decide (0 ≤ m 44 45)) ∧ m2 = m)) := by
  refine a_met (by decide +kernel) a_le (fun X hC hq => ?_)
  show AW X 0 0 0 [some (.ref 0)] [] T I J R
  have hT := h9.hT
  have hR := h9.hR
  refine aw_aload_n hC dX11_isLocked_0 rfl ?_
  refine aw_getR hC dX11_isLocked_1 aF_X11_46 rfl (tg_0 hT) (pr_0_4 hR) ?_
  refine aw_getI hC dX11_isLocked_4 aF_X11_254 rfl (tg_38 hT) ?_
  rw [h9.cap.2.2.1]
  exact aw_zreturn hC hq rfl (bI_01 _) dX11_isLocked_7 a_le a_le (CP.ok ⟨rfl, rfl, rfl⟩ (fun _ _ _ => ⟨rfl, rfl⟩) h9.gi)
set_option maxRecDepth 100000 in
theorem m_X11_serial {T : List aT} {I : aI} {J : aJ} {R : aR} {m : aI} {c n : Nat} {sq : Nat → Nat} {g : Nat} {gq eq : Nat → Nat} {r p : Nat} {pq : Nat → Nat} {k : Nat} (h9 : G9 T I J R m c n sq g gq eq r p pq k)  : MX11_serial 3 200 [.ref 0] T I J R (CP [] I J m c (fun k v m2 => k = 0 ∧ v = m 44 35 ∧ m2 = m)) := by
  refine a_met (by decide +kernel) a_le (fun X hC hq => ?_)
  show AW X 0 0 0 [some (.ref 0)] [] T I J R
  have hT := h9.hT
  have hR := h9.hR
  refine aw_aload_n hC dX11_serial_0 rfl ?_
  refine aw_getR hC dX11_serial_1 aF_X11_28 rfl (tg_0 hT) (pr_0_2 hR) ?_
  refine aw_getI hC dX11_serial_4 aF_X11_278 rfl (tg_19 hT) ?_
  rw [h9.ces.sr]
  exact aw_ireturn hC hq rfl dX11_serial_7 a_le a_le (CP.ok ⟨rfl, rfl, rfl⟩ (fun _ _ _ => ⟨rfl, rfl⟩) h9.gi)
set_option maxRecDepth 100000 in
theorem m_X11_resources {T : List aT} {I : aI} {J : aJ} {R : aR} {m : aI} {c n : Nat} {sq : Nat → Nat} {g : Nat} {gq eq : Nat → Nat} {r p : Nat} {pq : Nat → Nat} {k : Nat} (h9 : G9 T I J R m c n sq g gq eq r p pq k)  : MX11_resources 3 200 [.ref 0] T I J R (CP [] I J m c (fun k v m2 => k = 0 ∧ v = m 44 25 ∧ m2 = m)) := by
  refine a_met (by decide +kernel) a_le (fun X hC hq => ?_)
  show AW X 0 0 0 [some (.ref 0)] [] T I J R
  have hT := h9.hT
  have hR := h9.hR
  refine aw_aload_n hC dX11_resources_0 rfl ?_
  refine aw_getR hC dX11_resources_1 aF_X11_28 rfl (tg_0 hT) (pr_0_2 hR) ?_
  refine aw_getI hC dX11_resources_4 aF_X11_335 rfl (tg_19 hT) ?_
  rw [(h9.ces.rs.1.trans h9.ces.rs.2.1.symm)]
  exact aw_ireturn hC hq rfl dX11_resources_7 a_le a_le (CP.ok ⟨rfl, rfl, rfl⟩ (fun _ _ _ => ⟨rfl, rfl⟩) h9.gi)
theorem sl_g9 {T : List aT} {I : aI} {J : aJ} {R : aR} {m : aI} {c n : Nat} {sq : Nat → Nat} {g : Nat} {gq eq : Nat → Nat} {r p : Nat} {pq : Nat → Nat} {k : Nat} (h9 : G9 T I J R m c n sq g gq eq r p pq k) {f : Nat} {l : Int32} (hf : f < 6) (hl : 0 ≤ l ∧ l < 4) : G9 T (a_u (a_u I 3 f l) 8 11 0) J R (a_u m 54 f l) c n sq g gq eq r p pq k := by
  have hs := h9.bk
  obtain ⟨l1, hl1, el⟩ := i_nat hl.1 hl.2 (b := 4) rfl (by decide)
  have b := h9.cb.2.1
  refine h9.book (List.prefix_refl _) (fun o u v => by rw [a_u_row (by omega), a_u_row (by omega)]) (fun _ _ _ => rfl) h9.hR (fun o u v => a_u_row (by omega)) (fun k _ _ _ _ _ _ => by rw [a_u_row (by decide)]) ⟨SW_cgr hs.1 (fun o u v => a_u_row (by omega)) (by rw [a_u_row (by decide)]), by rw [a_u_row (by decide), a_u_row (by decide)]; exact hs.2.1, ?_, by rw [a_u_row (by decide), a_u_row (by decide), a_u_row (by decide), a_u_row (by decide)]; exact hs.2.2.2⟩ (by obtain ⟨d, d1, d2⟩ := h9.dy; exact ⟨d, by rw [a_u_row (by decide)]; exact d1, d2⟩) (((h9.cb.1.put (tg_3 h9.hT) (by decide) (by decide)).put (tg_8 h9.hT) (by decide) (by decide)).cgm (fun o u v => a_u_row (by omega))) ?_ a_u_self
  · rw [el]; exact hs.2.2.1.put (by omega) (by omega)
  · refine ⟨fun q hq => ?_, fun q hq => ?_, fun q hq => ?_, fun q hq => ?_, ?_⟩
    · rw [a_u_row (by decide)]
      by_cases z : q = f
      · rw [z, a_u_self, a_u_self]
      · rw [a_u_ne (fun w => z w.2), a_u_ne (fun w => z w.2)]; exact b.1 q hq
    · rw [a_u_row (by decide), a_u_row (by decide), a_u_row (by decide)]; exact b.2.1 q hq
    · rw [a_u_row (by decide), a_u_row (by decide), a_u_row (by decide)]; exact b.2.2.1 q hq
    · rw [a_u_row (by decide), a_u_row (by decide), a_u_row (by decide)]; exact b.2.2.2.1 q hq
    · rw [a_u_row (by decide), a_u_row (by decide), a_u_row (by decide)]; exact b.2.2.2.2
set_option maxRecDepth 100000 in
theorem m_X11_setLayer {T : List aT} {I : aI} {J : aJ} {R : aR} {m : aI} {c n : Nat} {sq : Nat → Nat} {g : Nat} {gq eq : Nat → Nat} {r p : Nat} {pq : Nat → Nat} {k : Nat} (h9 : G9 T I J R m c n sq g gq eq r p pq k) (f l : Int32) : MX11_setLayer 3 200 [.ref 0, .int f, .int l] T I J R (CP [exI] I J m c (fun k v m2 => (((0 ≤ f ∧ f ≤ 5) ∧ (0 ≤ l ∧ l ≤ 3)) ∧ k = 0 ∧ v = m 54 f.toNatClampNeg ∧ m2 = a_u m 54 f.toNatClampNeg l) ∨ (¬ ((0 ≤ f ∧ f ≤ 5) ∧ (0 ≤ l ∧ l ≤ 3)) ∧ k = 1 ∧ m2 = m))) := by
  refine a_met (by decide +kernel) a_le (fun X hC hq => ?_)
  show AW X 0 0 0 [some (.ref 0), some (.int f), some (.int l), none] [] T I J R
  have hT := h9.hT
  have hR := h9.hR
  refine aw_iload_n hC dX11_setLayer_0 rfl ?_
  refine aw_bipush (v := 6) hC dX11_setLayer_1 (by decide) ?_
  refine kX11_64 hC rfl (m_X11_isBelow f (6 : Int32)) dX11_setLayer_3 rfl a_le a_le a_le a_le a_le rfl aPure_x (aPure_k ?_)
  show AW X 0 0 6 [some (.ref 0), some (.int f), some (.int l), none] [.int (bI (decide (0 ≤ f ∧ f < (6 : Int32))))] T I J R
  refine aw_if_eq (tgt := 21) hC dX11_setLayer_6 (by decide) (fun h1 => ?_) (fun h1 => ?_)
  · show AW X 0 0 21 [some (.ref 0), some (.int f), some (.int l), none] [] T I J R
    refine aw_iconst (v := 0) hC dX11_setLayer_21 (by decide) ?_
    exact kX11_68 hC rfl (m_X11_needIndexF (T := T) (I := I) (J := J) (R := R)) dX11_setLayer_22 rfl a_le a_le a_le a_le a_le rfl (aTh_x (ae_out hC hq a_le a_le (CP.th (j := 0) rfl (Or.inr ⟨by clear hC hq; (try simp only [bI_e0, bI_n0, decide_eq_false_iff_not, decide_eq_true_eq, Classical.not_not] at *); (simp only [i_lt, i_le, i_eq, Int32.reduceToInt] at *); omega, rfl, rfl⟩) h9.gi))) aTh_k
  · show AW X 0 0 9 [some (.ref 0), some (.int f), some (.int l), none] [] T I J R
    refine aw_iload_n hC dX11_setLayer_9 rfl ?_
    refine aw_iconst (v := 4) hC dX11_setLayer_10 (by decide) ?_
    refine kX11_64 hC rfl (m_X11_isBelow l (4 : Int32)) dX11_setLayer_11 rfl a_le a_le a_le a_le a_le rfl aPure_x (aPure_k ?_)
    show AW X 0 0 14 [some (.ref 0), some (.int f), some (.int l), none] [.int (bI (decide (0 ≤ l ∧ l < (4 : Int32))))] T I J R
    refine aw_if_eq (tgt := 21) hC dX11_setLayer_14 (by decide) (fun h2 => ?_) (fun h2 => ?_)
    · show AW X 0 0 21 [some (.ref 0), some (.int f), some (.int l), none] [] T I J R
      refine aw_iconst (v := 0) hC dX11_setLayer_21 (by decide) ?_
      exact kX11_68 hC rfl (m_X11_needIndexF (T := T) (I := I) (J := J) (R := R)) dX11_setLayer_22 rfl a_le a_le a_le a_le a_le rfl (aTh_x (ae_out hC hq a_le a_le (CP.th (j := 0) rfl (Or.inr ⟨by clear hC hq; (try simp only [bI_e0, bI_n0, decide_eq_false_iff_not, decide_eq_true_eq, Classical.not_not] at *); (simp only [i_lt, i_le, i_eq, Int32.reduceToInt] at *); omega, rfl, rfl⟩) h9.gi))) aTh_k
    · show AW X 0 0 17 [some (.ref 0), some (.int f), some (.int l), none] [] T I J R
      refine aw_iconst (v := 1) hC dX11_setLayer_17 (by decide) ?_
      refine aw_goto (tgt := 22) hC dX11_setLayer_18 (by decide) ?_
      refine kX11_68 hC rfl (m_X11_needIndexT (T := T) (I := I) (J := J) (R := R) (x := 1) (by decide)) dX11_setLayer_22 rfl a_le a_le a_le a_le a_le rfl aPure_x (aPure_k ?_)
      show AW X 0 0 25 [some (.ref 0), some (.int f), some (.int l), none] [] T I J R
      have hfc : 0 ≤ f ∧ f < 6 := of_decide_eq_true (bI_n0.mp (by assumption))
      have hlc : 0 ≤ l ∧ l < 4 := of_decide_eq_true (bI_n0.mp (by assumption))
      obtain ⟨f1, hf1, ef1⟩ := i_nat (x := f) (b := 6) hfc.1 hfc.2 rfl (by decide)
      subst ef1
      show AW X 0 0 25 [some (.ref 0), some (.int (nI f1)), some (.int l), none] [] T I J R
      refine aw_aload_n hC dX11_setLayer_25 rfl ?_
      refine aw_getR hC dX11_setLayer_26 aF_X11_10 rfl (tg_0 hT) (pr_0_0 hR) ?_
      refine aw_getR hC dX11_setLayer_29 aF_X11_120 rfl (tg_1 hT) (pr_1_2 hR) ?_
      refine aw_iload_n hC dX11_setLayer_32 rfl ?_
      refine aw_iaload_k (j := f1) hC dX11_setLayer_33 (tg_3 hT) (nI_clamp (by omega)) (vp_in_nI (by omega) (by decide)) ?_
      rw [(h9.cb.2.1.1 f1 hf1)]
      refine aw_istore_n (L2 := [some (.ref 0), some (.int (nI f1)), some (.int l), some (.int (m 54 f1))]) hC dX11_setLayer_34 rfl (by decide) rfl ?_
      refine aw_aload_n hC dX11_setLayer_35 rfl ?_
      refine aw_getR hC dX11_setLayer_36 aF_X11_10 rfl (tg_0 hT) (pr_0_0 hR) ?_
      refine aw_getR hC dX11_setLayer_39 aF_X11_120 rfl (tg_1 hT) (pr_1_2 hR) ?_
      refine aw_iload_n hC dX11_setLayer_42 rfl ?_
      refine aw_iload_n hC dX11_setLayer_43 rfl ?_
      refine aw_iastore_k (j := f1) hC dX11_setLayer_44 (tg_3 hT) (nI_clamp (by omega)) (vp_in_nI (by omega) (by decide)) ?_
      refine aw_aload_n hC dX11_setLayer_45 rfl ?_
      refine aw_getR hC dX11_setLayer_46 aF_X11_21 rfl (tg_0 hT) (pr_0_1 hR) ?_
      refine kX11_91 hC rfl (m_X10_forget (I := a_u I 3 f1 l) hT hR) dX11_setLayer_49 (tg_8 hT) rfl a_le a_le a_le a_le a_le rfl aPure_x (aPure_k ?_)
      show AW X 0 0 52 [some (.ref 0), some (.int (nI f1)), some (.int l), some (.int (m 54 f1))] [] T (a_u (a_u I 3 f1 l) 8 11 0) J R
      refine aw_iload_n hC dX11_setLayer_52 rfl ?_
      exact aw_ireturn hC hq rfl dX11_setLayer_53 a_le a_le (CP.ok (Or.inl ⟨by clear hC hq; (try simp only [bI_e0, bI_n0, decide_eq_false_iff_not, decide_eq_true_eq, Classical.not_not] at *); (simp only [i_lt, i_le, i_eq, Int32.reduceToInt] at *); omega, rfl, by rw [nI_clamp (by omega)], by rw [nI_clamp (by omega)]⟩) (fun o u v => ⟨by rw [a_u_row (by omega), a_u_row (by omega)], rfl⟩) (sl_g9 h9 hf1 hlc).gi)
