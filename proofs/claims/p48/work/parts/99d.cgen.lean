abbrev gnM (m : aI) (g : Nat) (t : Int32) : aI := a_u (a_u m 62 g t) 44 20 (nI (g + 1))
theorem gnM_o {m : aI} {g : Nat} {t : Int32} {q : Nat} (a : q ≠ 62) (b : q ≠ 44) : gnM m g t q = m q := by unfold gnM; rw [a_u_row b, a_u_row a]
theorem gnM_4 {m : aI} {g j : Nat} {t : Int32} (h : j ≠ 20) : gnM m g t 44 j = m 44 j := by unfold gnM; rw [a_u_ne (fun z => h z.2), a_u_row (by decide)]
theorem gnM_62 {m : aI} {g j : Nat} {t : Int32} (h : j ≠ g) : gnM m g t 62 j = m 62 j := by unfold gnM; rw [a_u_row (by decide), a_u_ne (fun z => h z.2)]
theorem gnM_g {m : aI} {g : Nat} {t : Int32} : gnM m g t 62 g = t := by unfold gnM; rw [a_u_row (by decide), a_u_self]
theorem CEst.gnr {T T2 : List aT} {I I2 : aI} {R R2 : aR} {m : aI} {g r : Nat} {t : Int32} {gq eq : Nat → Nat} (h : CEst T I R m g gq eq r) (hT : aPT T) (hg : g < 4) (hu : Unu m g r) (hT2 : T2 = T ++ [.inr 5, .inl (.int, 8), .inl (.int, 3)]) (hz : ∀ o, T.length ≤ o → I o = fun _ => 0) (hI : I2 = a_u (a_fill (a_u I T.length 0 t) (T.length + 2) 3 (fun _ => (-1))) 19 2 (nI (g + 1))) (hR : R2 = a_u (a_u (a_u R T.length 1 (some (T.length + 1))) T.length 3 (some (T.length + 2))) 21 g (some T.length)) : CEst T2 I2 R2 (gnM m g t) (g + 1) (fun i => if i = g then T.length else gq i) eq r := by
  have h95 := hT.len
  have hp : T <+: T2 := by rw [hT2]; exact List.prefix_append _ _
  have e : ∀ q, q ≠ 62 → q ≠ 44 → gnM m g t q = m q := fun q a b => gnM_o a b
  have lo : ∀ o, o < T.length → o ≠ 19 → I2 o = I o := fun o a b => by rw [hI, a_u_row b, a_fill_ne (by omega), a_u_row (by omega)]
  have l19 : ∀ k, k ≠ 2 → I2 19 k = I 19 k := fun k a => by rw [hI, a_u_ne (fun z => a z.2), a_fill_ne (by omega), a_u_row (by omega)]
  have loR : ∀ o, o < T.length → o ≠ 21 → R2 o = R o := fun o a b => by rw [hR, a_u_row b, a_u_row (by omega), a_u_row (by omega)]
  have h0 : T2[T.length]? = some (.inr 5) := by rw [hT2]; simp
  have h1 : T2[T.length + 1]? = some (.inl (.int, 8)) := by rw [hT2]; simp
  have h2 : T2[T.length + 2]? = some (.inl (.int, 3)) := by rw [hT2]; simp
  refine ⟨⟨by rw [hI, a_u_self], fun i hi => ?_, fun i j hi hj q => ?_⟩, ?_, ?_, ?_, by rw [l19 8 (by decide), gnM_4 (by decide)]; exact h.sr, fun x hx => by rw [lo 26 (by omega) (by decide), e 74 (by decide) (by decide)]; exact h.md hx⟩
  · by_cases c : i = g
    · subst c
      have u := hu.2 i (Nat.le_refl _) hg
      refine ⟨by show R2 21 i = some (if i = i then T.length else gq i); rw [hR, a_u_self, if_pos rfl], ?_⟩
      show GnAt T2 I2 R2 (gnM m i t) (if i = i then T.length else gq i) i
      rw [if_pos rfl]
      refine ⟨h0, by rw [hR, a_u_row (by omega), a_u_ne (fun z => absurd z.2 (by decide)), a_u_self], h1, by rw [hR, a_u_row (by omega), a_u_self], h2, by rw [hI, a_u_row (by omega), a_fill_ne (by omega), a_u_self, gnM_g], ?_, fun k hk => ?_, fun b hb => ?_⟩
      · rw [hI, a_u_row (by omega), a_fill_ne (by omega), a_u_ne (fun z => absurd z.2 (by decide)), hz _ (Nat.le_refl _), e 63 (by decide) (by decide)]; exact u.1.symm
      · rw [hI, a_u_row (by omega), a_fill_ne (by omega), a_u_row (by omega), hz _ (by omega), e 64 (by decide) (by decide)]; exact (u.2.1 k hk).symm
      · rw [hI, a_u_row (by omega), a_fill_in hb, e 65 (by decide) (by decide)]; exact (u.2.2 b hb).symm
    · have i2 : i < g := by omega
      have q := h.gn.at i2
      have h9 := h.gn.ge hT i2
      have b0 := a_rel_lt (h.gn.tg i2)
      have b1 := a_rel_lt (h.gn.t1 i2)
      have b2 := a_rel_lt (h.gn.t2 i2)
      refine ⟨by show R2 21 i = some (if i = g then T.length else gq i); rw [hR, a_u_ne (fun z => c z.2), a_u_row (by omega), a_u_row (by omega), if_neg c]; exact h.gn.rf i2, ?_⟩
      show GnAt T2 I2 R2 (gnM m g t) (if i = g then T.length else gq i) i
      rw [if_neg c]
      unfold GnAt at *
      rw [lo _ b0 (by omega), lo _ b1 (by omega), lo _ b2 (by omega), loR _ b0 (by omega), gnM_62 c, e 63 (by decide) (by decide), e 64 (by decide) (by decide), e 65 (by decide) (by decide)]
      exact ⟨a_pfx hp q.1, q.2.1, a_pfx hp q.2.2.1, q.2.2.2.1, a_pfx hp q.2.2.2.2.1, q.2.2.2.2.2⟩
  · have q9 : (if i = g then T.length else gq i) = (if j = g then T.length else gq j) := q
    by_cases c : i = g
    · by_cases d : j = g
      · omega
      · rw [if_pos c, if_neg d] at q9
        have := a_rel_lt (h.gn.tg (show j < g by omega)); omega
    · by_cases d : j = g
      · rw [if_neg c, if_pos d] at q9
        have := a_rel_lt (h.gn.tg (show i < g by omega)); omega
      · rw [if_neg c, if_neg d] at q9
        exact h.gn.2.2 i j (by omega) (by omega) q9
  · exact (h.ty.fr (fun o a b => lo o (by omega) (by omega))).cgm (e 58 (by decide) (by decide)) (e 59 (by decide) (by decide)) (e 60 (by decide) (by decide)) (e 61 (by decide) (by decide))
  · have q := h.rs
    unfold CRs at *
    rw [l19 6 (by decide), lo 22 (by omega) (by decide), lo 23 (by omega) (by decide), lo 24 (by omega) (by decide), gnM_4 (by decide), e 66 (by decide) (by decide), e 67 (by decide) (by decide), e 68 (by decide) (by decide)]
    exact q
  · refine CEn.cgm (m := m) ⟨fun x hx => ⟨fun z => by rw [loR 25 (by omega) (by decide)]; exact h.en.no hx z, fun z => ⟨by rw [loR 25 (by omega) (by decide)]; exact h.en.rf hx z, ?_⟩⟩, h.en.2⟩ (e 69 (by decide) (by decide)) (e 70 (by decide) (by decide)) (e 71 (by decide) (by decide)) (e 72 (by decide) (by decide)) (e 73 (by decide) (by decide))
    have q := h.en.at hx z
    have h9 := h.en.ge hT hx z
    have b0 := a_rel_lt (h.en.tg hx z)
    have b1 := a_rel_lt (h.en.t1 hx z)
    have b2 := a_rel_lt (h.en.t2 hx z)
    unfold EnAt at *
    rw [lo _ b0 (by omega), lo _ b1 (by omega), lo _ b2 (by omega), loR _ b0 (by omega)]
    exact ⟨a_pfx hp q.1, q.2.1, a_pfx hp q.2.2.1, q.2.2.2.1, a_pfx hp q.2.2.2.2.1, q.2.2.2.2.2⟩
theorem MEs.gnr {m : aI} {g r t : Nat} (h : MEs m g r) (hg : g < 4) (ht : t < 3) : MEs (gnM m g (nI t)) (g + 1) r := by
  have e : ∀ q, q ≠ 62 → q ≠ 44 → gnM m g (nI t) q = m q := fun q a b => gnM_o a b
  obtain ⟨⟨i1, i2, i3, i4⟩, s1, s2, s3, s4⟩ := h
  have n62 : ∀ i, i ≠ g → iN (gnM m g (nI t)) 62 i = iN m 62 i := fun i c => by unfold iN; rw [gnM_62 c]
  have u := s4.2 g (Nat.le_refl _) hg
  have in16 : ∀ x, x < 64 → m 69 x ≠ 0 → x / 16 < g := fun x a b => by have := (i3.2.2.1 x a b).1; omega
  refine ⟨⟨⟨by omega, a_u_self, (by have q := i1.2.2.1; unfold SO3 iN at *; rw [e 65 (by decide) (by decide)]; exact q), ?_, NR_cg (e 61 (by decide) (by decide)) i1.2.2.2.2.1, NR_cg (e 63 (by decide) (by decide)) i1.2.2.2.2.2.1, (by have q := i1.2.2.2.2.2.2; unfold B01 at *; rw [e 71 (by decide) (by decide)]; exact q)⟩, ⟨fun i a hi ha hc => ?_, by rw [e 69 (by decide) (by decide)]; exact i2.2.1, fun x a hx ha hb => ?_⟩, ⟨fun x a hx ha h0 => ?_, fun j a hj ha hgn => ?_, fun x hx h0 => ?_, ?_⟩, fun x hx => ⟨fun z => ?_, fun z y => ?_⟩⟩, ⟨fun i a s hi ha hs h1 h2 => ?_, by rw [e 69 (by decide) (by decide), e 70 (by decide) (by decide)]; exact s1.2⟩, m74_cg s2 (e 74 (by decide) (by decide)) (Nat.le_refl _), m69_cg s3 (e 69 (by decide) (by decide)) (Nat.le_refl _), ⟨by rw [e 67 (by decide) (by decide)]; exact s4.1, fun i a b => by rw [e 63 (by decide) (by decide), e 64 (by decide) (by decide), e 65 (by decide) (by decide)]; exact s4.2 i (by omega) b⟩⟩
  · exact NR_cg (a_u_row (by decide)) (i1.2.2.2.1.put ht (by decide))
  · rw [e 65 (by decide) (by decide)]
    by_cases c : i = g
    · rw [c]; exact u.2.2 a ha
    · rw [n62 i c, e 58 (by decide) (by decide)] at hc
      exact i2.1 i a (by omega) ha hc
  · rw [e 72 (by decide) (by decide)] at hb
    rw [e 73 (by decide) (by decide)]
    have z : x / 16 ≠ g := fun c => by rw [(i4 x hx).1 (by omega), b_0] at hb; cases hb
    have eb : bsM (gnM m g (nI t)) x = bsM m x := by unfold bsM; rw [n62 _ z]; unfold iN; rw [e 61 (by decide) (by decide)]
    rw [eb]; exact i2.2.2 x a hx ha hb
  · rw [e 69 (by decide) (by decide)] at h0
    have q := i3.1 x a hx ha h0
    have z := in16 x hx h0
    have eu : uxn (gnM m g (nI t)) x = uxn m x := by
      show iN (gnM m g (nI t)) 61 (iN (gnM m g (nI t)) 62 (x / 16)) = _
      rw [n62 _ (by omega)]; unfold uxn iN; rw [e 61 (by decide) (by decide)]
    have e70 : iN (gnM m g (nI t)) 70 = iN m 70 := by unfold iN; rw [e 70 (by decide) (by decide)]
    rw [eu, e70, e 70 (by decide) (by decide)]; exact q
  · rw [e 68 (by decide) (by decide)] at hgn
    have q := i3.2.1 j a hj ha hgn
    have e1 : iN (gnM m g (nI t)) 67 = iN m 67 := by unfold iN; rw [e 67 (by decide) (by decide)]
    have e2 : iN (gnM m g (nI t)) 66 = iN m 66 := by unfold iN; rw [e 66 (by decide) (by decide)]
    have e3 : iN (gnM m g (nI t)) 61 = iN m 61 := by unfold iN; rw [e 61 (by decide) (by decide)]
    rw [e1, e2, e3, e 67 (by decide) (by decide)]; exact q
  · rw [e 69 (by decide) (by decide)] at h0 ⊢
    obtain ⟨z1, r1, z2, z3, z4⟩ := i3.2.2.1 x hx h0
    exact ⟨by omega, r1, z2, z3, by rw [e 66 (by decide) (by decide), gnM_62 (by omega)]; exact z4⟩
  · exact NR_cg (e 66 (by decide) (by decide)) i3.2.2.2
  · rw [e 72 (by decide) (by decide)]; exact (i4 x hx).1 (by omega)
  · rw [e 72 (by decide) (by decide)]
    by_cases c : x / 16 = g
    · exact (i4 x hx).1 (by omega)
    · rw [n62 _ c, e 60 (by decide) (by decide)] at y
      exact (i4 x hx).2 (by omega) y
  · rw [e 65 (by decide) (by decide)] at hs
    rw [e 58 (by decide) (by decide)]
    by_cases c : i = g
    · rw [c, u.2.2 a ha] at hs
      exact absurd hs.symm (nI_ne1 h1)
    · have z := i1.2.2.1 (3 * i + a) (by omega)
      have z2 : (s - 10) / 3 ≠ g := by
        rcases z with z | z
        · rw [z] at hs; exact absurd hs.symm (nI_ne1 h1)
        · have e9 : iN m 65 (3 * i + a) = s := by unfold iN; rw [hs, nI_clamp (by omega)]
          have := z.2.2 (by omega); omega
      rw [n62 _ z2]
      exact s1.1 i a s (by omega) ha hs h1 h2
set_option maxRecDepth 100000 in
theorem m_X11_generator {T : List aT} {I : aI} {J : aJ} {R : aR} {m : aI} {c n : Nat} {sq : Nat → Nat} {g : Nat} {gq eq : Nat → Nat} {r p : Nat} {pq : Nat → Nat} {k : Nat} (h9 : G9 T I J R m c n sq g gq eq r p pq k) (t : Int32) : MX11_generator 3 200 [.ref 0, .int t] T I J R (CP [exI, exS] I J m c (fun k y m2 => (((0 ≤ t ∧ t ≤ 2) ∧ g ≠ 4) ∧ k = 0 ∧ y = nI g ∧ m2 = gnM m g t) ∨ (((0 ≤ t ∧ t ≤ 2) ∧ g = 4) ∧ k = 2 ∧ m2 = m) ∨ (¬ (0 ≤ t ∧ t ≤ 2) ∧ k = 1 ∧ m2 = m))) := by
  refine a_met (by decide +kernel) a_le (fun X hC hq => ?_)
  show AW X 0 0 0 [some (.ref 0), some (.int t)] [] T I J R
  have hT := h9.hT
  have hR := h9.hR
  have hG := h9.ces.gn
  have hg := h9.es.1.1
  have hg4 := hg.g4
  have hgn := hG.1
  have hE := h9.ces.en
  have hRs := h9.ces.rs
  have hr60 := hRs.r60
  have hY := h9.ces.ty
  refine aw_ok (fun hz => ?_)
  show AW X 0 0 0 [some (.ref 0), some (.int t)] [] T I J R
  refine aw_iload_n hC dX11_generator_0 rfl ?_
  refine aw_iconst (v := 3) hC dX11_generator_1 (by decide) ?_
  refine kX11_64 hC rfl (m_X11_isBelow t (3 : Int32)) dX11_generator_2 rfl a_le a_le a_le a_le a_le rfl aPure_x (aPure_k ?_)
  show AW X 0 0 5 [some (.ref 0), some (.int t)] [.int (bI (decide (0 ≤ t ∧ t < (3 : Int32))))] T I J R
  by_cases hn1 : bI (decide (0 ≤ t ∧ t < (3 : Int32))) = 0
  · rw [hn1]
    exact kX11_68 hC rfl (m_X11_needIndexF (T := T) (I := I) (J := J) (R := R)) dX11_generator_5 rfl a_le a_le a_le a_le a_le rfl (aTh_x (ae_out hC hq a_le a_le (CP.th (j := 0) rfl (Or.inr (Or.inr ⟨fun q => absurd (show 0 ≤ t ∧ t < 3 from ⟨q.1, i_lt3 q.2⟩) (of_decide_eq_false (bI_e0.mp (by assumption))), rfl, rfl⟩)) h9.gi))) aTh_k
  · refine kX11_68 hC rfl (m_X11_needIndexT (T := T) (I := I) (J := J) (R := R) (x := bI (decide (0 ≤ t ∧ t < (3 : Int32)))) hn1) dX11_generator_5 rfl a_le a_le a_le a_le a_le rfl aPure_x (aPure_k ?_)
    show AW X 0 0 8 [some (.ref 0), some (.int t)] [] T I J R
    have hfct : 0 ≤ t ∧ t < 3 := of_decide_eq_true (bI_n0.mp (by assumption))
    obtain ⟨t1, ht1, et1⟩ := i_nat (x := t) (b := 3) hfct.1 hfct.2 rfl (by first | decide | omega)
    subst et1
    show AW X 0 0 8 [some (.ref 0), some (.int (nI t1))] [] T I J R
    refine aw_aload_n hC dX11_generator_8 rfl ?_
    refine aw_getR hC dX11_generator_9 aF_X11_28 rfl (tg_0 hT) (pr_0_2 hR) ?_
    refine aw_getI hC dX11_generator_12 aF_X11_213 rfl (tg_19 hT) ?_
    rw [hgn]
    refine aw_iconst (v := 4) hC dX11_generator_15 (by decide) ?_
    refine aw_icmp_ge (tgt := 23) hC dX11_generator_16 (by decide) (fun h2 => ?_) (fun h2 => ?_)
    · show AW X 0 0 23 [some (.ref 0), some (.int (nI t1))] [] T I J R
      have h2n : 4 ≤ g := (nI_leI (a := 4) (b := g) (by omega) (by omega)).mp h2
      refine aw_iconst (v := 0) hC dX11_generator_23 (by decide) ?_
      exact kX11_88 hC rfl (m_X11_needStateF (T := T) (I := I) (J := J) (R := R)) dX11_generator_24 rfl a_le a_le a_le a_le a_le rfl (aTh_x (ae_out hC hq a_le a_le (CP.th (j := 1) rfl (Or.inr (Or.inl ⟨⟨⟨hfct.1, i_le2 hfct.2⟩, by omega⟩, rfl, rfl⟩)) h9.gi))) aTh_k
    · show AW X 0 0 19 [some (.ref 0), some (.int (nI t1))] [] T I J R
      have h2n : ¬ 4 ≤ g := fun q9 => h2 ((nI_leI (a := 4) (b := g) (by omega) (by omega)).mpr q9)
      refine aw_iconst (v := 1) hC dX11_generator_19 (by decide) ?_
      refine aw_goto (tgt := 24) hC dX11_generator_20 (by decide) ?_
      refine kX11_88 hC rfl (m_X11_needStateT (T := T) (I := I) (J := J) (R := R) (x := 1) (by decide)) dX11_generator_24 rfl a_le a_le a_le a_le a_le rfl aPure_x (aPure_k ?_)
      show AW X 0 0 27 [some (.ref 0), some (.int (nI t1))] [] T I J R
      refine aw_aload_n hC dX11_generator_27 rfl ?_
      refine aw_getR hC dX11_generator_28 aF_X11_28 rfl (tg_0 hT) (pr_0_2 hR) ?_
      refine aw_iload_n hC dX11_generator_31 rfl ?_
      refine kX11_216 hC rfl (m_X4_addGenerator (I := I) hT hR (g := g) hgn (by omega) (nI t1)) dX11_generator_32 (tg_19 hT) rfl a_le a_le a_le a_le a_le rfl aRelT_x (aRelT_k (fun v9 T9 I9 J9 R9 hp9 hQ => ?_))
      obtain ⟨ev9, hT9, hI9, hJ9, hRR9, hR9⟩ := hQ
      rw [ev9, hJ9]
      show AW X (0 + 3) (0 + 15) 35 [some (.ref 0), some (.int (nI t1))] [.int (nI g)] T9 I9 J R9
      exact aw_ireturn hC hq rfl dX11_generator_35 a_le a_le (CP.ok (Or.inl ⟨⟨⟨hfct.1, i_le2 hfct.2⟩, by omega⟩, rfl, rfl, rfl⟩) (fun o u v => ⟨by have := hT.len; rw [hI9, a_u_row (by omega), a_fill_ne (by omega), a_u_row (by omega)], rfl⟩) (h9.est (S := fun o => o = 19 ∨ o = 21) hp9 (fun o a b z => by rw [hI9, a_u_row (fun w => z (Or.inl w)), a_fill_ne (by omega), a_u_row (by omega)]) (fun o a b z => by rw [hRR9, a_u_row (fun w => z (Or.inr w)), a_u_row (by omega), a_u_row (by omega)]) (fun o z => Or.inl (by omega)) hR9 (h9.ces.gnr hT (by omega) h9.es.2.2.2.2 hT9 (fun o ho => (hz o ho).1) hI9 hRR9) (h9.es.gnr (by omega) ht1) (by omega) (Nat.le_refl _) (fun o z => gnM_o (by omega) (by omega)) (fun k z _ _ => gnM_4 z) (fun _ x _ z => by rw [gnM_o (by decide) (by decide)]; exact z)).gi)
theorem ap_g9 {T : List aT} {I : aI} {J : aJ} {R : aR} {m : aI} {c n : Nat} {sq : Nat → Nat} {g : Nat} {gq eq : Nat → Nat} {r p : Nat} {pq : Nat → Nat} {k : Nat} (h9 : G9 T I J R m c n sq g gq eq r p pq k) {x : Nat} (hx : x < p) : G9 T (a_u I (pq x) 3 1) J R (a_u m 77 x 1) c n sq g gq eq r p pq k := by
  have hT := h9.hT
  have t := (h9.cpl.2 x hx).2.1
  have e : ∀ q, q ≠ 77 → a_u m 77 x 1 q = m q := fun q z => a_u_row z
  have ne : ∀ o u, T[o]? = some u → u ≠ .inr 6 → a_u I (pq x) 3 1 o = I o := fun o u a b => a_u_row (fun z => by rw [z, t] at a; cases a; exact b rfl)
  have h95 := (h9.cpl.pq hT hx).1.2.2
  have lo : ∀ o, o < 44 → a_u I (pq x) 3 1 o = I o := fun o a => a_u_row (by omega)
  refine ⟨hT, h9.hR, ⟨MBk_cg h9.bk (fun o u v => e o (by omega)) (by rw [e 44 (by decide)]), MEs_cg h9.es (fun o u v => e o (by omega)) (by rw [e 44 (by decide)]), MPl_cg h9.pl (fun o u v => e o (by omega)) (e 69 (by decide)) (fun k _ => by rw [e 44 (by decide)]) (fun i _ => ⟨a_u_ne (fun z => by omega), by rw [e 78 (by decide)]⟩), MPo_cg h9.po (e 57 (by decide)) (by rw [e 44 (by decide)]), by obtain ⟨d, d1, d2⟩ := h9.dy; exact ⟨d, by rw [e 44 (by decide)]; exact d1, d2⟩⟩, (h9.cb.fr (List.prefix_refl _) (fun o u => ⟨lo o (by omega), rfl⟩) (fun s hs => ⟨ne _ _ (h9.cb.1.at hs).1 (by decide), rfl⟩) rfl).cgm ⟨fun o u => e o (by omega), by rw [e 44 (by decide)], by rw [e 44 (by decide)]⟩, ?_, (h9.ces.frt hT (List.prefix_refl _) (fun o u v => lo o (by omega)) (fun o u v w z => ⟨a_u_row (fun y => z (by rw [y]; exact t)), rfl⟩) rfl rfl).cgm (fun o u v => e o (by omega)) (by rw [e 44 (by decide)]) (by rw [e 44 (by decide)]), ⟨by rw [lo 0 (by decide)]; exact h9.cpl.1, fun i hi => ?_⟩, h9.cpi, (h9.cap.fr (fun o u v => lo o (by omega)) rfl).cgm (e 81 (by decide)) (e 82 (by decide)) (fun k _ => by rw [e 44 (by decide)])⟩
  · have q := h9.cpo.fr (I2 := a_u I (pq x) 3 1) (J2 := J) (by rw [lo 0 (by decide)]) (lo 41 (by decide)) rfl
    unfold CPo iN at *; rw [e 57 (by decide)]; exact q
  · have q := h9.cpl.2 i hi
    have e79 : iN (a_u m 77 x 1) 79 i = iN m 79 i := by unfold iN; rw [e 79 (by decide)]
    have sl : ∀ j, j ≠ 3 → a_u I (pq x) 3 1 (pq i) j = I (pq i) j := fun j z => a_u_ne (fun w => z w.2)
    rw [ne _ _ q.2.2.2.1 (fun z => by cases z), e79, e 75 (by decide), e 76 (by decide), e 78 (by decide), e 80 (by decide), sl 0 (by decide), sl 1 (by decide), sl 4 (by decide)]
    refine ⟨q.1, q.2.1, q.2.2.1, q.2.2.2.1, q.2.2.2.2.1, q.2.2.2.2.2.1, ?_, q.2.2.2.2.2.2.2⟩
    by_cases z : i = x
    · rw [z, a_u_self, a_u_self]
    · rw [a_u_ne (fun w => z (h9.cpi i x hi hx w.1)), a_u_ne (fun w => z w.2)]; exact q.2.2.2.2.2.2.1
set_option maxRecDepth 100000 in
theorem m_X11_approve {T : List aT} {I : aI} {J : aJ} {R : aR} {m : aI} {c n : Nat} {sq : Nat → Nat} {g : Nat} {gq eq : Nat → Nat} {r p : Nat} {pq : Nat → Nat} {k : Nat} (h9 : G9 T I J R m c n sq g gq eq r p pq k) (x t : Int32) : MX11_approve 3 200 [.ref 0, .int x, .int t] T I J R (CP [exI, exS] I J m c (fun k y m2 => ((((0 ≤ x ∧ x < nI p) ∧ (0 ≤ t ∧ t ≤ 2)) ∧ m 75 x.toNatClampNeg ≠ t) ∧ k = 0 ∧ y = (if m 77 x.toNatClampNeg = 0 then 1 else 0) ∧ m2 = a_u m 77 x.toNatClampNeg 1) ∨ ((((0 ≤ x ∧ x < nI p) ∧ (0 ≤ t ∧ t ≤ 2)) ∧ m 75 x.toNatClampNeg = t) ∧ k = 2 ∧ m2 = m) ∨ (¬ ((0 ≤ x ∧ x < nI p) ∧ (0 ≤ t ∧ t ≤ 2)) ∧ k = 1 ∧ m2 = m))) := by
  refine a_met (by decide +kernel) a_le (fun X hC hq => ?_)
  show AW X 0 0 0 [some (.ref 0), some (.int x), some (.int t), none] [] T I J R
  have hT := h9.hT
  have hR := h9.hR
  have hp40 := h9.pl.2.1
  refine aw_iload_n hC dX11_approve_0 rfl ?_
  refine aw_aload_n hC dX11_approve_1 rfl ?_
  refine aw_getI hC dX11_approve_2 aF_X11_275 rfl (tg_0 hT) ?_
  rw [h9.cpl.1]
  refine kX11_64 hC rfl (m_X11_isBelow x (nI p)) dX11_approve_5 rfl a_le a_le a_le a_le a_le rfl aPure_x (aPure_k ?_)
  show AW X 0 0 8 [some (.ref 0), some (.int x), some (.int t), none] [.int (bI (decide (0 ≤ x ∧ x < (nI p))))] T I J R
  refine aw_if_eq (tgt := 23) hC dX11_approve_8 (by decide) (fun h1 => ?_) (fun h1 => ?_)
  · show AW X 0 0 23 [some (.ref 0), some (.int x), some (.int t), none] [] T I J R
    refine aw_iconst (v := 0) hC dX11_approve_23 (by decide) ?_
    exact kX11_68 hC rfl (m_X11_needIndexF (T := T) (I := I) (J := J) (R := R)) dX11_approve_24 rfl a_le a_le a_le a_le a_le rfl (aTh_x (ae_out hC hq a_le a_le (CP.th (j := 0) rfl (Or.inr (Or.inr ⟨fun q => by first | exact absurd q.1 (of_decide_eq_false (bI_e0.mp (by assumption))) | exact absurd (show 0 ≤ t ∧ t < 3 from ⟨q.2.1, i_lt3 q.2.2⟩) (of_decide_eq_false (bI_e0.mp (by assumption))), rfl, rfl⟩)) h9.gi))) aTh_k
  · show AW X 0 0 11 [some (.ref 0), some (.int x), some (.int t), none] [] T I J R
    refine aw_iload_n hC dX11_approve_11 rfl ?_
    refine aw_iconst (v := 3) hC dX11_approve_12 (by decide) ?_
    refine kX11_64 hC rfl (m_X11_isBelow t (3 : Int32)) dX11_approve_13 rfl a_le a_le a_le a_le a_le rfl aPure_x (aPure_k ?_)
    show AW X 0 0 16 [some (.ref 0), some (.int x), some (.int t), none] [.int (bI (decide (0 ≤ t ∧ t < (3 : Int32))))] T I J R
    refine aw_if_eq (tgt := 23) hC dX11_approve_16 (by decide) (fun h2 => ?_) (fun h2 => ?_)
    · show AW X 0 0 23 [some (.ref 0), some (.int x), some (.int t), none] [] T I J R
      refine aw_iconst (v := 0) hC dX11_approve_23 (by decide) ?_
      exact kX11_68 hC rfl (m_X11_needIndexF (T := T) (I := I) (J := J) (R := R)) dX11_approve_24 rfl a_le a_le a_le a_le a_le rfl (aTh_x (ae_out hC hq a_le a_le (CP.th (j := 0) rfl (Or.inr (Or.inr ⟨fun q => by first | exact absurd q.1 (of_decide_eq_false (bI_e0.mp (by assumption))) | exact absurd (show 0 ≤ t ∧ t < 3 from ⟨q.2.1, i_lt3 q.2.2⟩) (of_decide_eq_false (bI_e0.mp (by assumption))), rfl, rfl⟩)) h9.gi))) aTh_k
    · show AW X 0 0 19 [some (.ref 0), some (.int x), some (.int t), none] [] T I J R
      refine aw_iconst (v := 1) hC dX11_approve_19 (by decide) ?_
      refine aw_goto (tgt := 24) hC dX11_approve_20 (by decide) ?_
      refine kX11_68 hC rfl (m_X11_needIndexT (T := T) (I := I) (J := J) (R := R) (x := 1) (by decide)) dX11_approve_24 rfl a_le a_le a_le a_le a_le rfl aPure_x (aPure_k ?_)
      show AW X 0 0 27 [some (.ref 0), some (.int x), some (.int t), none] [] T I J R
      have hfcx : 0 ≤ x ∧ x < nI (p) := of_decide_eq_true (bI_n0.mp (by assumption))
      obtain ⟨x1, hx1, ex1⟩ := i_nat (x := x) (b := p) hfcx.1 hfcx.2 rfl (by first | decide | omega)
      subst ex1
      have hcp := h9.cpl.2 x1 hx1
      have hfct : 0 ≤ t ∧ t < 3 := of_decide_eq_true (bI_n0.mp (by assumption))
      show AW X 0 0 27 [some (.ref 0), some (.int (nI x1)), some (.int t), none] [] T I J R
      refine aw_aload_n hC dX11_approve_27 rfl ?_
      refine aw_getR hC dX11_approve_28 aF_X11_60 rfl (tg_0 hT) (pr_0_8 hR) ?_
      refine aw_iload_n hC dX11_approve_31 rfl ?_
      refine aw_aaloadR_k (j := x1) hC dX11_approve_32 (tg_43 hT) (nI_clamp (by omega)) (vp_in_nI (by omega) (by decide)) hcp.1 ?_
      refine aw_getI hC dX11_approve_33 aF_X11_294 rfl hcp.2.1 ?_
      rw [hcp.2.2.2.2.1]
      refine aw_iload_n hC dX11_approve_36 rfl ?_
      refine aw_icmp_eq (tgt := 44) hC dX11_approve_37 (by decide) (fun h3 => ?_) (fun h3 => ?_)
      · show AW X 0 0 44 [some (.ref 0), some (.int (nI x1)), some (.int t), none] [] T I J R
        refine aw_iconst (v := 0) hC dX11_approve_44 (by decide) ?_
        exact kX11_88 hC rfl (m_X11_needStateF (T := T) (I := I) (J := J) (R := R)) dX11_approve_45 rfl a_le a_le a_le a_le a_le rfl (aTh_x (ae_out hC hq a_le a_le (CP.th (j := 1) rfl (Or.inr (Or.inl ⟨⟨⟨hfcx, hfct.1, i_le2 hfct.2⟩, by rw [nI_clamp (show x1 < 2 ^ 31 by omega)]; assumption⟩, rfl, rfl⟩)) h9.gi))) aTh_k
      · show AW X 0 0 40 [some (.ref 0), some (.int (nI x1)), some (.int t), none] [] T I J R
        refine aw_iconst (v := 1) hC dX11_approve_40 (by decide) ?_
        refine aw_goto (tgt := 45) hC dX11_approve_41 (by decide) ?_
        refine kX11_88 hC rfl (m_X11_needStateT (T := T) (I := I) (J := J) (R := R) (x := 1) (by decide)) dX11_approve_45 rfl a_le a_le a_le a_le a_le rfl aPure_x (aPure_k ?_)
        show AW X 0 0 48 [some (.ref 0), some (.int (nI x1)), some (.int t), none] [] T I J R
        refine aw_aload_n hC dX11_approve_48 rfl ?_
        refine aw_getR hC dX11_approve_49 aF_X11_60 rfl (tg_0 hT) (pr_0_8 hR) ?_
        refine aw_iload_n hC dX11_approve_52 rfl ?_
        refine aw_aaloadR_k (j := x1) hC dX11_approve_53 (tg_43 hT) (nI_clamp (by omega)) (vp_in_nI (by omega) (by decide)) hcp.1 ?_
        refine aw_getI hC dX11_approve_54 aF_X11_297 rfl hcp.2.1 ?_
        rw [hcp.2.2.2.2.2.2.1]
        refine aw_if_ne (tgt := 64) hC dX11_approve_57 (by decide) (fun h4 => ?_) (fun h4 => ?_)
        · show AW X 0 0 64 [some (.ref 0), some (.int (nI x1)), some (.int t), none] [] T I J R
          refine aw_iconst (v := 0) hC dX11_approve_64 (by decide) ?_
          refine aw_istore_n (L2 := [some (.ref 0), some (.int (nI x1)), some (.int t), some (.int 0)]) hC dX11_approve_65 rfl (by decide) rfl ?_
          refine aw_aload_n hC dX11_approve_66 rfl ?_
          refine aw_getR hC dX11_approve_67 aF_X11_60 rfl (tg_0 hT) (pr_0_8 hR) ?_
          refine aw_iload_n hC dX11_approve_70 rfl ?_
          refine aw_aaloadR_k (j := x1) hC dX11_approve_71 (tg_43 hT) (nI_clamp (by omega)) (vp_in_nI (by omega) (by decide)) hcp.1 ?_
          refine aw_iconst (v := 1) hC dX11_approve_72 (by decide) ?_
          refine aw_putZ hC dX11_approve_73 aF_X11_297 rfl rfl hcp.2.1 (Or.inr rfl) ?_
          refine aw_iload_n hC dX11_approve_76 rfl ?_
          exact aw_zreturn hC hq rfl (Or.inl rfl) dX11_approve_77 a_le a_le (CP.ok (Or.inl ⟨⟨⟨hfcx, hfct.1, i_le2 hfct.2⟩, by rw [nI_clamp (show x1 < 2 ^ 31 by omega)]; assumption⟩, rfl, by rw [nI_clamp (show x1 < 2 ^ 31 by omega)]; first | exact (if_pos (by assumption)).symm | exact (if_neg (by assumption)).symm, by rw [nI_clamp (show x1 < 2 ^ 31 by omega)]⟩) (fun o u v => ⟨by have := (h9.cpl.pq hT hx1).1.2.2; exact a_u_row (by omega), rfl⟩) (ap_g9 h9 hx1).gi)
        · show AW X 0 0 60 [some (.ref 0), some (.int (nI x1)), some (.int t), none] [] T I J R
          refine aw_iconst (v := 1) hC dX11_approve_60 (by decide) ?_
          refine aw_goto (tgt := 65) hC dX11_approve_61 (by decide) ?_
          refine aw_istore_n (L2 := [some (.ref 0), some (.int (nI x1)), some (.int t), some (.int 1)]) hC dX11_approve_65 rfl (by decide) rfl ?_
          refine aw_aload_n hC dX11_approve_66 rfl ?_
          refine aw_getR hC dX11_approve_67 aF_X11_60 rfl (tg_0 hT) (pr_0_8 hR) ?_
          refine aw_iload_n hC dX11_approve_70 rfl ?_
          refine aw_aaloadR_k (j := x1) hC dX11_approve_71 (tg_43 hT) (nI_clamp (by omega)) (vp_in_nI (by omega) (by decide)) hcp.1 ?_
          refine aw_iconst (v := 1) hC dX11_approve_72 (by decide) ?_
          refine aw_putZ hC dX11_approve_73 aF_X11_297 rfl rfl hcp.2.1 (Or.inr rfl) ?_
          refine aw_iload_n hC dX11_approve_76 rfl ?_
          exact aw_zreturn hC hq rfl (Or.inr rfl) dX11_approve_77 a_le a_le (CP.ok (Or.inl ⟨⟨⟨hfcx, hfct.1, i_le2 hfct.2⟩, by rw [nI_clamp (show x1 < 2 ^ 31 by omega)]; assumption⟩, rfl, by rw [nI_clamp (show x1 < 2 ^ 31 by omega)]; first | exact (if_pos (by assumption)).symm | exact (if_neg (by assumption)).symm, by rw [nI_clamp (show x1 < 2 ^ 31 by omega)]⟩) (fun o u v => ⟨by have := (h9.cpl.pq hT hx1).1.2.2; exact a_u_row (by omega), rfl⟩) (ap_g9 h9 hx1).gi)
