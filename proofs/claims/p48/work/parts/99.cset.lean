/-! WHAT SETTLING LEAVES -/
theorem nsx {n : Nat} {sq : Nat → Nat} {a p : Nat} (h7 : a ≠ 7) (h11 : a ≠ 11) (h1 : a = 1 → p ≠ 8 ∧ p ≠ 9) (h8 : a = 8 → p ≠ 2 ∧ p ≠ 3 ∧ p ≠ 11 ∧ p ≠ 12) (hs : ∀ s, s < n → a = sq s → p < 8) : ¬ sx n sq a p := by
  rintro (z | z | z | z | z)
  · exact h7 z
  · exact h11 z
  · have := h1 z.1; omega
  · have := h8 z.1; omega
  · obtain ⟨z, s, q1, q2⟩ := z
    have := hs s q1 q2; omega
theorem G9.sfr {T : List aT} {I : aI} {J : aJ} {R : aR} {m : aI} {c n : Nat} {sq : Nat → Nat} {g : Nat} {gq eq : Nat → Nat} {r p : Nat} {pq : Nat → Nat} {k : Nat} (h9 : G9 T I J R m c n sq g gq eq r p pq k) {I2 : aI} {J2 : aJ} {R2 : aR} {m0 : aI} (hs : StEq m m0) (hf : SFr I I2 J J2 R R2 n sq) (hR2 : aPR R2) (hZ : ZR3 J2) (hl : Sld I2 J2 R2 m0 n sq) (h11 : I2 8 11 = 1) : G9 T I2 J2 R2 m c n sq g gq eq r p pq k ∧ MFr I I2 J J2 := by
  have hT := h9.hT
  have cs := h9.cb.1
  have ge : ∀ s, s < n → 44 ≤ sq s := fun s q => cs.ge hT q
  have lo : ∀ o, o < 44 → o ≠ 1 → o ≠ 7 → o ≠ 8 → o ≠ 11 → I2 o = I o := fun o a b c d e => funext fun p => hf.1 o p (nsx c e (fun z => absurd z b) (fun z => absurd z d) (fun s q w => by have := ge s q; omega))
  have loR : ∀ o, o < 44 → R2 o = R o := fun o a => funext fun p => hf.2.2 o p (fun z => by obtain ⟨_, s, q, w⟩ := z; have := ge s q; omega)
  have hi : ∀ o, 44 ≤ o → (∀ s, s < n → o ≠ sq s) → I2 o = I o ∧ R2 o = R o := fun o a b => ⟨funext fun p => hf.1 o p (nsx (by omega) (by omega) (fun z => by omega) (fun z => by omega) (fun s q w => absurd w (b s q))), funext fun p => hf.2.2 o p (fun z => by obtain ⟨_, s, q, w⟩ := z; exact b s q w)⟩
  have tgs : ∀ o, T[o]? ≠ some (.inr 8) → ∀ s, s < n → o ≠ sq s := fun o a s q e => a (by rw [e]; exact (cs.at q).1)
  have jj : ∀ o, o ≠ 10 → o ≠ 13 → o ≠ 15 → J2 o = J o := hf.2.1
  refine ⟨⟨hT, hR2, h9.2.2.1, ⟨(cs.cg (hf.1 1 1 (nsx (by decide) (by decide) (fun _ => by decide) (fun z => absurd z (by decide)) (fun s q w => by have := ge s q; omega))) (fun s q k hk => hf.1 (sq s) k (nsx (by have := ge s q; omega) (by have := ge s q; omega) (fun z => by have := ge s q; omega) (fun z => by have := ge s q; omega) (fun _ _ _ => hk)))).cgR (fun s q => by rw [loR 2 (by decide)]), ?_, hZ, Or.inr h11, Or.inr ⟨m0, hs, hl⟩⟩, h9.cpo.fr (by rw [lo 0 (by decide) (by decide) (by decide) (by decide) (by decide)]) (lo 41 (by decide) (by decide) (by decide) (by decide) (by decide)) (jj 42 (by decide) (by decide) (by decide)), h9.ces.frt hT (List.prefix_refl _) (fun o u v => lo o (by omega) (by omega) (by omega) (by omega) (by omega)) (fun o u v w _ => hi o v (tgs o w)) (loR 21 (by decide)) (loR 25 (by decide)), h9.cpl.fr (List.prefix_refl _) (by rw [lo 0 (by decide) (by decide) (by decide) (by decide) (by decide)]) (fun i q => ?_) (loR 43 (by decide)), h9.cpi, h9.cap.fr (fun o u v => lo o (by omega) (by omega) (by omega) (by omega) (by omega)) (loR 38 (by decide))⟩, fun o u v => ⟨lo o v (by omega) (by omega) (by omega) (by omega), jj o (by omega) (by omega) (by omega)⟩⟩
  · have b := h9.cb.2.1
    unfold CBk at *
    rw [lo 3 (by decide) (by decide) (by decide) (by decide) (by decide), lo 4 (by decide) (by decide) (by decide) (by decide) (by decide), lo 5 (by decide) (by decide) (by decide) (by decide) (by decide), lo 6 (by decide) (by decide) (by decide) (by decide) (by decide), hf.1 1 6 (nsx (by decide) (by decide) (fun _ => by decide) (fun z => absurd z (by decide)) (fun s q w => by have := ge s q; omega))]
    exact b
  · have w := h9.cpl.pq hT q
    have t := h9.cpl.2 i q
    have a1 := hi (pq i) w.1.2.2 (tgs _ (fun z => by rw [t.2.1] at z; cases z))
    have a2 := hi (pq i + 1) (by omega) (tgs _ (fun z => by rw [t.2.2.2.1] at z; cases z))
    exact ⟨a1.1, a2.1, a1.2⟩
theorem StEq.rfl' {a : aI} : StEq a a := ⟨fun _ _ => rfl, rfl, rfl⟩
theorem StEq.sw {m m0 : aI} {n : Nat} (h : StEq m m0) (g : SW m n) : SW m0 n := SW_cgr g (fun o u v => h.1 o ⟨u, by omega⟩) h.2.1
theorem StEq.bk {m m0 : aI} {n : Nat} (h : StEq m m0) (g : MBk m n) : MBk m0 n := MBk_cg g (fun o u v => h.1 o ⟨u, by omega⟩) h.2.1
/-- settling, as the public methods do it -/
theorem m_settleG {T : List aT} {I : aI} {J : aJ} {R : aR} {m : aI} {c n : Nat} {sq : Nat → Nat} {g : Nat} {gq eq : Nat → Nat} {r p : Nat} {pq : Nat → Nat} {k : Nat} (h9 : G9 T I J R m c n sq g gq eq r p pq k) : MX10_settle 0 0 [.ref 8] T I J R (aRelT (fun v T2 I2 J2 R2 => v = none ∧ T2 = T ∧ MFr I I2 J J2 ∧ G9 T I2 J2 R2 m c n sq g gq eq r p pq k ∧ ∃ m0, StEq m m0 ∧ Sld I2 J2 R2 m0 n sq)) := by
  have hT := h9.hT
  have cs := h9.cb
  obtain ⟨m0, hs, hl⟩ : ∃ m0, StEq m m0 ∧ (I 8 11 = 0 ∨ Sld I J R m0 n sq) := by
    rcases cs.2.2.2.2 with z | ⟨m0, a, b⟩
    · exact ⟨m, StEq.rfl', Or.inl z⟩
    · exact ⟨m0, a, Or.inr b⟩
  have bk := hs.bk h9.bk
  have c0 := cs.cgm hs
  refine AMet.mono (m_X10_settle hT h9.hR c0.1 bk.1 c0.2.1 bk.2.2.1 bk.2.1 cs.2.2.1 hl cs.2.2.2.1) (fun o T2 I2 J2 R2 hp hQ => ?_)
  obtain ⟨v, e1, e2, e3, hf, hR2, hZ, hS2, h11⟩ := hQ
  have q := h9.sfr hs hf hR2 hZ hS2 h11
  exact ⟨v, e1, e2, e3, q.2, q.1, m0, hs, hS2⟩
/-- the third set may be another one -/
theorem G9.j15 {T : List aT} {I : aI} {J : aJ} {R : aR} {m : aI} {c n : Nat} {sq : Nat → Nat} {g : Nat} {gq eq : Nat → Nat} {r p : Nat} {pq : Nat → Nat} {k : Nat} (h9 : G9 T I J R m c n sq g gq eq r p pq k) {K : Nat → Int64} (hK : ∀ j, 10 ≤ j → K j = 0) : G9 T I (a_ur J 15 K) R m c n sq g gq eq r p pq k := by
  obtain ⟨a1, a2, a3, a4, a5⟩ := h9.cb
  refine ⟨h9.hT, h9.hR, h9.2.2.1, ⟨a1, a2, fun j hj => ⟨by rw [a_ur_ne (by decide)]; exact (a3 j hj).1, by rw [a_ur_ne (by decide)]; exact (a3 j hj).2.1, by rw [a_ur_self]; exact hK j hj⟩, a4, a5.imp id (fun q => by
    obtain ⟨m0, q1, q2⟩ := q
    exact ⟨m0, q1, q2.fr rfl rfl (fun _ _ => ⟨rfl, rfl⟩) ⟨a_ur_ne (by decide), a_ur_ne (by decide)⟩⟩)⟩, h9.cpo.fr rfl rfl (a_ur_ne (by decide)), h9.ces, h9.cpl, h9.cpi, h9.cap⟩
/-- what was found -/
theorem Sld.use {T : List aT} {I : aI} {J : aJ} {R : aR} {m m0 : aI} {n : Nat} {sq : Nat → Nat} (hs : StEq m m0) (hw : MBk m n) (hc : CSt T I R m n sq) (hl : Sld I J R m0 n sq) : ∃ M P S, SolR m0 M n P S ∧ CDr I R M n sq ∧ CCn I M P n sq ∧ J 10 = P ∧ J 13 = S ∧ I 8 2 = M 44 57 ∧ (∀ f, f < 10 → I 11 f = sVl (M 44 57) S f) ∧ TnL M (fun _ => P) n (I 8 3) ∧ (I 8 12 = 0 ∨ (I 8 12 = 1 ∧ I 8 13 = cfA M P n)) ∧ SW M n ∧ CSt T I R M n sq ∧ M 44 53 = 0 ∧ Fix M n full P := by
  obtain ⟨M, P, S, h1, h2, h3, h4, h5, h6, h7, h8, h9⟩ := hl
  have fr : ∀ o, 45 ≤ o → o ≤ 56 → M o = m0 o := fun o a b => h1.fr o (by omega)
  have u := SolR_uniq (hs.sw hw.1) StEq.rfl' h1 h1
  obtain ⟨I3, l1, l2, l3, l4⟩ := h1
  have e44 : M 44 0 = m0 44 0 := by
    obtain ⟨I1, l5, l6⟩ := l1
    rw [l2, a_u_ne (fun z => absurd z.2 (by decide)), a_u_ne (fun z => absurd z.2 (by decide)), l6, a_ur_ne (by decide), a_ur_ne (by decide), a_ur_ne (by decide)]
    exact congrFun (l5.1 44 (by decide)) 0
  exact ⟨M, P, S, ⟨I3, l1, l2, l3, l4⟩, h2, h3, h4, h5, h6, fun f hf => by rw [← h6]; exact h7 f hf, h8, h9, SW_cgr (hs.sw hw.1) (fun o a b => fr o a (by omega)) e44, (hc.cgm (fun o a b => hs.1 o ⟨a, by omega⟩)).cgm (fun o a b => fr o a (by omega)), u.1.2.1, l3⟩
theorem G9.lcf {T : List aT} {I : aI} {J : aJ} {R : aR} {m : aI} {c n : Nat} {sq : Nat → Nat} {g : Nat} {gq eq : Nat → Nat} {r p : Nat} {pq : Nat → Nat} {k : Nat} (h9 : G9 T I J R m c n sq g gq eq r p pq k) {I2 : aI} {R2 : aR} {m0 : aI} {K : Nat → Int64} (hf : LCF I I2) (hr : ∀ a p, a ≠ 16 → R2 a p = R a p) (hR2 : aPR R2) (hK : ∀ j, 10 ≤ j → K j = 0) (hs : StEq m m0) (hl : Sld I2 (a_ur J 15 K) R2 m0 n sq) : G9 T I2 (a_ur J 15 K) R2 m c n sq g gq eq r p pq k := by
  have hT := h9.hT
  have g15 := h9.j15 hK
  have ii : ∀ o, o ≠ 17 → o ≠ 18 → o ≠ 8 → I2 o = I o := fun o a b d => funext fun p => hf o p a b (fun z => d z.1)
  have rr : ∀ o, o ≠ 16 → R2 o = R o := fun o a => funext fun p => hr o p a
  refine ⟨hT, hR2, h9.2.2.1, ⟨((g15.cb.1.cg (by rw [ii 1 (by decide) (by decide) (by decide)]) (fun s q k _ => by have := (h9.cb.sq hT q).2.2; rw [ii _ (by omega) (by omega) (by omega)]))).cgR (fun s _ => by rw [rr 2 (by decide)]), ?_, g15.cb.2.2.1, ?_, Or.inr ⟨m0, hs, hl⟩⟩, g15.cpo.fr (by rw [ii 0 (by decide) (by decide) (by decide)]) (ii 41 (by decide) (by decide) (by decide)) rfl, h9.ces.frt hT (List.prefix_refl _) (fun o u v => ii o (by omega) (by omega) (by omega)) (fun o u v _ _ => ⟨ii o (by omega) (by omega) (by omega), rr o (by omega)⟩) (rr 21 (by decide)) (rr 25 (by decide)), h9.cpl.fr (List.prefix_refl _) (by rw [ii 0 (by decide) (by decide) (by decide)]) (fun i q => by have := (h9.cpl.pq hT q).1.2.2; exact ⟨ii _ (by omega) (by omega) (by omega), ii _ (by omega) (by omega) (by omega), rr _ (by omega)⟩) (rr 43 (by decide)), h9.cpi, h9.cap.fr (fun o u v => ii o (by omega) (by omega) (by omega)) (rr 38 (by decide))⟩
  · have b := h9.cb.2.1
    unfold CBk at *
    rw [ii 3 (by decide) (by decide) (by decide), ii 4 (by decide) (by decide) (by decide), ii 5 (by decide) (by decide) (by decide), ii 6 (by decide) (by decide) (by decide), ii 1 (by decide) (by decide) (by decide)]
    exact b
  · rw [hf 8 11 (by decide) (by decide) (by omega)]; exact h9.cb.2.2.2.1
theorem i_le9 {a : Int32} (h : a < 10) : a ≤ 9 := by simp only [i_lt, i_le, Int32.reduceToInt] at *; omega
theorem i_lt10 {a : Int32} (h : a ≤ 9) : a < 10 := by simp only [i_lt, i_le, Int32.reduceToInt] at *; omega
/-- what a statement's standing is -/
def stV (M : aI) (P : Nat → Int64) (s : Nat) : Int32 := if M 84 s = 0 then -1 else if M 86 s = 0 then (if M 45 s ≤ 6 ∧ ¬ cOn M P s then 10 else 0) else M 86 s
theorem stV_a {M : aI} {P : Nat → Int64} {s : Nat} (h : M 84 s = 0) : -1 = stV M P s := (if_pos h).symm
theorem stV_b {M : aI} {P : Nat → Int64} {s : Nat} (h : ¬ M 84 s = 0) (h2 : ¬ M 86 s = 0) : M 86 s = stV M P s := by unfold stV; rw [if_neg h, if_neg h2]
theorem stV_c {M : aI} {P : Nat → Int64} {s : Nat} (h : ¬ M 84 s = 0) (h2 : M 86 s = 0) (h3 : M 45 s ≤ 6) (h4 : ¬ cOn M P s) : 10 = stV M P s := by unfold stV; rw [if_neg h, if_pos h2, if_pos ⟨h3, h4⟩]
theorem stV_d {M : aI} {P : Nat → Int64} {s : Nat} (h : ¬ M 84 s = 0) (h2 : M 86 s = 0) (h3 : ¬ (M 45 s ≤ 6 ∧ ¬ cOn M P s)) : 0 = stV M P s := by unfold stV; rw [if_neg h, if_pos h2, if_neg h3]
/-- what a policy's proof is, of the sets that were found -/
def prV (m : aI) (P : Nat → Int64) (p : Nat) : Int32 := sProof m (P (iN m 57 (3 * p))) p
theorem prV_a {m : aI} {P : Nat → Int64} {p : Nat} (h : lg_cmp (P (iN m 57 (3 * p))) 0 = 0) : -2 = prV m P p := (if_pos ((lgc0 _ _).mp h)).symm
theorem prV_b {m : aI} {P : Nat → Int64} {p : Nat} (h : ¬ lg_cmp (P (iN m 57 (3 * p))) 0 = 0) (h2 : lg_cmp (P (iN m 57 (3 * p)) &&& (sRng (iN m 57 (3 * p + 1)) (nI (iN m 57 (3 * p + 2))) ^^^ (-1))) 0 = 0) : -1 = prV m P p := by
  unfold prV sProof; rw [if_neg (fun q => h ((lgc0 _ _).mpr q)), if_pos ((lgc0 _ _).mp h2)]
theorem prV_c {m : aI} {P : Nat → Int64} {p : Nat} (h : ¬ lg_cmp (P (iN m 57 (3 * p))) 0 = 0) (h2 : ¬ lg_cmp (P (iN m 57 (3 * p)) &&& (sRng (iN m 57 (3 * p + 1)) (nI (iN m 57 (3 * p + 2))) ^^^ (-1))) 0 = 0) : nI (sLeast (P (iN m 57 (3 * p)) &&& (sRng (iN m 57 (3 * p + 1)) (nI (iN m 57 (3 * p + 2))) ^^^ (-1)))) = prV m P p := by
  unfold prV sProof; rw [if_neg (fun q => h ((lgc0 _ _).mpr q)), if_neg (fun q => h2 ((lgc0 _ _).mpr q))]
set_option maxRecDepth 100000 in
theorem m_X11_value {T : List aT} {I : aI} {J : aJ} {R : aR} {m : aI} {c n : Nat} {sq : Nat → Nat} {g : Nat} {gq eq : Nat → Nat} {r p : Nat} {pq : Nat → Nat} {k : Nat} (h9 : G9 T I J R m c n sq g gq eq r p pq k) (f : Int32) : MX11_value 3 200 [.ref 0, .int f] T I J R (CP [exI] I J m c (fun k v m2 => ((0 ≤ f ∧ f ≤ 9) ∧ k = 0 ∧ (∃ m0 M P S, StEq m m0 ∧ SolR m0 M n P S ∧ v = sVl (M 44 57) S f.toNatClampNeg) ∧ m2 = m) ∨ (¬ (0 ≤ f ∧ f ≤ 9) ∧ k = 1 ∧ m2 = m))) := by
  refine a_met (by decide +kernel) a_le (fun X hC hq => ?_)
  show AW X 0 0 0 [some (.ref 0), some (.int f)] [] T I J R
  have hT := h9.hT
  have hR := h9.hR
  refine aw_iload_n hC dX11_value_0 rfl ?_
  refine aw_bipush (v := 10) hC dX11_value_1 (by decide) ?_
  refine kX11_64 hC rfl (m_X11_isBelow f (10 : Int32)) dX11_value_3 rfl a_le a_le a_le a_le a_le rfl aPure_x (aPure_k ?_)
  show AW X 0 0 6 [some (.ref 0), some (.int f)] [.int (bI (decide (0 ≤ f ∧ f < (10 : Int32))))] T I J R
  by_cases hn1 : bI (decide (0 ≤ f ∧ f < (10 : Int32))) = 0
  · rw [hn1]
    exact kX11_68 hC rfl (m_X11_needIndexF (T := T) (I := I) (J := J) (R := R)) dX11_value_6 rfl a_le a_le a_le a_le a_le rfl (aTh_x (ae_out hC hq a_le a_le (CP.th (j := 0) rfl (Or.inr ⟨fun q => absurd (show 0 ≤ f ∧ f < 10 from ⟨q.1, i_lt10 q.2⟩) (of_decide_eq_false (bI_e0.mp (by assumption))), rfl, rfl⟩) h9.gi))) aTh_k
  · refine kX11_68 hC rfl (m_X11_needIndexT (T := T) (I := I) (J := J) (R := R) (x := bI (decide (0 ≤ f ∧ f < (10 : Int32)))) hn1) dX11_value_6 rfl a_le a_le a_le a_le a_le rfl aPure_x (aPure_k ?_)
    show AW X 0 0 9 [some (.ref 0), some (.int f)] [] T I J R
    have hfcf : 0 ≤ f ∧ f < 10 := of_decide_eq_true (bI_n0.mp (by assumption))
    obtain ⟨f1, hf1, ef1⟩ := i_nat (x := f) (b := 10) hfcf.1 hfcf.2 rfl (by first | decide | omega)
    subst ef1
    show AW X 0 0 9 [some (.ref 0), some (.int (nI f1))] [] T I J R
    refine aw_aload_n hC dX11_value_9 rfl ?_
    refine aw_getR hC dX11_value_10 aF_X11_21 rfl (tg_0 hT) (pr_0_1 hR) ?_
    refine kX11_113 hC rfl (m_settleG h9) dX11_value_13 (tg_8 hT) rfl a_le a_le a_le a_le a_le rfl aRelT_x (aRelT_k (fun v9 T9 I9 J9 R9 hp9 hQ => ?_))
    obtain ⟨ev9, hT9, hf9, hg9, m0, hs9, hl9⟩ := hQ
    rw [ev9, hT9]
    have hR9 := hg9.hR
    obtain ⟨M, P, S, hso, hD9, hC9, hP9, hS9, h57, hfo, htn, hcf, hSM, hcs, h53, hfx⟩ := hl9.use hs9 h9.bk hg9.cb.1
    show AW X 0 0 16 [some (.ref 0), some (.int (nI f1))] [] T I9 J9 R9
    refine aw_aload_n hC dX11_value_16 rfl ?_
    refine aw_getR hC dX11_value_17 aF_X11_21 rfl (tg_0 hT) (pr_0_1 hR9) ?_
    refine aw_getR hC dX11_value_20 aF_X11_156 rfl (tg_8 hT) (pr_8_4 hR9) ?_
    refine aw_iload_n hC dX11_value_23 rfl ?_
    refine aw_iaload_k (j := f1) hC dX11_value_24 (tg_11 hT) (nI_clamp (by omega)) (vp_in_nI (by omega) (by decide)) ?_
    rw [(hfo f1 hf1)]
    exact aw_ireturn hC hq rfl dX11_value_25 a_le a_le (CP.ok (Or.inl ⟨⟨hfcf.1, i_le9 hfcf.2⟩, rfl, ⟨m0, M, P, S, hs9, hso, by rw [nI_clamp (by omega)]⟩, rfl⟩) hf9 hg9.gi)
set_option maxRecDepth 100000 in
theorem m_X11_set {T : List aT} {I : aI} {J : aJ} {R : aR} {m : aI} {c n : Nat} {sq : Nat → Nat} {g : Nat} {gq eq : Nat → Nat} {r p : Nat} {pq : Nat → Nat} {k : Nat} (h9 : G9 T I J R m c n sq g gq eq r p pq k) (f : Int32) : MX11_set 3 200 [.ref 0, .int f] T I J R (CP [exI] I J m c (fun k v m2 => ((0 ≤ f ∧ f ≤ 9) ∧ k = 0 ∧ (∃ m0 M P S, StEq m m0 ∧ SolR m0 M n P S ∧ v = sSum (P f.toNatClampNeg)) ∧ m2 = m) ∨ (¬ (0 ≤ f ∧ f ≤ 9) ∧ k = 1 ∧ m2 = m))) := by
  refine a_met (by decide +kernel) a_le (fun X hC hq => ?_)
  show AW X 0 0 0 [some (.ref 0), some (.int f)] [] T I J R
  have hT := h9.hT
  have hR := h9.hR
  refine aw_iload_n hC dX11_set_0 rfl ?_
  refine aw_bipush (v := 10) hC dX11_set_1 (by decide) ?_
  refine kX11_64 hC rfl (m_X11_isBelow f (10 : Int32)) dX11_set_3 rfl a_le a_le a_le a_le a_le rfl aPure_x (aPure_k ?_)
  show AW X 0 0 6 [some (.ref 0), some (.int f)] [.int (bI (decide (0 ≤ f ∧ f < (10 : Int32))))] T I J R
  by_cases hn1 : bI (decide (0 ≤ f ∧ f < (10 : Int32))) = 0
  · rw [hn1]
    exact kX11_68 hC rfl (m_X11_needIndexF (T := T) (I := I) (J := J) (R := R)) dX11_set_6 rfl a_le a_le a_le a_le a_le rfl (aTh_x (ae_out hC hq a_le a_le (CP.th (j := 0) rfl (Or.inr ⟨fun q => absurd (show 0 ≤ f ∧ f < 10 from ⟨q.1, i_lt10 q.2⟩) (of_decide_eq_false (bI_e0.mp (by assumption))), rfl, rfl⟩) h9.gi))) aTh_k
  · refine kX11_68 hC rfl (m_X11_needIndexT (T := T) (I := I) (J := J) (R := R) (x := bI (decide (0 ≤ f ∧ f < (10 : Int32)))) hn1) dX11_set_6 rfl a_le a_le a_le a_le a_le rfl aPure_x (aPure_k ?_)
    show AW X 0 0 9 [some (.ref 0), some (.int f)] [] T I J R
    have hfcf : 0 ≤ f ∧ f < 10 := of_decide_eq_true (bI_n0.mp (by assumption))
    obtain ⟨f1, hf1, ef1⟩ := i_nat (x := f) (b := 10) hfcf.1 hfcf.2 rfl (by first | decide | omega)
    subst ef1
    show AW X 0 0 9 [some (.ref 0), some (.int (nI f1))] [] T I J R
    refine aw_aload_n hC dX11_set_9 rfl ?_
    refine aw_getR hC dX11_set_10 aF_X11_21 rfl (tg_0 hT) (pr_0_1 hR) ?_
    refine kX11_113 hC rfl (m_settleG h9) dX11_set_13 (tg_8 hT) rfl a_le a_le a_le a_le a_le rfl aRelT_x (aRelT_k (fun v9 T9 I9 J9 R9 hp9 hQ => ?_))
    obtain ⟨ev9, hT9, hf9, hg9, m0, hs9, hl9⟩ := hQ
    rw [ev9, hT9]
    have hR9 := hg9.hR
    obtain ⟨M, P, S, hso, hD9, hC9, hP9, hS9, h57, hfo, htn, hcf, hSM, hcs, h53, hfx⟩ := hl9.use hs9 h9.bk hg9.cb.1
    show AW X 0 0 16 [some (.ref 0), some (.int (nI f1))] [] T I9 J9 R9
    refine aw_aload_n hC dX11_set_16 rfl ?_
    refine aw_getR hC dX11_set_17 aF_X11_21 rfl (tg_0 hT) (pr_0_1 hR9) ?_
    refine aw_getR hC dX11_set_20 aF_X11_159 rfl (tg_8 hT) (pr_8_1 hR9) ?_
    refine aw_iload_n hC dX11_set_23 rfl ?_
    refine kX11_163 hC rfl (m_X7_summary (I := I9) (J := J9) (b := 9) (a := 10) ⟨tg_9 hT, pr_9_0 hR9, tg_10 hT⟩ (f := f1) (by omega)) dX11_set_24 (tg_9 hT) rfl a_le a_le a_le a_le a_le rfl aPure_x (aPure_k ?_)
    show AW X 0 0 27 [some (.ref 0), some (.int (nI f1))] [.int (sSum (J9 10 f1))] T I9 J9 R9
    rw [(show sSum (J9 10 f1) = sSum (P f1) from by rw [hP9])]
    exact aw_ireturn hC hq rfl dX11_set_27 a_le a_le (CP.ok (Or.inl ⟨⟨hfcf.1, i_le9 hfcf.2⟩, rfl, ⟨m0, M, P, S, hs9, hso, by rw [nI_clamp (by omega)]⟩, rfl⟩) hf9 hg9.gi)
set_option maxRecDepth 100000 in
theorem m_X11_setAnew {T : List aT} {I : aI} {J : aJ} {R : aR} {m : aI} {c n : Nat} {sq : Nat → Nat} {g : Nat} {gq eq : Nat → Nat} {r p : Nat} {pq : Nat → Nat} {k : Nat} (h9 : G9 T I J R m c n sq g gq eq r p pq k) (f : Int32) : MX11_setAnew 3 200 [.ref 0, .int f] T I J R (CP [exI] I J m c (fun k v m2 => ((0 ≤ f ∧ f ≤ 9) ∧ k = 0 ∧ (∃ m0 M P S, StEq m m0 ∧ SolR m0 M n P S ∧ v = sSum (P f.toNatClampNeg)) ∧ m2 = m) ∨ (¬ (0 ≤ f ∧ f ≤ 9) ∧ k = 1 ∧ m2 = m))) := by
  refine a_met (by decide +kernel) a_le (fun X hC hq => ?_)
  show AW X 0 0 0 [some (.ref 0), some (.int f)] [] T I J R
  have hT := h9.hT
  have hR := h9.hR
  refine aw_iload_n hC dX11_setAnew_0 rfl ?_
  refine aw_bipush (v := 10) hC dX11_setAnew_1 (by decide) ?_
  refine kX11_64 hC rfl (m_X11_isBelow f (10 : Int32)) dX11_setAnew_3 rfl a_le a_le a_le a_le a_le rfl aPure_x (aPure_k ?_)
  show AW X 0 0 6 [some (.ref 0), some (.int f)] [.int (bI (decide (0 ≤ f ∧ f < (10 : Int32))))] T I J R
  by_cases hn1 : bI (decide (0 ≤ f ∧ f < (10 : Int32))) = 0
  · rw [hn1]
    exact kX11_68 hC rfl (m_X11_needIndexF (T := T) (I := I) (J := J) (R := R)) dX11_setAnew_6 rfl a_le a_le a_le a_le a_le rfl (aTh_x (ae_out hC hq a_le a_le (CP.th (j := 0) rfl (Or.inr ⟨fun q => absurd (show 0 ≤ f ∧ f < 10 from ⟨q.1, i_lt10 q.2⟩) (of_decide_eq_false (bI_e0.mp (by assumption))), rfl, rfl⟩) h9.gi))) aTh_k
  · refine kX11_68 hC rfl (m_X11_needIndexT (T := T) (I := I) (J := J) (R := R) (x := bI (decide (0 ≤ f ∧ f < (10 : Int32)))) hn1) dX11_setAnew_6 rfl a_le a_le a_le a_le a_le rfl aPure_x (aPure_k ?_)
    show AW X 0 0 9 [some (.ref 0), some (.int f)] [] T I J R
    have hfcf : 0 ≤ f ∧ f < 10 := of_decide_eq_true (bI_n0.mp (by assumption))
    obtain ⟨f1, hf1, ef1⟩ := i_nat (x := f) (b := 10) hfcf.1 hfcf.2 rfl (by first | decide | omega)
    subst ef1
    show AW X 0 0 9 [some (.ref 0), some (.int (nI f1))] [] T I J R
    refine aw_aload_n hC dX11_setAnew_9 rfl ?_
    refine aw_getR hC dX11_setAnew_10 aF_X11_21 rfl (tg_0 hT) (pr_0_1 hR) ?_
    refine kX11_113 hC rfl (m_settleG h9) dX11_setAnew_13 (tg_8 hT) rfl a_le a_le a_le a_le a_le rfl aRelT_x (aRelT_k (fun v9 T9 I9 J9 R9 hp9 hQ => ?_))
    obtain ⟨ev9, hT9, hf9, hg9, m0, hs9, hl9⟩ := hQ
    rw [ev9, hT9]
    have hR9 := hg9.hR
    obtain ⟨M, P, S, hso, hD9, hC9, hP9, hS9, h57, hfo, htn, hcf, hSM, hcs, h53, hfx⟩ := hl9.use hs9 h9.bk hg9.cb.1
    show AW X 0 0 16 [some (.ref 0), some (.int (nI f1))] [] T I9 J9 R9
    refine aw_aload_n hC dX11_setAnew_16 rfl ?_
    refine aw_getR hC dX11_setAnew_17 aF_X11_21 rfl (tg_0 hT) (pr_0_1 hR9) ?_
    refine kX11_168 hC rfl (m_X10_narrowBackwards hT hR9 hcs hD9 hSM h53 (fun j hj => (hg9.cb.2.2.1 j hj).2.2)) dX11_setAnew_20 (tg_8 hT) rfl a_le a_le a_le a_le a_le rfl aRelV_x (aRelV_k (fun v9 I8 J8 hQ => ?_))
    obtain ⟨ev8, hI8, S8, hS8, hJ8⟩ := hQ
    rw [ev8, hI8, hJ8, Fix_uniq hS8 hfx]
    show AW X 0 0 23 [some (.ref 0), some (.int (nI f1))] [.ref 14] T I9 (a_ur J9 15 P) R9
    refine aw_iload_n hC dX11_setAnew_23 rfl ?_
    refine kX11_163 hC rfl (m_X7_summary (I := I9) (J := a_ur J9 15 P) (b := 14) (a := 15) ⟨tg_14 hT, pr_14_0 hR9, tg_15 hT⟩ (f := f1) (by omega)) dX11_setAnew_24 (tg_14 hT) rfl a_le a_le a_le a_le a_le rfl aPure_x (aPure_k ?_)
    show AW X 0 0 27 [some (.ref 0), some (.int (nI f1))] [.int (sSum ((a_ur J9 15 P) 15 f1))] T I9 (a_ur J9 15 P) R9
    rw [(show sSum ((a_ur J9 15 P) 15 f1) = sSum (P f1) from by rw [a_ur_self])]
    exact aw_ireturn hC hq rfl dX11_setAnew_27 a_le a_le (CP.ok (Or.inl ⟨⟨hfcf.1, i_le9 hfcf.2⟩, rfl, ⟨m0, M, P, S, hs9, hso, by rw [nI_clamp (by omega)]⟩, rfl⟩) (fun o u v => ⟨(hf9 o u v).1, by rw [a_ur_ne (by omega)]; exact (hf9 o u v).2⟩) (hg9.j15 (K := P) (fun j hj => by rw [← hP9]; exact (hg9.cb.2.2.1 j hj).1)).gi)
set_option maxRecDepth 100000 in
theorem m_X11_tainted {T : List aT} {I : aI} {J : aJ} {R : aR} {m : aI} {c n : Nat} {sq : Nat → Nat} {g : Nat} {gq eq : Nat → Nat} {r p : Nat} {pq : Nat → Nat} {k : Nat} (h9 : G9 T I J R m c n sq g gq eq r p pq k)  : MX11_tainted 3 200 [.ref 0] T I J R (CP [] I J m c (fun k v m2 => k = 0 ∧ (∃ m0 M P S, StEq m m0 ∧ SolR m0 M n P S ∧ TnL M (fun _ => P) n v) ∧ m2 = m)) := by
  refine a_met (by decide +kernel) a_le (fun X hC hq => ?_)
  show AW X 0 0 0 [some (.ref 0)] [] T I J R
  have hT := h9.hT
  have hR := h9.hR
  refine aw_aload_n hC dX11_tainted_0 rfl ?_
  refine aw_getR hC dX11_tainted_1 aF_X11_21 rfl (tg_0 hT) (pr_0_1 hR) ?_
  refine kX11_113 hC rfl (m_settleG h9) dX11_tainted_4 (tg_8 hT) rfl a_le a_le a_le a_le a_le rfl aRelT_x (aRelT_k (fun v9 T9 I9 J9 R9 hp9 hQ => ?_))
  obtain ⟨ev9, hT9, hf9, hg9, m0, hs9, hl9⟩ := hQ
  rw [ev9, hT9]
  have hR9 := hg9.hR
  obtain ⟨M, P, S, hso, hD9, hC9, hP9, hS9, h57, hfo, htn, hcf, hSM, hcs, h53, hfx⟩ := hl9.use hs9 h9.bk hg9.cb.1
  show AW X 0 0 7 [some (.ref 0)] [] T I9 J9 R9
  refine aw_aload_n hC dX11_tainted_7 rfl ?_
  refine aw_getR hC dX11_tainted_8 aF_X11_21 rfl (tg_0 hT) (pr_0_1 hR9) ?_
  refine aw_getI hC dX11_tainted_11 aF_X11_191 rfl (tg_8 hT) ?_
  exact aw_ireturn hC hq rfl dX11_tainted_14 a_le a_le (CP.ok ⟨rfl, ⟨m0, M, P, S, hs9, hso, htn⟩, rfl⟩ hf9 hg9.gi)
set_option maxRecDepth 100000 in
theorem m_X11_conflict {T : List aT} {I : aI} {J : aJ} {R : aR} {m : aI} {c n : Nat} {sq : Nat → Nat} {g : Nat} {gq eq : Nat → Nat} {r p : Nat} {pq : Nat → Nat} {k : Nat} (h9 : G9 T I J R m c n sq g gq eq r p pq k)  : MX11_conflict 3 200 [.ref 0] T I J R (CP [] I J m c (fun k v m2 => k = 0 ∧ (∃ m0 M P S, StEq m m0 ∧ SolR m0 M n P S ∧ v = cfA M P n) ∧ m2 = m)) := by
  refine a_met (by decide +kernel) a_le (fun X hC hq => ?_)
  show AW X 0 0 0 [some (.ref 0)] [] T I J R
  have hT := h9.hT
  have hR := h9.hR
  refine aw_aload_n hC dX11_conflict_0 rfl ?_
  refine aw_getR hC dX11_conflict_1 aF_X11_21 rfl (tg_0 hT) (pr_0_1 hR) ?_
  refine kX11_113 hC rfl (m_settleG h9) dX11_conflict_4 (tg_8 hT) rfl a_le a_le a_le a_le a_le rfl aRelT_x (aRelT_k (fun v9 T9 I9 J9 R9 hp9 hQ => ?_))
  obtain ⟨ev9, hT9, hf9, hg9, m0, hs9, hl9⟩ := hQ
  rw [ev9, hT9]
  have hR9 := hg9.hR
  obtain ⟨M, P, S, hso, hD9, hC9, hP9, hS9, h57, hfo, htn, hcf, hSM, hcs, h53, hfx⟩ := hl9.use hs9 h9.bk hg9.cb.1
  show AW X 0 0 7 [some (.ref 0)] [] T I9 J9 R9
  refine aw_aload_n hC dX11_conflict_7 rfl ?_
  refine aw_getR hC dX11_conflict_8 aF_X11_21 rfl (tg_0 hT) (pr_0_1 hR9) ?_
  refine kX11_172 hC rfl (m_X10_leastConflict hT hR9 hcs hSM hC9 (fun j hj => (hg9.cb.2.2.1 j hj).2.2) h57 hcf) dX11_conflict_11 (tg_8 hT) rfl a_le a_le a_le a_le a_le rfl aRelT_x (aRelT_k (fun v9 T9 I8 J8 R8 hp9 hQ => ?_))
  obtain ⟨ev8, hT8, hL8, hRr8, hR8, K8, hK8, hJ8, h12, h13⟩ := hQ
  rw [ev8, hT8]
  show AW X 0 0 14 [some (.ref 0)] [.int (cfA M P n)] T I8 J8 R8
  exact aw_ireturn hC hq rfl dX11_conflict_14 a_le a_le (CP.ok ⟨rfl, ⟨m0, M, P, S, hs9, hso, rfl⟩, rfl⟩ (fun o u v => ⟨(funext fun p => hL8 o p (by omega) (by omega) (fun z => by omega)).trans (hf9 o u v).1, by rw [hJ8, a_ur_ne (by omega)]; exact (hf9 o u v).2⟩) (by have hr8 : ∀ s, s < n → I8 (sq s) = I9 (sq s) := fun s hs => funext fun p => hL8 _ p (by have := (hg9.cb.sq hT hs).2.2; omega) (by have := (hg9.cb.sq hT hs).2.2; omega) (fun z => by have := (hg9.cb.sq hT hs).2.2; omega); rw [hJ8]; exact (hg9.lcf hL8 hRr8 hR8 hK8 hs9 ⟨M, P, S, hso, fun s hs => by rw [hr8 s hs, hRr8 _ _ (by have := (hg9.cb.sq hT hs).2.2; omega)]; exact hD9 s hs, fun s hs => by rw [hr8 s hs]; exact hC9 s hs, (a_ur_ne (by decide)).trans hP9, (a_ur_ne (by decide)).trans hS9, by rw [hL8 8 2 (by decide) (by decide) (by decide)]; exact h57, fun f hf => by rw [hL8 8 2 (by decide) (by decide) (by decide), hL8 11 f (by decide) (by decide) (fun z => absurd z.1 (by decide)), h57]; exact hfo f hf, by rw [hL8 8 3 (by decide) (by decide) (by decide)]; exact htn, Or.inr ⟨h12, h13⟩⟩).gi))
set_option maxRecDepth 100000 in
theorem m_X11_standing {T : List aT} {I : aI} {J : aJ} {R : aR} {m : aI} {c n : Nat} {sq : Nat → Nat} {g : Nat} {gq eq : Nat → Nat} {r p : Nat} {pq : Nat → Nat} {k : Nat} (h9 : G9 T I J R m c n sq g gq eq r p pq k) (x : Int32) : MX11_standing 3 200 [.ref 0, .int x] T I J R (CP [exI] I J m c (fun k v m2 => ((0 ≤ x ∧ x < nI n) ∧ k = 0 ∧ (∃ m0 M P S, StEq m m0 ∧ SolR m0 M n P S ∧ v = stV M P x.toNatClampNeg) ∧ m2 = m) ∨ (¬ (0 ≤ x ∧ x < nI n) ∧ k = 1 ∧ m2 = m))) := by
  refine a_met (by decide +kernel) a_le (fun X hC hq => ?_)
  show AW X 0 0 0 [some (.ref 0), some (.int x), none] [] T I J R
  have hT := h9.hT
  have hR := h9.hR
  have hn30 := h9.bk.1.n30
  refine aw_iload_n hC dX11_standing_0 rfl ?_
  refine aw_aload_n hC dX11_standing_1 rfl ?_
  refine aw_getR hC dX11_standing_2 aF_X11_10 rfl (tg_0 hT) (pr_0_0 hR) ?_
  refine aw_getI hC dX11_standing_5 aF_X11_98 rfl (tg_1 hT) ?_
  rw [h9.cb.1.1]
  refine kX11_64 hC rfl (m_X11_isBelow x (nI n)) dX11_standing_8 rfl a_le a_le a_le a_le a_le rfl aPure_x (aPure_k ?_)
  show AW X 0 0 11 [some (.ref 0), some (.int x), none] [.int (bI (decide (0 ≤ x ∧ x < (nI n))))] T I J R
  by_cases hn1 : bI (decide (0 ≤ x ∧ x < (nI n))) = 0
  · rw [hn1]
    exact kX11_68 hC rfl (m_X11_needIndexF (T := T) (I := I) (J := J) (R := R)) dX11_standing_11 rfl a_le a_le a_le a_le a_le rfl (aTh_x (ae_out hC hq a_le a_le (CP.th (j := 0) rfl (Or.inr ⟨of_decide_eq_false (bI_e0.mp (by assumption)), rfl, rfl⟩) h9.gi))) aTh_k
  · refine kX11_68 hC rfl (m_X11_needIndexT (T := T) (I := I) (J := J) (R := R) (x := bI (decide (0 ≤ x ∧ x < (nI n)))) hn1) dX11_standing_11 rfl a_le a_le a_le a_le a_le rfl aPure_x (aPure_k ?_)
    show AW X 0 0 14 [some (.ref 0), some (.int x), none] [] T I J R
    have hfcx : 0 ≤ x ∧ x < nI (n) := of_decide_eq_true (bI_n0.mp (by assumption))
    obtain ⟨x1, hx1, ex1⟩ := i_nat (x := x) (b := n) hfcx.1 hfcx.2 rfl (by first | decide | omega)
    subst ex1
    show AW X 0 0 14 [some (.ref 0), some (.int (nI x1)), none] [] T I J R
    refine aw_aload_n hC dX11_standing_14 rfl ?_
    refine aw_getR hC dX11_standing_15 aF_X11_21 rfl (tg_0 hT) (pr_0_1 hR) ?_
    refine kX11_113 hC rfl (m_settleG h9) dX11_standing_18 (tg_8 hT) rfl a_le a_le a_le a_le a_le rfl aRelT_x (aRelT_k (fun v9 T9 I9 J9 R9 hp9 hQ => ?_))
    obtain ⟨ev9, hT9, hf9, hg9, m0, hs9, hl9⟩ := hQ
    rw [ev9, hT9]
    have hR9 := hg9.hR
    obtain ⟨M, P, S, hso, hD9, hC9, hP9, hS9, h57, hfo, htn, hcf, hSM, hcs, h53, hfx⟩ := hl9.use hs9 h9.bk hg9.cb.1
    show AW X 0 0 21 [some (.ref 0), some (.int (nI x1)), none] [] T I9 J9 R9
    refine aw_aload_n hC dX11_standing_21 rfl ?_
    refine aw_getR hC dX11_standing_22 aF_X11_10 rfl (tg_0 hT) (pr_0_0 hR9) ?_
    refine aw_getR hC dX11_standing_25 aF_X11_102 rfl (tg_1 hT) (pr_1_0 hR9) ?_
    refine aw_iload_n hC dX11_standing_28 rfl ?_
    refine aw_aaloadR_k (j := x1) hC dX11_standing_29 (tg_2 hT) (nI_clamp (by omega)) (vp_in_nI (by omega) (by decide)) (hg9.cb.1.rf hx1) ?_
    refine aw_astore_n (L2 := [some (.ref 0), some (.int (nI x1)), some (.ref (sq x1))]) hC dX11_standing_30 rfl (by decide) rfl ?_
    refine aw_aload_n hC dX11_standing_31 rfl ?_
    refine aw_getI hC dX11_standing_32 aF_X11_143 rfl (hg9.cb.1.at hx1).1 ?_
    rw [(hD9 x1 hx1).1]
    refine aw_if_ne (tgt := 40) hC dX11_standing_35 (by decide) (fun h2 => ?_) (fun h2 => ?_)
    · show AW X 0 0 40 [some (.ref 0), some (.int (nI x1)), some (.ref (sq x1))] [] T I9 J9 R9
      refine aw_aload_n hC dX11_standing_40 rfl ?_
      refine aw_getI hC dX11_standing_41 aF_X11_146 rfl (hg9.cb.1.at hx1).1 ?_
      rw [(hD9 x1 hx1).2.1]
      refine aw_if_eq (tgt := 52) hC dX11_standing_44 (by decide) (fun h3 => ?_) (fun h3 => ?_)
      · show AW X 0 0 52 [some (.ref 0), some (.int (nI x1)), some (.ref (sq x1))] [] T I9 J9 R9
        refine aw_aload_n hC dX11_standing_52 rfl ?_
        refine kX11_149 hC rfl (m_X8_isNarrowing (I := I9) (hg9.cb.1.at hx1).1) dX11_standing_53 (hg9.cb.1.at hx1).1 rfl a_le a_le a_le a_le a_le rfl aPure_x (aPure_k ?_)
        show AW X 0 0 56 [some (.ref 0), some (.int (nI x1)), some (.ref (sq x1))] [.int (bI (decide (I9 (sq x1) 2 ≤ 6)))] T I9 J9 R9
        rw [(show bI (decide (I9 (sq x1) 2 ≤ 6)) = bI (decide (M 45 x1 ≤ 6)) from by rw [(hcs.at hx1).2.2.2.1])]
        refine aw_if_eq (tgt := 71) hC dX11_standing_56 (by decide) (fun h4 => ?_) (fun h4 => ?_)
        · show AW X 0 0 71 [some (.ref 0), some (.int (nI x1)), some (.ref (sq x1))] [] T I9 J9 R9
          refine aw_iconst (v := 0) hC dX11_standing_71 (by decide) ?_
          exact aw_ireturn hC hq rfl dX11_standing_72 a_le a_le (CP.ok (Or.inl ⟨hfcx, rfl, ⟨m0, M, P, S, hs9, hso, by rw [nI_clamp (by omega)]; exact stV_d (by first | assumption | exact bI_dn.mp (by assumption) | exact bI_d0.mp (by assumption)) (by first | assumption | exact bI_dn.mp (by assumption) | exact bI_d0.mp (by assumption)) (by first | exact fun q => absurd q.1 (bI_d0.mp (by assumption)) | exact fun q => q.2 (bI_dn.mp (by assumption)))⟩, rfl⟩) hf9 hg9.gi)
        · show AW X 0 0 59 [some (.ref 0), some (.int (nI x1)), some (.ref (sq x1))] [] T I9 J9 R9
          refine aw_aload_n hC dX11_standing_59 rfl ?_
          refine aw_getI hC dX11_standing_60 aF_X11_153 rfl (hg9.cb.1.at hx1).1 ?_
          rw [(hC9 x1 hx1)]
          refine aw_if_ne (tgt := 71) hC dX11_standing_63 (by decide) (fun h5 => ?_) (fun h5 => ?_)
          · show AW X 0 0 71 [some (.ref 0), some (.int (nI x1)), some (.ref (sq x1))] [] T I9 J9 R9
            refine aw_iconst (v := 0) hC dX11_standing_71 (by decide) ?_
            exact aw_ireturn hC hq rfl dX11_standing_72 a_le a_le (CP.ok (Or.inl ⟨hfcx, rfl, ⟨m0, M, P, S, hs9, hso, by rw [nI_clamp (by omega)]; exact stV_d (by first | assumption | exact bI_dn.mp (by assumption) | exact bI_d0.mp (by assumption)) (by first | assumption | exact bI_dn.mp (by assumption) | exact bI_d0.mp (by assumption)) (by first | exact fun q => absurd q.1 (bI_d0.mp (by assumption)) | exact fun q => q.2 (bI_dn.mp (by assumption)))⟩, rfl⟩) hf9 hg9.gi)
          · show AW X 0 0 66 [some (.ref 0), some (.int (nI x1)), some (.ref (sq x1))] [] T I9 J9 R9
            refine aw_bipush (v := 10) hC dX11_standing_66 (by decide) ?_
            refine aw_goto (tgt := 72) hC dX11_standing_68 (by decide) ?_
            exact aw_ireturn hC hq rfl dX11_standing_72 a_le a_le (CP.ok (Or.inl ⟨hfcx, rfl, ⟨m0, M, P, S, hs9, hso, by rw [nI_clamp (by omega)]; exact stV_c (by first | assumption | exact bI_dn.mp (by assumption) | exact bI_d0.mp (by assumption)) (by first | assumption | exact bI_dn.mp (by assumption) | exact bI_d0.mp (by assumption)) (by first | assumption | exact bI_dn.mp (by assumption) | exact bI_d0.mp (by assumption)) (by first | assumption | exact bI_dn.mp (by assumption) | exact bI_d0.mp (by assumption))⟩, rfl⟩) hf9 hg9.gi)
      · show AW X 0 0 47 [some (.ref 0), some (.int (nI x1)), some (.ref (sq x1))] [] T I9 J9 R9
        refine aw_aload_n hC dX11_standing_47 rfl ?_
        refine aw_getI hC dX11_standing_48 aF_X11_146 rfl (hg9.cb.1.at hx1).1 ?_
        rw [(hD9 x1 hx1).2.1]
        exact aw_ireturn hC hq rfl dX11_standing_51 a_le a_le (CP.ok (Or.inl ⟨hfcx, rfl, ⟨m0, M, P, S, hs9, hso, by rw [nI_clamp (by omega)]; exact stV_b (by first | assumption | exact bI_dn.mp (by assumption) | exact bI_d0.mp (by assumption)) (by first | assumption | exact bI_dn.mp (by assumption) | exact bI_d0.mp (by assumption))⟩, rfl⟩) hf9 hg9.gi)
    · show AW X 0 0 38 [some (.ref 0), some (.int (nI x1)), some (.ref (sq x1))] [] T I9 J9 R9
      refine aw_iconst (v := (-1)) hC dX11_standing_38 (by decide) ?_
      exact aw_ireturn hC hq rfl dX11_standing_39 a_le a_le (CP.ok (Or.inl ⟨hfcx, rfl, ⟨m0, M, P, S, hs9, hso, by rw [nI_clamp (by omega)]; exact stV_a (by first | assumption | exact bI_dn.mp (by assumption) | exact bI_d0.mp (by assumption))⟩, rfl⟩) hf9 hg9.gi)
set_option maxRecDepth 100000 in
theorem m_X11_proof {T : List aT} {I : aI} {J : aJ} {R : aR} {m : aI} {c n : Nat} {sq : Nat → Nat} {g : Nat} {gq eq : Nat → Nat} {r p : Nat} {pq : Nat → Nat} {k : Nat} (h9 : G9 T I J R m c n sq g gq eq r p pq k) (x : Int32) : MX11_proof 3 200 [.ref 0, .int x] T I J R (CP [exI] I J m c (fun kk v m2 => ((0 ≤ x ∧ x < nI k) ∧ kk = 0 ∧ (∃ m0 M P S, StEq m m0 ∧ SolR m0 M n P S ∧ v = prV m P x.toNatClampNeg) ∧ m2 = m) ∨ (¬ (0 ≤ x ∧ x < nI k) ∧ kk = 1 ∧ m2 = m))) := by
  refine a_met (by decide +kernel) a_le (fun X hC hq => ?_)
  show AW X 0 0 0 [some (.ref 0), some (.int x), none, none, none, none] [] T I J R
  have hT := h9.hT
  have hR := h9.hR
  have hk8 := h9.po.2.1
  refine aw_iload_n hC dX11_proof_0 rfl ?_
  refine aw_aload_n hC dX11_proof_1 rfl ?_
  refine aw_getI hC dX11_proof_2 aF_X11_175 rfl (tg_0 hT) ?_
  rw [h9.cpo.1]
  refine kX11_64 hC rfl (m_X11_isBelow x (nI k)) dX11_proof_5 rfl a_le a_le a_le a_le a_le rfl aPure_x (aPure_k ?_)
  show AW X 0 0 8 [some (.ref 0), some (.int x), none, none, none, none] [.int (bI (decide (0 ≤ x ∧ x < (nI k))))] T I J R
  by_cases hn1 : bI (decide (0 ≤ x ∧ x < (nI k))) = 0
  · rw [hn1]
    exact kX11_68 hC rfl (m_X11_needIndexF (T := T) (I := I) (J := J) (R := R)) dX11_proof_8 rfl a_le a_le a_le a_le a_le rfl (aTh_x (ae_out hC hq a_le a_le (CP.th (j := 0) rfl (Or.inr ⟨of_decide_eq_false (bI_e0.mp (by assumption)), rfl, rfl⟩) h9.gi))) aTh_k
  · refine kX11_68 hC rfl (m_X11_needIndexT (T := T) (I := I) (J := J) (R := R) (x := bI (decide (0 ≤ x ∧ x < (nI k)))) hn1) dX11_proof_8 rfl a_le a_le a_le a_le a_le rfl aPure_x (aPure_k ?_)
    show AW X 0 0 11 [some (.ref 0), some (.int x), none, none, none, none] [] T I J R
    have hfcx : 0 ≤ x ∧ x < nI (k) := of_decide_eq_true (bI_n0.mp (by assumption))
    obtain ⟨x1, hx1, ex1⟩ := i_nat (x := x) (b := k) hfcx.1 hfcx.2 rfl (by first | decide | omega)
    subst ex1
    have h10 := h9.po.2.2.2 x1 hx1
    show AW X 0 0 11 [some (.ref 0), some (.int (nI x1)), none, none, none, none] [] T I J R
    refine aw_aload_n hC dX11_proof_11 rfl ?_
    refine aw_getR hC dX11_proof_12 aF_X11_21 rfl (tg_0 hT) (pr_0_1 hR) ?_
    refine kX11_113 hC rfl (m_settleG h9) dX11_proof_15 (tg_8 hT) rfl a_le a_le a_le a_le a_le rfl aRelT_x (aRelT_k (fun v9 T9 I9 J9 R9 hp9 hQ => ?_))
    obtain ⟨ev9, hT9, hf9, hg9, m0, hs9, hl9⟩ := hQ
    rw [ev9, hT9]
    have hR9 := hg9.hR
    obtain ⟨M, P, S, hso, hD9, hC9, hP9, hS9, h57, hfo, htn, hcf, hSM, hcs, h53, hfx⟩ := hl9.use hs9 h9.bk hg9.cb.1
    show AW X 0 0 18 [some (.ref 0), some (.int (nI x1)), none, none, none, none] [] T I9 J9 R9
    refine aw_aload_n hC dX11_proof_18 rfl ?_
    refine aw_getR hC dX11_proof_19 aF_X11_21 rfl (tg_0 hT) (pr_0_1 hR9) ?_
    refine aw_getR hC dX11_proof_22 aF_X11_159 rfl (tg_8 hT) (pr_8_1 hR9) ?_
    refine aw_getR hC dX11_proof_25 aF_X11_182 rfl (tg_9 hT) (pr_9_0 hR9) ?_
    refine aw_aload_n hC dX11_proof_28 rfl ?_
    refine aw_getR hC dX11_proof_29 aF_X11_50 rfl (tg_0 hT) (pr_0_5 hR9) ?_
    refine aw_iload_n hC dX11_proof_32 rfl ?_
    refine aw_iaload_k (j := x1) hC dX11_proof_33 (tg_41 hT) (nI_clamp (by omega)) (vp_in_nI (by omega) (by decide)) ?_
    rw [((hg9.cpo.2 x1 hx1).1.trans (h9.po.2.2.1 (3 * x1) (by omega)).1)]
    refine aw_laload_k (j := (iN m 57 (3 * x1))) hC dX11_proof_34 (tg_10 hT) (nI_clamp (by omega)) (vp_in_nI (by omega) (by decide)) ?_
    rw [(show J9 10 (iN m 57 (3 * x1)) = P (iN m 57 (3 * x1)) from by rw [hP9])]
    refine aw_lstore_n (L2 := [some (.ref 0), some (.int (nI x1)), some (.long (P (iN m 57 (3 * x1)))), none, none, none]) hC dX11_proof_35 rfl (by decide) rfl ?_
    refine aw_lload_n hC dX11_proof_36 rfl ?_
    refine aw_lconst (v := 0) hC dX11_proof_37 (by decide) ?_
    refine aw_lcmp hC dX11_proof_38 ?_
    refine aw_if_ne (tgt := 45) hC dX11_proof_39 (by decide) (fun h2 => ?_) (fun h2 => ?_)
    · show AW X 0 0 45 [some (.ref 0), some (.int (nI x1)), some (.long (P (iN m 57 (3 * x1)))), none, none, none] [] T I9 J9 R9
      refine aw_lload_n hC dX11_proof_45 rfl ?_
      refine aw_aload_n hC dX11_proof_46 rfl ?_
      refine aw_getR hC dX11_proof_47 aF_X11_54 rfl (tg_0 hT) (pr_0_6 hR9) ?_
      refine aw_iload_n hC dX11_proof_50 rfl ?_
      refine aw_laload_k (j := x1) hC dX11_proof_51 (tg_42 hT) (nI_clamp (by omega)) (vp_in_nI (by omega) (by decide)) ?_
      rw [(hg9.cpo.2 x1 hx1).2]
      refine aw_ldc2 (v := (-1)) hC dX11_proof_52 gK_X11_185 ?_
      refine aw_lxor hC dX11_proof_55 ?_
      refine aw_land hC dX11_proof_56 ?_
      refine aw_lstore (L2 := [some (.ref 0), some (.int (nI x1)), some (.long (P (iN m 57 (3 * x1)))), none, some (.long ((P (iN m 57 (3 * x1))) &&& ((sRng (iN m 57 (3 * x1 + 1)) (nI (iN m 57 (3 * x1 + 2)))) ^^^ (-1)))), none]) hC dX11_proof_57 (by decide) rfl ?_
      refine aw_lload hC dX11_proof_59 rfl ?_
      refine aw_lconst (v := 0) hC dX11_proof_61 (by decide) ?_
      refine aw_lcmp hC dX11_proof_62 ?_
      refine aw_if_ne (tgt := 70) hC dX11_proof_63 (by decide) (fun h3 => ?_) (fun h3 => ?_)
      · show AW X 0 0 70 [some (.ref 0), some (.int (nI x1)), some (.long (P (iN m 57 (3 * x1)))), none, some (.long ((P (iN m 57 (3 * x1))) &&& ((sRng (iN m 57 (3 * x1 + 1)) (nI (iN m 57 (3 * x1 + 2)))) ^^^ (-1)))), none] [] T I9 J9 R9
        refine aw_lload hC dX11_proof_70 rfl ?_
        refine kX11_187 hC rfl (m_X7_least ((P (iN m 57 (3 * x1))) &&& ((sRng (iN m 57 (3 * x1 + 1)) (nI (iN m 57 (3 * x1 + 2)))) ^^^ (-1)))) dX11_proof_72 rfl a_le a_le a_le a_le a_le rfl aPure_x (aPure_k ?_)
        show AW X 0 0 75 [some (.ref 0), some (.int (nI x1)), some (.long (P (iN m 57 (3 * x1)))), none, some (.long ((P (iN m 57 (3 * x1))) &&& ((sRng (iN m 57 (3 * x1 + 1)) (nI (iN m 57 (3 * x1 + 2)))) ^^^ (-1)))), none] [.int (nI (sLeast ((P (iN m 57 (3 * x1))) &&& ((sRng (iN m 57 (3 * x1 + 1)) (nI (iN m 57 (3 * x1 + 2)))) ^^^ (-1)))))] T I9 J9 R9
        exact aw_ireturn hC hq rfl dX11_proof_75 a_le a_le (CP.ok (Or.inl ⟨hfcx, rfl, ⟨m0, M, P, S, hs9, hso, by rw [nI_clamp (by omega)]; exact prV_c (by first | assumption | exact Classical.not_not.mp (by assumption)) (by first | assumption | exact Classical.not_not.mp (by assumption))⟩, rfl⟩) hf9 hg9.gi)
      · show AW X 0 0 66 [some (.ref 0), some (.int (nI x1)), some (.long (P (iN m 57 (3 * x1)))), none, some (.long ((P (iN m 57 (3 * x1))) &&& ((sRng (iN m 57 (3 * x1 + 1)) (nI (iN m 57 (3 * x1 + 2)))) ^^^ (-1)))), none] [] T I9 J9 R9
        refine aw_iconst (v := (-1)) hC dX11_proof_66 (by decide) ?_
        refine aw_goto (tgt := 75) hC dX11_proof_67 (by decide) ?_
        exact aw_ireturn hC hq rfl dX11_proof_75 a_le a_le (CP.ok (Or.inl ⟨hfcx, rfl, ⟨m0, M, P, S, hs9, hso, by rw [nI_clamp (by omega)]; exact prV_b (by first | assumption | exact Classical.not_not.mp (by assumption)) (by first | assumption | exact Classical.not_not.mp (by assumption))⟩, rfl⟩) hf9 hg9.gi)
    · show AW X 0 0 42 [some (.ref 0), some (.int (nI x1)), some (.long (P (iN m 57 (3 * x1)))), none, none, none] [] T I9 J9 R9
      refine aw_bipush (v := (-2)) hC dX11_proof_42 (by decide) ?_
      exact aw_ireturn hC hq rfl dX11_proof_44 a_le a_le (CP.ok (Or.inl ⟨hfcx, rfl, ⟨m0, M, P, S, hs9, hso, by rw [nI_clamp (by omega)]; exact prV_a (by first | assumption | exact Classical.not_not.mp (by assumption))⟩, rfl⟩) hf9 hg9.gi)
