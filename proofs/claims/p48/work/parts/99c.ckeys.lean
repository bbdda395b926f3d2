theorem tg_ne {T : List aT} {x y : Nat} {t u : aT} (a : T[x]? = some t) (b : T[y]? = some u) (c : t ≠ u) : x ≠ y := fun e => by
  rw [e, b] at a; cases a; exact c rfl
/-- another generator's things -/
theorem CGn.ne5 {T : List aT} {I : aI} {R : aR} {m : aI} {g : Nat} {gq : Nat → Nat} (h : CGn T I R m g gq) {i a : Nat} (hi : i < g) (ha : a < g) : (i ≠ a → gq i ≠ gq a ∧ gq i + 1 ≠ gq a + 1 ∧ gq i + 2 ≠ gq a + 2) ∧ gq i + 1 ≠ gq a ∧ gq i + 2 ≠ gq a ∧ gq i ≠ gq a + 1 ∧ gq i + 2 ≠ gq a + 1 ∧ gq i ≠ gq a + 2 ∧ gq i + 1 ≠ gq a + 2 := by
  refine ⟨fun z => ?_, tg_ne (h.t1 hi) (h.tg ha) (by decide), tg_ne (h.t2 hi) (h.tg ha) (by decide), tg_ne (h.tg hi) (h.t1 ha) (by decide), tg_ne (h.t2 hi) (h.t1 ha) (by decide), tg_ne (h.tg hi) (h.t2 ha) (by decide), tg_ne (h.t1 hi) (h.t2 ha) (by decide)⟩
  have q : gq i ≠ gq a := fun e => z (h.2.2 i a hi ha e)
  omega
/-- keys and their number are put anew -/
theorem CEst.keys {T : List aT} {I : aI} {R : aR} {m : aI} {g r a n : Nat} {gq eq : Nat → Nat} (h : CEst T I R m g gq eq r) (hT : aPT T) (ha : a < g) {G H : Nat → Int32} (hin : ∀ k, k < 8 → G k = H (8 * a + k)) (hout : ∀ j, j / 8 ≠ a → H j = m 64 j) : CEst T (a_u (a_ur I (gq a + 1) G) (gq a) 2 (nI n)) R (a_u (a_ur m 64 H) 63 a (nI n)) g gq eq r := by
  have e : ∀ q, q ≠ 64 → q ≠ 63 → a_u (a_ur m 64 H) 63 a (nI n) q = m q := fun q u v => by rw [a_u_row v, a_ur_ne u]
  have e64 : ∀ j, a_u (a_ur m 64 H) 63 a (nI n) 64 j = H j := fun j => by rw [a_u_row (by decide), a_ur_self]
  have h95 := h.gn.ge hT ha
  have lo : ∀ o, o < 44 → a_u (a_ur I (gq a + 1) G) (gq a) 2 (nI n) o = I o := fun o ho => by rw [a_u_row (by omega), a_ur_ne (by omega)]
  refine ⟨⟨by rw [lo 19 (by decide)]; exact h.gn.1, fun i hi => ⟨h.gn.rf hi, ?_⟩, h.gn.2.2⟩, (h.ty.fr (fun o _ _ => lo o (by omega))).cgm (e 58 (by decide) (by decide)) (e 59 (by decide) (by decide)) (e 60 (by decide) (by decide)) (e 61 (by decide) (by decide)), ?_, ?_, by rw [lo 19 (by decide), e 44 (by decide) (by decide)]; exact h.sr, fun x hx => by rw [lo 26 (by decide), e 74 (by decide) (by decide)]; exact h.md hx⟩
  · have q := h.gn.at hi
    have d := h.gn.ne5 hi ha
    unfold GnAt at *
    rw [e 62 (by decide) (by decide), e 65 (by decide) (by decide)]
    by_cases c : i = a
    · subst c
      refine ⟨q.1, q.2.1, q.2.2.1, q.2.2.2.1, q.2.2.2.2.1, ?_, by rw [a_u_self, a_u_self], fun k hk => ?_, fun b hb => ?_⟩
      · rw [a_u_ne (fun z => absurd z.2 (by decide)), a_ur_ne d.2.2.2.1]; exact q.2.2.2.2.2.1
      · rw [a_u_row (by omega), a_ur_self, e64]; exact hin k hk
      · rw [a_u_row (by omega), a_ur_ne (by omega)]; exact q.2.2.2.2.2.2.2.2 b hb
    · have d1 := d.1 c
      have r0 : a_u (a_ur I (gq a + 1) G) (gq a) 2 (nI n) (gq i) = I (gq i) := by rw [a_u_row d1.1, a_ur_ne d.2.2.2.1]
      have r1 : a_u (a_ur I (gq a + 1) G) (gq a) 2 (nI n) (gq i + 1) = I (gq i + 1) := by rw [a_u_row d.2.1, a_ur_ne d1.2.1]
      have r2 : a_u (a_ur I (gq a + 1) G) (gq a) 2 (nI n) (gq i + 2) = I (gq i + 2) := by rw [a_u_row d.2.2.1, a_ur_ne d.2.2.2.2.1]
      rw [r0, r1, r2, a_u_ne (fun z => c z.2), a_ur_ne (show 63 ≠ 64 by decide)]
      refine ⟨q.1, q.2.1, q.2.2.1, q.2.2.2.1, q.2.2.2.2.1, q.2.2.2.2.2.1, q.2.2.2.2.2.2.1, fun k hk => ?_, q.2.2.2.2.2.2.2.2⟩
      rw [e64, hout _ (by omega)]; exact q.2.2.2.2.2.2.2.1 k hk
  · have q := h.rs
    unfold CRs at *
    rw [lo 19 (by decide), lo 22 (by decide), lo 23 (by decide), lo 24 (by decide), e 44 (by decide) (by decide), e 66 (by decide) (by decide), e 67 (by decide) (by decide), e 68 (by decide) (by decide)]
    exact q
  · refine CEn.cgm (m := m) ⟨fun x hx => ⟨fun h0 => h.en.no hx h0, fun h0 => ⟨h.en.rf hx h0, ?_⟩⟩, h.en.2⟩ (e 69 (by decide) (by decide)) (e 70 (by decide) (by decide)) (e 71 (by decide) (by decide)) (e 72 (by decide) (by decide)) (e 73 (by decide) (by decide))
    have q := h.en.at hx h0
    have t0 := h.en.tg hx h0
    have t1 := h.en.t1 hx h0
    have t2 := h.en.t2 hx h0
    have p0 := h.gn.tg ha
    have p1 := h.gn.t1 ha
    have r0 : a_u (a_ur I (gq a + 1) G) (gq a) 2 (nI n) (eq x) = I (eq x) := by rw [a_u_row (tg_ne t0 p0 (by decide)), a_ur_ne (tg_ne t0 p1 (by decide))]
    have r1 : a_u (a_ur I (gq a + 1) G) (gq a) 2 (nI n) (eq x + 1) = I (eq x + 1) := by rw [a_u_row (tg_ne t1 p0 (by decide)), a_ur_ne (tg_ne t1 p1 (by decide))]
    have r2 : a_u (a_ur I (gq a + 1) G) (gq a) 2 (nI n) (eq x + 2) = I (eq x + 2) := by rw [a_u_row (tg_ne t2 p0 (by decide)), a_ur_ne (tg_ne t2 p1 (by decide))]
    unfold EnAt at *
    rw [r0, r1, r2]; exact q
theorem MEs.keys {m : aI} {g r a n : Nat} (h : MEs m g r) (ha : a < g) (hn : n < 9) {H : Nat → Int32} (hout : ∀ j, j / 8 ≠ a → H j = m 64 j) : MEs (a_u (a_ur m 64 H) 63 a (nI n)) g r := by
  have e : ∀ q, q ≠ 64 → q ≠ 63 → a_u (a_ur m 64 H) 63 a (nI n) q = m q := fun q u v => by rw [a_u_row v, a_ur_ne u]
  obtain ⟨⟨i1, i2, i3, i4⟩, s1, s2, s3, s4⟩ := h
  refine ⟨⟨⟨i1.1, by rw [e 44 (by decide) (by decide)]; exact i1.2.1, (by have q := i1.2.2.1; unfold SO3 iN at *; rw [e 65 (by decide) (by decide)]; exact q), NR_cg (e 62 (by decide) (by decide)) i1.2.2.2.1, NR_cg (e 61 (by decide) (by decide)) i1.2.2.2.2.1, (NR_cg (a_ur_ne (by decide)) i1.2.2.2.2.2.1).put hn (by decide), (by have q := i1.2.2.2.2.2.2; unfold B01 at *; rw [e 71 (by decide) (by decide)]; exact q)⟩, i2.cgm (e 58 (by decide) (by decide)) (e 62 (by decide) (by decide)) (e 65 (by decide) (by decide)) (e 69 (by decide) (by decide)) (e 72 (by decide) (by decide)) (e 73 (by decide) (by decide)) (e 61 (by decide) (by decide)), i3.cgm (e 61 (by decide) (by decide)) (e 62 (by decide) (by decide)) (e 66 (by decide) (by decide)) (e 67 (by decide) (by decide)) (e 68 (by decide) (by decide)) (e 69 (by decide) (by decide)) (e 70 (by decide) (by decide)), i4.cgm (e 60 (by decide) (by decide)) (e 62 (by decide) (by decide)) (e 72 (by decide) (by decide))⟩, s1.cgm (e 58 (by decide) (by decide)) (e 62 (by decide) (by decide)) (e 65 (by decide) (by decide)) (e 69 (by decide) (by decide)) (e 70 (by decide) (by decide)), m74_cg s2 (e 74 (by decide) (by decide)) (Nat.le_refl _), m69_cg s3 (e 69 (by decide) (by decide)) (Nat.le_refl _), ⟨by rw [e 67 (by decide) (by decide)]; exact s4.1, fun i u v => ?_⟩⟩
  have q := s4.2 i u v
  refine ⟨?_, fun k hk => ?_, by rw [e 65 (by decide) (by decide)]; exact q.2.2⟩
  · rw [a_u_ne (fun z => by omega), a_ur_ne (by decide)]; exact q.1
  · rw [a_u_row (by decide), a_ur_self, hout _ (by omega)]; exact q.2.1 k hk
abbrev kyM (m : aI) (a y n : Nat) (z : Int32) : aI := a_u (a_ur m 64 (kIns (m 64) (8 * a) y n z)) 63 a (nI (n + 1))
abbrev kdM (m : aI) (a y n : Nat) : aI := a_u (a_ur m 64 (kDel (m 64) (8 * a) y n)) 63 a (nI (n - 1))
theorem kIns_o {f : Nat → Int32} {a y n j : Nat} {z : Int32} (hy : y ≤ n) (hn : n < 8) (h : j / 8 ≠ a) : kIns f (8 * a) y n z j = f j := by
  show (if j = 8 * a + y then z else if 8 * a + y < j ∧ j ≤ 8 * a + n then f (j - 1) else f j) = f j
  rw [if_neg (by omega), if_neg (by omega)]
theorem kIns_i {f F : Nat → Int32} {a y n k : Nat} {z : Int32} (hy : y ≤ n) (hn : n < 8) (hk : k < 8) (e : ∀ k, k < 8 → F k = f (8 * a + k)) : kI0 F y n z k = kIns f (8 * a) y n z (8 * a + k) := by
  show (if k = y then z else if y < k ∧ k ≤ n then F (k - 1) else F k) = (if 8 * a + k = 8 * a + y then z else if 8 * a + y < 8 * a + k ∧ 8 * a + k ≤ 8 * a + n then f (8 * a + k - 1) else f (8 * a + k))
  by_cases c : k = y
  · rw [if_pos c, if_pos (by omega)]
  · rw [if_neg c, if_neg (show ¬ (8 * a + k = 8 * a + y) by omega)]
    by_cases d : y < k ∧ k ≤ n
    · rw [if_pos d, if_pos (by omega), e _ (by omega), show 8 * a + (k - 1) = 8 * a + k - 1 by omega]
    · rw [if_neg d, if_neg (by omega), e _ hk]
theorem kDel_o {f : Nat → Int32} {a y n j : Nat} (hn : n ≤ 8) (h : j / 8 ≠ a) : kDel f (8 * a) y n j = f j := by
  show (if 8 * a + y ≤ j ∧ j + 1 < 8 * a + n then f (j + 1) else f j) = f j
  rw [if_neg (by omega)]
theorem kDel_i {f F : Nat → Int32} {a y n k : Nat} (hn : n ≤ 8) (hk : k < 8) (e : ∀ k, k < 8 → F k = f (8 * a + k)) : kD0 F y n k = kDel f (8 * a) y n (8 * a + k) := by
  show (if y ≤ k ∧ k + 1 < n then F (k + 1) else F k) = (if 8 * a + y ≤ 8 * a + k ∧ 8 * a + k + 1 < 8 * a + n then f (8 * a + k + 1) else f (8 * a + k))
  by_cases d : y ≤ k ∧ k + 1 < n
  · rw [if_pos d, if_pos (by omega), e _ (by omega)]; rfl
  · rw [if_neg d, if_neg (by omega), e _ hk]
theorem i_ltp {p : Int32} {n : Nat} (hn : n < 1000) (h : p ≤ nI n) : p < nI (n + 1) := by
  have e : (nI n).toInt = n := i_nl n (by omega)
  have f : (nI (n + 1)).toInt = (n + 1 : Nat) := i_nl (n + 1) (by omega)
  simp only [i_lt, i_le] at *; omega
theorem i_lep {p : Int32} {n : Nat} (hn : n < 1000) (h : p < nI (n + 1)) : p ≤ nI n := by
  have e : (nI n).toInt = n := i_nl n (by omega)
  have f : (nI (n + 1)).toInt = (n + 1 : Nat) := i_nl (n + 1) (by omega)
  simp only [i_lt, i_le] at *; omega
theorem i_lt16 {z : Int32} (h : z < 16) : z ≤ 15 := by simp only [i_lt, i_le, Int32.reduceToInt] at *; omega
theorem i_le15 {z : Int32} (h : z ≤ 15) : z < 16 := by simp only [i_lt, i_le, Int32.reduceToInt] at *; omega
set_option maxRecDepth 100000 in
theorem m_X11_key {T : List aT} {I : aI} {J : aJ} {R : aR} {m : aI} {c n : Nat} {sq : Nat → Nat} {g : Nat} {gq eq : Nat → Nat} {r p : Nat} {pq : Nat → Nat} {k : Nat} (h9 : G9 T I J R m c n sq g gq eq r p pq k) (x y z : Int32) : MX11_key 3 200 [.ref 0, .int x, .int y, .int z] T I J R (CP [exI, exA, exS] I J m c (fun k v m2 => (((0 ≤ x ∧ x < nI g) ∧ (0 ≤ y ∧ y ≤ nI (iN m 63 x.toNatClampNeg)) ∧ (0 ≤ z ∧ z ≤ 15) ∧ hkB m x.toNatClampNeg z = false ∧ iN m 63 x.toNatClampNeg < 8) ∧ k = 0 ∧ v = nI (iN m 63 x.toNatClampNeg + 1) ∧ m2 = kyM m x.toNatClampNeg y.toNatClampNeg (iN m 63 x.toNatClampNeg) z) ∨ (((0 ≤ x ∧ x < nI g) ∧ (0 ≤ y ∧ y ≤ nI (iN m 63 x.toNatClampNeg)) ∧ (0 ≤ z ∧ z ≤ 15) ∧ ¬ (hkB m x.toNatClampNeg z = false ∧ iN m 63 x.toNatClampNeg < 8)) ∧ k = 3 ∧ m2 = m) ∨ (((0 ≤ x ∧ x < nI g) ∧ (0 ≤ y ∧ y ≤ nI (iN m 63 x.toNatClampNeg)) ∧ ¬ (0 ≤ z ∧ z ≤ 15)) ∧ k = 2 ∧ m2 = m) ∨ (¬ ((0 ≤ x ∧ x < nI g) ∧ (0 ≤ y ∧ y ≤ nI (iN m 63 x.toNatClampNeg))) ∧ k = 1 ∧ m2 = m))) := by
  refine a_met (by decide +kernel) a_le (fun X hC hq => ?_)
  show AW X 0 0 0 [some (.ref 0), some (.int x), some (.int y), some (.int z), none] [] T I J R
  have hT := h9.hT
  have hR := h9.hR
  have hG := h9.ces.gn
  have hg := h9.es.1.1
  have hg4 := hg.g4
  have hgn := hG.1
  have hE := h9.ces.en
  have hRs := h9.ces.rs
  have hr60 := hRs.r60
  have hY := h9.ces.ty
  refine aw_iload_n hC dX11_key_0 rfl ?_
  refine aw_aload_n hC dX11_key_1 rfl ?_
  refine aw_getR hC dX11_key_2 aF_X11_28 rfl (tg_0 hT) (pr_0_2 hR) ?_
  refine aw_getI hC dX11_key_5 aF_X11_213 rfl (tg_19 hT) ?_
  rw [hgn]
  refine kX11_64 hC rfl (m_X11_isBelow x (nI g)) dX11_key_8 rfl a_le a_le a_le a_le a_le rfl aPure_x (aPure_k ?_)
  show AW X 0 0 11 [some (.ref 0), some (.int x), some (.int y), some (.int z), none] [.int (bI (decide (0 ≤ x ∧ x < (nI g))))] T I J R
  by_cases hn1 : bI (decide (0 ≤ x ∧ x < (nI g))) = 0
  · rw [hn1]
    exact kX11_68 hC rfl (m_X11_needIndexF (T := T) (I := I) (J := J) (R := R)) dX11_key_11 rfl a_le a_le a_le a_le a_le rfl (aTh_x (ae_out hC hq a_le a_le (CP.th (j := 0) rfl (Or.inr (Or.inr (Or.inr ⟨fun q => absurd q.1 (of_decide_eq_false (bI_e0.mp (by assumption))), rfl, rfl⟩))) h9.gi))) aTh_k
  · refine kX11_68 hC rfl (m_X11_needIndexT (T := T) (I := I) (J := J) (R := R) (x := bI (decide (0 ≤ x ∧ x < (nI g)))) hn1) dX11_key_11 rfl a_le a_le a_le a_le a_le rfl aPure_x (aPure_k ?_)
    show AW X 0 0 14 [some (.ref 0), some (.int x), some (.int y), some (.int z), none] [] T I J R
    have hfcx : 0 ≤ x ∧ x < nI (g) := of_decide_eq_true (bI_n0.mp (by assumption))
    obtain ⟨x1, hx1, ex1⟩ := i_nat (x := x) (b := g) hfcx.1 hfcx.2 rfl (by first | decide | omega)
    subst ex1
    have h63r := hg.2.2.2.2.2.1 x1 (by omega)
    have h63 := h63r.1
    have h638 := h63r.2
    show AW X 0 0 14 [some (.ref 0), some (.int (nI x1)), some (.int y), some (.int z), none] [] T I J R
    refine aw_aload_n hC dX11_key_14 rfl ?_
    refine aw_getR hC dX11_key_15 aF_X11_28 rfl (tg_0 hT) (pr_0_2 hR) ?_
    refine aw_getR hC dX11_key_18 aF_X11_219 rfl (tg_19 hT) (pr_19_1 hR) ?_
    refine aw_iload_n hC dX11_key_21 rfl ?_
    refine aw_aaloadR_k (j := x1) hC dX11_key_22 (tg_21 hT) (nI_clamp (by omega)) (vp_in_nI (by omega) (by decide)) (hG.rf hx1) ?_
    refine aw_astore (L2 := [some (.ref 0), some (.int (nI x1)), some (.int y), some (.int z), some (.ref (gq x1))]) hC dX11_key_23 (by decide) rfl ?_
    refine aw_iload_n hC dX11_key_25 rfl ?_
    refine aw_iconst (v := 0) hC dX11_key_26 (by decide) ?_
    refine aw_aload hC dX11_key_27 rfl ?_
    refine aw_getI hC dX11_key_29 aF_X11_223 rfl (hG.tg hx1) ?_
    rw [((hG.kc hx1).trans h63)]
    refine kX11_126 hC rfl (m_X11_isWithin y (0 : Int32) (nI (iN m 63 x1))) dX11_key_32 rfl a_le a_le a_le a_le a_le rfl aPure_x (aPure_k ?_)
    show AW X 0 0 35 [some (.ref 0), some (.int (nI x1)), some (.int y), some (.int z), some (.ref (gq x1))] [.int (bI (decide ((0 : Int32) ≤ y ∧ y ≤ (nI (iN m 63 x1)))))] T I J R
    by_cases hn2 : bI (decide ((0 : Int32) ≤ y ∧ y ≤ (nI (iN m 63 x1)))) = 0
    · rw [hn2]
      exact kX11_68 hC rfl (m_X11_needIndexF (T := T) (I := I) (J := J) (R := R)) dX11_key_35 rfl a_le a_le a_le a_le a_le rfl (aTh_x (ae_out hC hq a_le a_le (CP.th (j := 0) rfl (Or.inr (Or.inr (Or.inr ⟨fun q => absurd (show 0 ≤ y ∧ y ≤ nI (iN m 63 x1) from ⟨q.2.1, by have q9 := q.2.2; rw [nI_clamp (show x1 < 2 ^ 31 by omega)] at q9; exact q9⟩) (of_decide_eq_false (bI_e0.mp (by assumption))), rfl, rfl⟩))) h9.gi))) aTh_k
    · refine kX11_68 hC rfl (m_X11_needIndexT (T := T) (I := I) (J := J) (R := R) (x := bI (decide ((0 : Int32) ≤ y ∧ y ≤ (nI (iN m 63 x1))))) hn2) dX11_key_35 rfl a_le a_le a_le a_le a_le rfl aPure_x (aPure_k ?_)
      show AW X 0 0 38 [some (.ref 0), some (.int (nI x1)), some (.int y), some (.int z), some (.ref (gq x1))] [] T I J R
      have hfcy : 0 ≤ y ∧ y ≤ nI (iN m 63 x1) := of_decide_eq_true (bI_n0.mp (by assumption))
      obtain ⟨y1, hy1, ey1⟩ := i_nat (x := y) (b := iN m 63 x1 + 1) hfcy.1 (i_ltp (by omega) hfcy.2) rfl (by omega)
      subst ey1
      have hy1n : y1 ≤ iN m 63 x1 := by omega
      show AW X 0 0 38 [some (.ref 0), some (.int (nI x1)), some (.int (nI y1)), some (.int z), some (.ref (gq x1))] [] T I J R
      refine aw_iload_n hC dX11_key_38 rfl ?_
      refine aw_bipush (v := 16) hC dX11_key_39 (by decide) ?_
      refine kX11_64 hC rfl (m_X11_isBelow z (16 : Int32)) dX11_key_41 rfl a_le a_le a_le a_le a_le rfl aPure_x (aPure_k ?_)
      show AW X 0 0 44 [some (.ref 0), some (.int (nI x1)), some (.int (nI y1)), some (.int z), some (.ref (gq x1))] [.int (bI (decide (0 ≤ z ∧ z < (16 : Int32))))] T I J R
      by_cases hn3 : bI (decide (0 ≤ z ∧ z < (16 : Int32))) = 0
      · rw [hn3]
        exact kX11_130 hC rfl (m_X11_needArgumentF (T := T) (I := I) (J := J) (R := R)) dX11_key_44 rfl a_le a_le a_le a_le a_le rfl (aTh_x (ae_out hC hq a_le a_le (CP.th (j := 1) rfl (Or.inr (Or.inr (Or.inl ⟨⟨hfcx, ⟨hfcy.1, by rw [nI_clamp (show x1 < 2 ^ 31 by omega)]; exact hfcy.2⟩, fun q => absurd (show 0 ≤ z ∧ z < 16 from ⟨q.1, i_le15 q.2⟩) (of_decide_eq_false (bI_e0.mp (by assumption)))⟩, rfl, rfl⟩))) h9.gi))) aTh_k
      · refine kX11_130 hC rfl (m_X11_needArgumentT (T := T) (I := I) (J := J) (R := R) (x := bI (decide (0 ≤ z ∧ z < (16 : Int32)))) hn3) dX11_key_44 rfl a_le a_le a_le a_le a_le rfl aPure_x (aPure_k ?_)
        show AW X 0 0 47 [some (.ref 0), some (.int (nI x1)), some (.int (nI y1)), some (.int z), some (.ref (gq x1))] [] T I J R
        have hzc : 0 ≤ z ∧ z < 16 := of_decide_eq_true (bI_n0.mp (by assumption))
        refine aw_aload hC dX11_key_47 rfl ?_
        refine aw_iload_n hC dX11_key_49 rfl ?_
        refine kX11_228 hC rfl (m_X5_hasKey (hG.tg hx1) (hG.r1 hx1) (hG.t1 hx1) (n := iN m 63 x1) ((hG.kc hx1).trans h63) (by omega) z) dX11_key_50 (hG.tg hx1) rfl a_le a_le a_le a_le a_le rfl aPure_x (aPure_k ?_)
        show AW X 0 0 53 [some (.ref 0), some (.int (nI x1)), some (.int (nI y1)), some (.int z), some (.ref (gq x1))] [.int (bI (hasIn (I (gq x1 + 1)) (iN m 63 x1) z))] T I J R
        refine aw_if_ne (tgt := 70) hC dX11_key_53 (by decide) (fun h4 => ?_) (fun h4 => ?_)
        · show AW X 0 0 70 [some (.ref 0), some (.int (nI x1)), some (.int (nI y1)), some (.int z), some (.ref (gq x1))] [] T I J R
          refine aw_iconst (v := 0) hC dX11_key_70 (by decide) ?_
          exact kX11_88 hC rfl (m_X11_needStateF (T := T) (I := I) (J := J) (R := R)) dX11_key_71 rfl a_le a_le a_le a_le a_le rfl (aTh_x (ae_out hC hq a_le a_le (CP.th (j := 2) rfl (Or.inr (Or.inl ⟨⟨hfcx, ⟨hfcy.1, by rw [nI_clamp (show x1 < 2 ^ 31 by omega)]; exact hfcy.2⟩, ⟨hzc.1, i_lt16 hzc.2⟩, by rw [nI_clamp (show x1 < 2 ^ 31 by omega)]; exact fun q => by first | (rw [← hk_gen hG hg hx1] at q; exact absurd (bI_e0.mpr q.1) (by assumption)) | omega⟩, rfl, rfl⟩)) h9.gi))) aTh_k
        · show AW X 0 0 56 [some (.ref 0), some (.int (nI x1)), some (.int (nI y1)), some (.int z), some (.ref (gq x1))] [] T I J R
          refine aw_aload hC dX11_key_56 rfl ?_
          refine aw_getI hC dX11_key_58 aF_X11_223 rfl (hG.tg hx1) ?_
          rw [((hG.kc hx1).trans h63)]
          refine aw_bipush (v := 8) hC dX11_key_61 (by decide) ?_
          refine aw_icmp_ge (tgt := 70) hC dX11_key_63 (by decide) (fun h5 => ?_) (fun h5 => ?_)
          · show AW X 0 0 70 [some (.ref 0), some (.int (nI x1)), some (.int (nI y1)), some (.int z), some (.ref (gq x1))] [] T I J R
            have h5n : 8 ≤ (iN m 63 x1) := (nI_leI (a := 8) (b := (iN m 63 x1)) (by omega) (by omega)).mp h5
            refine aw_iconst (v := 0) hC dX11_key_70 (by decide) ?_
            exact kX11_88 hC rfl (m_X11_needStateF (T := T) (I := I) (J := J) (R := R)) dX11_key_71 rfl a_le a_le a_le a_le a_le rfl (aTh_x (ae_out hC hq a_le a_le (CP.th (j := 2) rfl (Or.inr (Or.inl ⟨⟨hfcx, ⟨hfcy.1, by rw [nI_clamp (show x1 < 2 ^ 31 by omega)]; exact hfcy.2⟩, ⟨hzc.1, i_lt16 hzc.2⟩, by rw [nI_clamp (show x1 < 2 ^ 31 by omega)]; exact fun q => by first | (rw [← hk_gen hG hg hx1] at q; exact absurd (bI_e0.mpr q.1) (by assumption)) | omega⟩, rfl, rfl⟩)) h9.gi))) aTh_k
          · show AW X 0 0 66 [some (.ref 0), some (.int (nI x1)), some (.int (nI y1)), some (.int z), some (.ref (gq x1))] [] T I J R
            have h5n : ¬ 8 ≤ (iN m 63 x1) := fun q9 => h5 ((nI_leI (a := 8) (b := (iN m 63 x1)) (by omega) (by omega)).mpr q9)
            refine aw_iconst (v := 1) hC dX11_key_66 (by decide) ?_
            refine aw_goto (tgt := 71) hC dX11_key_67 (by decide) ?_
            refine kX11_88 hC rfl (m_X11_needStateT (T := T) (I := I) (J := J) (R := R) (x := 1) (by decide)) dX11_key_71 rfl a_le a_le a_le a_le a_le rfl aPure_x (aPure_k ?_)
            show AW X 0 0 74 [some (.ref 0), some (.int (nI x1)), some (.int (nI y1)), some (.int z), some (.ref (gq x1))] [] T I J R
            refine aw_aload hC dX11_key_74 rfl ?_
            refine aw_iload_n hC dX11_key_76 rfl ?_
            refine aw_iload_n hC dX11_key_77 rfl ?_
            refine kX11_231 hC rfl (m_X5_putKey (hG.tg hx1) (hG.r1 hx1) (hG.t1 hx1) (n := iN m 63 x1) ((hG.kc hx1).trans h63) hy1n (by omega) z) dX11_key_78 (hG.tg hx1) rfl a_le a_le a_le a_le a_le rfl aPure_x (aPure_k ?_)
            show AW X 0 0 81 [some (.ref 0), some (.int (nI x1)), some (.int (nI y1)), some (.int z), some (.ref (gq x1))] [] T (a_u (a_ur I (gq x1 + 1) (kI0 (I (gq x1 + 1)) y1 (iN m 63 x1) z)) (gq x1) 2 (nI (iN m 63 x1 + 1))) J R
            refine aw_aload hC dX11_key_81 rfl ?_
            refine aw_getI hC dX11_key_83 aF_X11_223 rfl (hG.tg hx1) ?_
            rw [a_u_self (f := a_ur I (gq x1 + 1) (kI0 (I (gq x1 + 1)) y1 (iN m 63 x1) z)) (o := (gq x1)) (k := 2) (v := nI (iN m 63 x1 + 1))]
            exact aw_ireturn hC hq rfl dX11_key_86 a_le a_le (CP.ok (Or.inl ⟨⟨hfcx, ⟨hfcy.1, by rw [nI_clamp (show x1 < 2 ^ 31 by omega)]; exact hfcy.2⟩, ⟨hzc.1, i_lt16 hzc.2⟩, by rw [nI_clamp (show x1 < 2 ^ 31 by omega)]; rw [← hk_gen hG hg hx1]; exact bI_e0.mp (by assumption), by rw [nI_clamp (show x1 < 2 ^ 31 by omega)]; omega⟩, rfl, by rw [nI_clamp (show x1 < 2 ^ 31 by omega)], by rw [nI_clamp (show x1 < 2 ^ 31 by omega)]; rw [nI_clamp (show y1 < 2 ^ 31 by omega)]⟩) (fun o u v => ⟨by have := hG.ge hT hx1; rw [a_u_row (by omega), a_ur_ne (by omega)], rfl⟩) (h9.est (S := fun o => o = gq x1 ∨ o = gq x1 + 1) (List.prefix_refl _) (fun o _ _ z => by rw [a_u_row (fun w => z (Or.inl w)), a_ur_ne (fun w => z (Or.inr w))]) (fun _ _ _ _ => rfl) (fun o z => Or.inr ⟨by have := hG.ge hT hx1; omega, by rcases z with w | w; (exact ⟨gq x1, 0, by decide, w, hG.tg hx1, fun v => absurd v (by decide), fun v => absurd v (by decide)⟩); (exact ⟨gq x1, 1, by decide, w, hG.tg hx1, fun _ => ⟨_, hG.t1 hx1⟩, fun v => absurd v (by decide)⟩)⟩) h9.hR (h9.ces.keys hT hx1 (fun k hk => kIns_i hy1n (by omega) hk (fun k hk => hG.ks hx1 hk)) (fun j hj => kIns_o hy1n (by omega) hj)) (h9.es.keys hx1 (by omega) (fun j hj => kIns_o hy1n (by omega) hj)) (Nat.le_refl _) (Nat.le_refl _) (fun o z => by rw [a_u_row (by omega), a_ur_ne (by omega)]) (fun k _ _ _ => by rw [a_u_row (by decide), a_ur_ne (by decide)]) (fun _ x _ z => by rw [a_u_row (by decide), a_ur_ne (by decide)]; exact z)).gi)
theorem a_ur_u_sw {f : Nat → Nat → Int32} {a b k : Nat} {v : Int32} {G : Nat → Int32} (h : a ≠ b) : a_ur (a_u f a k v) b G = a_u (a_ur f b G) a k v := by
  funext o p
  by_cases c : o = b
  · rw [c, a_ur_self, a_u_row (Ne.symm h), a_ur_self]
  · rw [a_ur_ne c]
    by_cases d : o = a
    · rw [d]
      by_cases e : p = k
      · rw [e, a_u_self, a_u_self]
      · rw [a_u_ne (fun z => e z.2), a_u_ne (fun z => e z.2), a_ur_ne h]
    · rw [a_u_row d, a_u_row d, a_ur_ne c]
set_option maxRecDepth 100000 in
theorem m_X11_unkey {T : List aT} {I : aI} {J : aJ} {R : aR} {m : aI} {c n : Nat} {sq : Nat → Nat} {g : Nat} {gq eq : Nat → Nat} {r p : Nat} {pq : Nat → Nat} {k : Nat} (h9 : G9 T I J R m c n sq g gq eq r p pq k) (x y : Int32) : MX11_unkey 3 200 [.ref 0, .int x, .int y] T I J R (CP [exI] I J m c (fun k v m2 => (((0 ≤ x ∧ x < nI g) ∧ (0 ≤ y ∧ y < nI (iN m 63 x.toNatClampNeg))) ∧ k = 0 ∧ v = m 64 (8 * x.toNatClampNeg + y.toNatClampNeg) ∧ m2 = kdM m x.toNatClampNeg y.toNatClampNeg (iN m 63 x.toNatClampNeg)) ∨ (¬ ((0 ≤ x ∧ x < nI g) ∧ (0 ≤ y ∧ y < nI (iN m 63 x.toNatClampNeg))) ∧ k = 1 ∧ m2 = m))) := by
  refine a_met (by decide +kernel) a_le (fun X hC hq => ?_)
  show AW X 0 0 0 [some (.ref 0), some (.int x), some (.int y), none] [] T I J R
  have hT := h9.hT
  have hR := h9.hR
  have hG := h9.ces.gn
  have hg := h9.es.1.1
  have hg4 := hg.g4
  have hgn := hG.1
  have hE := h9.ces.en
  have hRs := h9.ces.rs
  have hr60 := hRs.r60
  have hY := h9.ces.ty
  refine aw_iload_n hC dX11_unkey_0 rfl ?_
  refine aw_aload_n hC dX11_unkey_1 rfl ?_
  refine aw_getR hC dX11_unkey_2 aF_X11_28 rfl (tg_0 hT) (pr_0_2 hR) ?_
  refine aw_getI hC dX11_unkey_5 aF_X11_213 rfl (tg_19 hT) ?_
  rw [hgn]
  refine kX11_64 hC rfl (m_X11_isBelow x (nI g)) dX11_unkey_8 rfl a_le a_le a_le a_le a_le rfl aPure_x (aPure_k ?_)
  show AW X 0 0 11 [some (.ref 0), some (.int x), some (.int y), none] [.int (bI (decide (0 ≤ x ∧ x < (nI g))))] T I J R
  by_cases hn1 : bI (decide (0 ≤ x ∧ x < (nI g))) = 0
  · rw [hn1]
    exact kX11_68 hC rfl (m_X11_needIndexF (T := T) (I := I) (J := J) (R := R)) dX11_unkey_11 rfl a_le a_le a_le a_le a_le rfl (aTh_x (ae_out hC hq a_le a_le (CP.th (j := 0) rfl (Or.inr ⟨fun q => absurd q.1 (of_decide_eq_false (bI_e0.mp (by assumption))), rfl, rfl⟩) h9.gi))) aTh_k
  · refine kX11_68 hC rfl (m_X11_needIndexT (T := T) (I := I) (J := J) (R := R) (x := bI (decide (0 ≤ x ∧ x < (nI g)))) hn1) dX11_unkey_11 rfl a_le a_le a_le a_le a_le rfl aPure_x (aPure_k ?_)
    show AW X 0 0 14 [some (.ref 0), some (.int x), some (.int y), none] [] T I J R
    have hfcx : 0 ≤ x ∧ x < nI (g) := of_decide_eq_true (bI_n0.mp (by assumption))
    obtain ⟨x1, hx1, ex1⟩ := i_nat (x := x) (b := g) hfcx.1 hfcx.2 rfl (by first | decide | omega)
    subst ex1
    have h63r := hg.2.2.2.2.2.1 x1 (by omega)
    have h63 := h63r.1
    have h638 := h63r.2
    show AW X 0 0 14 [some (.ref 0), some (.int (nI x1)), some (.int y), none] [] T I J R
    refine aw_aload_n hC dX11_unkey_14 rfl ?_
    refine aw_getR hC dX11_unkey_15 aF_X11_28 rfl (tg_0 hT) (pr_0_2 hR) ?_
    refine aw_getR hC dX11_unkey_18 aF_X11_219 rfl (tg_19 hT) (pr_19_1 hR) ?_
    refine aw_iload_n hC dX11_unkey_21 rfl ?_
    refine aw_aaloadR_k (j := x1) hC dX11_unkey_22 (tg_21 hT) (nI_clamp (by omega)) (vp_in_nI (by omega) (by decide)) (hG.rf hx1) ?_
    refine aw_astore_n (L2 := [some (.ref 0), some (.int (nI x1)), some (.int y), some (.ref (gq x1))]) hC dX11_unkey_23 rfl (by decide) rfl ?_
    refine aw_iload_n hC dX11_unkey_24 rfl ?_
    refine aw_aload_n hC dX11_unkey_25 rfl ?_
    refine aw_getI hC dX11_unkey_26 aF_X11_223 rfl (hG.tg hx1) ?_
    rw [((hG.kc hx1).trans h63)]
    refine kX11_64 hC rfl (m_X11_isBelow y (nI (iN m 63 x1))) dX11_unkey_29 rfl a_le a_le a_le a_le a_le rfl aPure_x (aPure_k ?_)
    show AW X 0 0 32 [some (.ref 0), some (.int (nI x1)), some (.int y), some (.ref (gq x1))] [.int (bI (decide (0 ≤ y ∧ y < (nI (iN m 63 x1)))))] T I J R
    by_cases hn2 : bI (decide (0 ≤ y ∧ y < (nI (iN m 63 x1)))) = 0
    · rw [hn2]
      exact kX11_68 hC rfl (m_X11_needIndexF (T := T) (I := I) (J := J) (R := R)) dX11_unkey_32 rfl a_le a_le a_le a_le a_le rfl (aTh_x (ae_out hC hq a_le a_le (CP.th (j := 0) rfl (Or.inr ⟨fun q => absurd (show 0 ≤ y ∧ y < nI (iN m 63 x1) from ⟨q.2.1, by have q9 := q.2.2; rw [nI_clamp (show x1 < 2 ^ 31 by omega)] at q9; exact q9⟩) (of_decide_eq_false (bI_e0.mp (by assumption))), rfl, rfl⟩) h9.gi))) aTh_k
    · refine kX11_68 hC rfl (m_X11_needIndexT (T := T) (I := I) (J := J) (R := R) (x := bI (decide (0 ≤ y ∧ y < (nI (iN m 63 x1))))) hn2) dX11_unkey_32 rfl a_le a_le a_le a_le a_le rfl aPure_x (aPure_k ?_)
      show AW X 0 0 35 [some (.ref 0), some (.int (nI x1)), some (.int y), some (.ref (gq x1))] [] T I J R
      have hfcy : 0 ≤ y ∧ y < nI ((iN m 63 x1)) := of_decide_eq_true (bI_n0.mp (by assumption))
      obtain ⟨y1, hy1, ey1⟩ := i_nat (x := y) (b := (iN m 63 x1)) hfcy.1 hfcy.2 rfl (by first | decide | omega)
      subst ey1
      show AW X 0 0 35 [some (.ref 0), some (.int (nI x1)), some (.int (nI y1)), some (.ref (gq x1))] [] T I J R
      refine aw_aload_n hC dX11_unkey_35 rfl ?_
      refine aw_iload_n hC dX11_unkey_36 rfl ?_
      refine kX11_235 hC rfl (m_X5_takeKey (hG.tg hx1) (hG.r1 hx1) (hG.t1 hx1) (n := iN m 63 x1) ((hG.kc hx1).trans h63) hy1 (by omega)) dX11_unkey_37 (hG.tg hx1) rfl a_le a_le a_le a_le a_le rfl aPure_x (aPure_k ?_)
      rw [show a_ur (a_u I (gq x1) 2 (nI (iN m 63 x1 - 1))) (gq x1 + 1) (kD0 (I (gq x1 + 1)) y1 (iN m 63 x1)) = a_u (a_ur I (gq x1 + 1) (kD0 (I (gq x1 + 1)) y1 (iN m 63 x1))) (gq x1) 2 (nI (iN m 63 x1 - 1)) from a_ur_u_sw (by omega)]
      show AW X 0 0 40 [some (.ref 0), some (.int (nI x1)), some (.int (nI y1)), some (.ref (gq x1))] [.int (I (gq x1 + 1) y1)] T (a_u (a_ur I (gq x1 + 1) (kD0 (I (gq x1 + 1)) y1 (iN m 63 x1))) (gq x1) 2 (nI (iN m 63 x1 - 1))) J R
      rw [(hG.ks hx1 (by omega))]
      exact aw_ireturn hC hq rfl dX11_unkey_40 a_le a_le (CP.ok (Or.inl ⟨⟨hfcx, hfcy.1, by rw [nI_clamp (show x1 < 2 ^ 31 by omega)]; exact hfcy.2⟩, rfl, by rw [nI_clamp (show x1 < 2 ^ 31 by omega)]; rw [nI_clamp (show y1 < 2 ^ 31 by omega)], by rw [nI_clamp (show x1 < 2 ^ 31 by omega)]; rw [nI_clamp (show y1 < 2 ^ 31 by omega)]⟩) (fun o u v => ⟨by have := hG.ge hT hx1; rw [a_u_row (by omega), a_ur_ne (by omega)], rfl⟩) (h9.est (S := fun o => o = gq x1 ∨ o = gq x1 + 1) (List.prefix_refl _) (fun o _ _ z => by rw [a_u_row (fun w => z (Or.inl w)), a_ur_ne (fun w => z (Or.inr w))]) (fun _ _ _ _ => rfl) (fun o z => Or.inr ⟨by have := hG.ge hT hx1; omega, by rcases z with w | w; (exact ⟨gq x1, 0, by decide, w, hG.tg hx1, fun v => absurd v (by decide), fun v => absurd v (by decide)⟩); (exact ⟨gq x1, 1, by decide, w, hG.tg hx1, fun _ => ⟨_, hG.t1 hx1⟩, fun v => absurd v (by decide)⟩)⟩) h9.hR (h9.ces.keys hT hx1 (fun k hk => kDel_i (by omega) hk (fun k hk => hG.ks hx1 hk)) (fun j hj => kDel_o (by omega) hj)) (h9.es.keys hx1 (by omega) (fun j hj => kDel_o (by omega) hj)) (Nat.le_refl _) (Nat.le_refl _) (fun o z => by rw [a_u_row (by omega), a_ur_ne (by omega)]) (fun k _ _ _ => by rw [a_u_row (by decide), a_ur_ne (by decide)]) (fun _ x _ z => by rw [a_u_row (by decide), a_ur_ne (by decide)]; exact z)).gi)
