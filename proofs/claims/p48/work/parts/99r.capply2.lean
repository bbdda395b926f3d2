theorem sCmp_en {I : aI} {J : aJ} {x : Nat} (h : sCmp I J x = 2 ∨ sCmp I J x = 3 ∨ sCmp I J x = 4) : 0 < I 69 x := by
  by_cases zc : 0 < I 69 x
  · exact zc
  · exfalso
    have e : sCmp I J x = 0 ∨ sCmp I J x = 1 := by
      unfold sCmp
      by_cases zd : sKept I x = false
      · rw [if_pos zd, if_neg zc]; exact Or.inl rfl
      · rw [if_neg zd, if_pos zc]; exact Or.inr rfl
    rcases e with e | e <;> rw [e] at h <;> exact absurd h (by decide)
theorem PlQ.en {m : aI} {n g : Nat} {l : List Nat} (h : PlQ m n g (some l)) (hg : g ≤ 4) : ∀ a, a ∈ l → (a / 100 = 2 ∨ a / 100 = 3) → m 69 (a % 100) ≠ 0 := by
  obtain ⟨m0, M, P, S, mj, w, zz1, zz2, zz3, zz4, zz5⟩ := h
  rcases zz5 with zz6 | zz6
  · cases zz6.2
  · obtain ⟨zz7, zzN, zzG, zz8, zz9⟩ := zz6
    cases zz9
    intro a ha hw e
    have q := allA_m (n := 16 * g) (by omega) ha
    have q2 := q.2.2 hw
    rw [a_ur_self, (zz8 _ q.1).1] at q2
    have q3 := sCmp_en q2
    rw [a_ur_ne (by decide), gst_lo (by decide) (by decide), e] at q3
    exact absurd q3 (by decide)
abbrev apB (m : aI) (x : Nat) : aI := a_ur (a_ur (a_u (a_u (a_u (a_u m 78 x 1) 44 43 (nI x)) 44 44 0) 44 45 (m 44 13 + 3)) 81 (apR 64 (m 81))) 82 (apR 64 (m 82))
theorem apB_o {m : aI} {x q : Nat} (h : q ≠ 78) (h1 : q ≠ 44) (h2 : q ≠ 81) (h3 : q ≠ 82) : apB m x q = m q := by unfold apB; rw [a_ur_ne h3, a_ur_ne h2, a_u_row h1, a_u_row h1, a_u_row h1, a_u_row h]
theorem apB_4 {m : aI} {x j : Nat} (h : j ≠ 43) (h1 : j ≠ 44) (h2 : j ≠ 45) : apB m x 44 j = m 44 j := by unfold apB; rw [a_ur_ne (by decide), a_ur_ne (by decide), a_u_ne (fun z => h2 z.2), a_u_ne (fun z => h1 z.2), a_u_ne (fun z => h z.2), a_u_row (by decide)]
theorem apB_43 {m : aI} {x : Nat} : apB m x 44 43 = nI x := by unfold apB; rw [a_ur_ne (by decide), a_ur_ne (by decide), a_u_ne (fun z => absurd z.2 (by decide)), a_u_ne (fun z => absurd z.2 (by decide)), a_u_self]
theorem apB_44 {m : aI} {x : Nat} : apB m x 44 44 = 0 := by unfold apB; rw [a_ur_ne (by decide), a_ur_ne (by decide), a_u_ne (fun z => absurd z.2 (by decide)), a_u_self]
theorem apB_45 {m : aI} {x : Nat} : apB m x 44 45 = m 44 13 + 3 := by unfold apB; rw [a_ur_ne (by decide), a_ur_ne (by decide), a_u_self]
theorem apB_78 {m : aI} {x j : Nat} : apB m x 78 j = if j = x then 1 else m 78 j := by
  unfold apB; rw [a_ur_ne (by decide), a_ur_ne (by decide), a_u_row (by decide), a_u_row (by decide), a_u_row (by decide)]
  by_cases zc : j = x
  · rw [if_pos zc, zc, a_u_self]
  · rw [if_neg zc, a_u_ne (fun z => zc z.2)]
theorem apB_81 {m : aI} {x : Nat} : apB m x 81 = apR 64 (m 81) := by unfold apB; rw [a_ur_ne (by decide), a_ur_self]
theorem apB_82 {m : aI} {x : Nat} : apB m x 82 = apR 64 (m 82) := by unfold apB; rw [a_ur_self]
/-- what a plan that can be applied still finds -/
theorem hasA_en {m : aI} {n g x : Nat} {l : List Nat} (hg : g ≤ 4) (hA : PlQ m n g (some l)) (hh : hasA m x (some l) = true) : ∀ k, k < iN m 79 x → (acW m x k = 2 ∨ acW m x k = 3) → m 69 (acN m x k) ≠ 0 := by
  intro k hk hw
  have h2 : allB (fun i => anyB (fun k => decide (nI (l.getD k 0) = m 80 (128 * x + i))) l.length) (iN m 79 x) = true := hh
  have h3 := allB_iff.mp h2 k hk
  obtain ⟨j, hj, e⟩ := anyB_iff.mp h3
  have e2 : nI (l.getD j 0) = m 80 (128 * x + k) := of_decide_eq_true e
  have hm := gD_mem hj
  have hb := (hA.ok hg).2.1 _ hm
  have e3 : iN m 80 (128 * x + k) = l.getD j 0 := by unfold iN; rw [← e2, nI_clamp (by omega)]
  unfold acN
  unfold acW at hw
  rw [e3] at hw ⊢
  exact hA.en hg _ hm hw
theorem bg_g9 {T : List aT} {I : aI} {J : aJ} {R : aR} {m : aI} {c n : Nat} {sq : Nat → Nat} {g : Nat} {gq eq : Nat → Nat} {r p : Nat} {pq : Nat → Nat} {k : Nat} (h9 : G9 T I J R m c n sq g gq eq r p pq k) {x : Nat} (hx : x < p) (hc : c ≤ 1000) (h0 : 0 < iN m 79 x) (hu : m 44 45 < 0) (hen : ∀ k, k < iN m 79 x → (acW m x k = 2 ∨ acW m x k = 3) → m 69 (acN m x k) ≠ 0) : G9 T (a_fill (a_fill (a_u (a_u (a_u (a_u I (pq x) 4 1) 38 4 0) 38 0 1) 38 5 (m 44 13 + 3)) 40 64 (fun _ => (-1))) 39 64 (fun _ => 0)) J (a_u R 38 3 (some (pq x))) (apB m x) c n sq g gq eq r p pq k := by
  have hT := h9.hT
  have h95 := hT.len
  have t := (h9.cpl.2 x hx).2.1
  have q95 := (h9.cpl.pq hT hx).1.2.2
  have ea : ∀ q, q ≠ 78 → q ≠ 44 → q ≠ 81 → q ≠ 82 → apB m x q = m q := fun q z1 z2 z3 z4 => apB_o z1 z2 z3 z4
  have lo : ∀ o, o < 38 ∨ 40 < o → o ≠ pq x → (a_fill (a_fill (a_u (a_u (a_u (a_u I (pq x) 4 1) 38 4 0) 38 0 1) 38 5 (m 44 13 + 3)) 40 64 (fun _ => (-1))) 39 64 (fun _ => 0)) o = I o := fun o u v => by rw [a_fill_ne (by omega), a_fill_ne (by omega), a_u_row (by omega), a_u_row (by omega), a_u_row (by omega), a_u_row v]
  have ne : ∀ o u, T[o]? = some u → u ≠ .inr 6 → o ≠ pq x := fun o u a b z => by rw [z, t] at a; cases a; exact b rfl
  have lr : ∀ o, o ≠ 38 → a_u R 38 3 (some (pq x)) o = R o := fun o u => a_u_row u
  have hq := h9.pl
  obtain ⟨d, d1, d2⟩ := h9.dy
  have e45 : apB m x 44 45 = nI (d + 3) := by rw [apB_45, d1]; exact nI_add d 3
  have n79 : iN (apB m x) 79 x = iN m 79 x := by unfold iN; rw [ea 79 (by decide) (by decide) (by decide) (by decide)]
  refine ⟨hT, h9.hR.put (by decide +kernel), ⟨MBk_cg h9.bk (fun o u v => ea o (by omega) (by omega) (by omega) (by omega)) (apB_4 (by decide) (by decide) (by decide)), MEs_cg h9.es (fun o u v => ea o (by omega) (by omega) (by omega) (by omega)) (apB_4 (by decide) (by decide) (by decide)), ⟨(apB_4 (by decide) (by decide) (by decide)).trans hq.1, hq.2.1, fun i hi => PlOK_cg (ea 79 (by decide) (by decide) (by decide) (by decide)) (ea 80 (by decide) (by decide) (by decide) (by decide)) (hq.2.2.1 i hi), ⟨NR_cg (ea 79 (by decide) (by decide) (by decide) (by decide)) hq.2.2.2.1.1, fun i hi1 hi2 => ?_⟩, ?_⟩, MPo_cg h9.po (ea 57 (by decide) (by decide) (by decide) (by decide)) (apB_4 (by decide) (by decide) (by decide)), ⟨d, (apB_4 (by decide) (by decide) (by decide)).trans d1, d2⟩⟩, ?_, ?_, ?_, ⟨?_, fun i hi => ?_⟩, h9.cpi, ?_⟩
  · rw [ea 77 (by decide) (by decide) (by decide) (by decide), apB_78, if_neg (by omega)]; exact hq.2.2.2.1.2 i hi1 hi2
  · refine ⟨fun j => ?_, fun y hy => ?_, Or.inr (by rw [e45]; exact nI_pos' (by omega)), Or.inr ⟨x, 0, apB_43, hx, apB_44, by rw [n79]; exact h0, by rw [e45]; exact nI_pos' (by omega), fun k u v => ?_⟩⟩
    · rw [apB_81]
      by_cases zc : j < 64
      · exact Or.inl (if_pos zc)
      · have := hq.2.2.2.2.1 j
        show (if j < 64 then (0 : Int32) else m 81 j) = 0 ∨ (if j < 64 then (0 : Int32) else m 81 j) = 1
        rw [if_neg zc]; exact this
    · unfold iN
      rw [apB_82, show apR 64 (m 82) y = 0 from if_pos hy]
      exact ⟨rfl, Nat.zero_le _⟩
    · rw [n79] at v
      have eW : acW (apB m x) x k = acW m x k := by unfold acW iN; rw [ea 80 (by decide) (by decide) (by decide) (by decide)]
      have eN : acN (apB m x) x k = acN m x k := by unfold acN iN; rw [ea 80 (by decide) (by decide) (by decide) (by decide)]
      have hn := (hq.2.2.1 x hx).2.1 k v
      have hg := h9.es.1.1.1
      rw [eW, eN, ea 69 (by decide) (by decide) (by decide) (by decide), apB_82]
      exact ⟨hen k v, fun _ => if_pos (by omega)⟩
  · exact (h9.cb.fr (List.prefix_refl _) (fun o u => ⟨lo o (by omega) (by omega), rfl⟩) (fun s hs => by have q := h9.cb.sq hT hs; exact ⟨lo _ (by omega) (ne _ _ (h9.cb.1.at hs).1 (by decide)), lr _ (by omega)⟩) (lr 2 (by decide))).cgm ⟨fun o u => ea o (by omega) (by omega) (by omega) (by omega), apB_4 (by decide) (by decide) (by decide), apB_4 (by decide) (by decide) (by decide)⟩
  · have q := h9.cpo.fr (I2 := (a_fill (a_fill (a_u (a_u (a_u (a_u I (pq x) 4 1) 38 4 0) 38 0 1) 38 5 (m 44 13 + 3)) 40 64 (fun _ => (-1))) 39 64 (fun _ => 0))) (J2 := J) (by rw [lo 0 (by decide) (by omega)]) (lo 41 (by decide) (by omega)) rfl
    unfold CPo iN at *; rw [ea 57 (by decide) (by decide) (by decide) (by decide)]; exact q
  · exact (h9.ces.frt hT (List.prefix_refl _) (fun o u v => lo o (by omega) (by omega)) (fun o u v w z => ⟨lo o (by omega) (fun y => z (by rw [y]; exact t)), lr o (by omega)⟩) (lr 21 (by decide)) (lr 25 (by decide))).cgm (fun o u v => ea o (by omega) (by omega) (by omega) (by omega)) (apB_4 (by decide) (by decide) (by decide)) (apB_4 (by decide) (by decide) (by decide))
  · rw [lo 0 (by decide) (by omega)]; exact h9.cpl.1
  · have q := h9.cpl.2 i hi
    have u := h9.cpl.pq hT hi
    have e79 : iN (apB m x) 79 i = iN m 79 i := by unfold iN; rw [ea 79 (by decide) (by decide) (by decide) (by decide)]
    have sl : ∀ j, j ≠ 4 → (a_fill (a_fill (a_u (a_u (a_u (a_u I (pq x) 4 1) 38 4 0) 38 0 1) 38 5 (m 44 13 + 3)) 40 64 (fun _ => (-1))) 39 64 (fun _ => 0)) (pq i) j = I (pq i) j := fun j z => by rw [a_fill_ne (by omega), a_fill_ne (by omega), a_u_row (by omega), a_u_row (by omega), a_u_row (by omega), a_u_ne (fun w => z w.2)]
    rw [e79, lo (pq i + 1) (by omega) (ne _ _ q.2.2.2.1 (fun z => by cases z)), lr _ (by omega), lr _ (by omega), sl 0 (by decide), sl 1 (by decide), sl 3 (by decide), ea 75 (by decide) (by decide) (by decide) (by decide), ea 76 (by decide) (by decide) (by decide) (by decide), ea 77 (by decide) (by decide) (by decide) (by decide), ea 80 (by decide) (by decide) (by decide) (by decide)]
    refine ⟨q.1, q.2.1, q.2.2.1, q.2.2.2.1, q.2.2.2.2.1, q.2.2.2.2.2.1, q.2.2.2.2.2.2.1, ?_, q.2.2.2.2.2.2.2.2⟩
    rw [a_fill_ne (by omega), a_fill_ne (by omega), a_u_row (by omega), a_u_row (by omega), a_u_row (by omega), apB_78]
    by_cases zd : i = x
    · rw [if_pos zd, zd, a_u_self]
    · rw [if_neg zd, a_u_ne (fun w => zd (h9.cpi i x hi hx w.1))]; exact q.2.2.2.2.2.2.2.1
  · refine ⟨fun z => ?_, fun i hi e => ?_, ?_, fun _ => ?_⟩
    · rw [apB_43] at z; exact absurd z (Int32.not_lt.mpr (nI_pos' (by have := hq.2.1; omega)))
    · rw [apB_43] at e
      have e2 := (nI_eq (by have := hq.2.1; omega) (by omega)).mp e
      subst e2
      refine ⟨a_u_self, ?_, fun y hy => ?_, fun y hy => ?_⟩
      · rw [apB_44, a_fill_ne (by decide), a_fill_ne (by decide), a_u_ne (fun z => absurd z.2 (by decide)), a_u_ne (fun z => absurd z.2 (by decide)), a_u_self]
      · rw [apB_81, a_fill_in hy]; exact (if_pos hy).symm
      · rw [apB_82, a_fill_ne (by decide), a_fill_in hy, show apR 64 (m 82) y = 0 from if_pos hy]; rfl
    · rw [e45, decide_eq_true (nI_pos' (by omega) : (0 : Int32) ≤ nI (d + 3)), a_fill_ne (by decide), a_fill_ne (by decide), a_u_ne (fun z => absurd z.2 (by decide)), a_u_self]; rfl
    · rw [apB_45, a_fill_ne (by decide), a_fill_ne (by decide), a_u_self]
theorem hasA_so {m : aI} {x : Nat} {A : Option (List Nat)} (h : hasA m x A = true) : ∃ l, A = some l := by
  cases A with
  | none => cases h
  | some l => exact ⟨l, rfl⟩
theorem hasA_e2 {m : aI} {n g x : Nat} {A : Option (List Nat)} (hg : g ≤ 4) (hA : PlQ m n g A) (h : hasA m x A = true) : ∀ k, k < iN m 79 x → (acW m x k = 2 ∨ acW m x k = 3) → m 69 (acN m x k) ≠ 0 := by
  obtain ⟨l, zz1⟩ := hasA_so h
  subst zz1
  exact hasA_en hg hA h
set_option maxRecDepth 100000 in
theorem m_X11_apply {T : List aT} {I : aI} {J : aJ} {R : aR} {m : aI} {c n : Nat} {sq : Nat → Nat} {g : Nat} {gq eq : Nat → Nat} {r p : Nat} {pq : Nat → Nat} {k : Nat} (h9 : G9 T I J R m c n sq g gq eq r p pq k) (hc : c ≤ 1000) (x : Int32) : MX11_apply 3 200 [.ref 0, .int x] T I J R (CP [exI, exS] I J m c (fun k v m2 => (((0 ≤ x ∧ x < nI p) ∧ canAp m x.toNatClampNeg) ∧ ∃ A, PlQ m n g A ∧ ((hasA m x.toNatClampNeg A = true ∧ k = 0 ∧ v = m 79 x.toNatClampNeg ∧ m2 = apB m x.toNatClampNeg) ∨ (hasA m x.toNatClampNeg A = false ∧ k = 2 ∧ m2 = m))) ∨ (((0 ≤ x ∧ x < nI p) ∧ ¬ canAp m x.toNatClampNeg) ∧ k = 2 ∧ m2 = m) ∨ (¬ (0 ≤ x ∧ x < nI p) ∧ k = 1 ∧ m2 = m))) := by
  refine a_met (by decide +kernel) a_le (fun X hC hq => ?_)
  show AW X 0 0 0 [some (.ref 0), some (.int x), none] [] T I J R
  have hT := h9.hT
  have hR := h9.hR
  have hp40 := h9.pl.2.1
  refine aw_iload_n hC dX11_apply_0 rfl ?_
  refine aw_aload_n hC dX11_apply_1 rfl ?_
  refine aw_getI hC dX11_apply_2 aF_X11_275 rfl (tg_0 hT) ?_
  rw [h9.cpl.1]
  refine kX11_64 hC rfl (m_X11_isBelow x (nI p)) dX11_apply_5 rfl a_le a_le a_le a_le a_le rfl aPure_x (aPure_k ?_)
  show AW X 0 0 8 [some (.ref 0), some (.int x), none] [.int (bI (decide (0 ≤ x ∧ x < (nI p))))] T I J R
  by_cases hn1 : bI (decide (0 ≤ x ∧ x < (nI p))) = 0
  · rw [hn1]
    exact kX11_68 hC rfl (m_X11_needIndexF (T := T) (I := I) (J := J) (R := R)) dX11_apply_8 rfl a_le a_le a_le a_le a_le rfl (aTh_x (ae_out hC hq a_le a_le (CP.th (j := 0) rfl (Or.inr (Or.inr ⟨of_decide_eq_false (bI_e0.mp (by assumption)), rfl, rfl⟩)) h9.gi))) aTh_k
  · refine kX11_68 hC rfl (m_X11_needIndexT (T := T) (I := I) (J := J) (R := R) (x := bI (decide (0 ≤ x ∧ x < (nI p)))) hn1) dX11_apply_8 rfl a_le a_le a_le a_le a_le rfl aPure_x (aPure_k ?_)
    show AW X 0 0 11 [some (.ref 0), some (.int x), none] [] T I J R
    have hfcx : 0 ≤ x ∧ x < nI (p) := of_decide_eq_true (bI_n0.mp (by assumption))
    obtain ⟨x1, hx1, ex1⟩ := i_nat (x := x) (b := p) hfcx.1 hfcx.2 rfl (by first | decide | omega)
    subst ex1
    have hcp0 := h9.cpl.2 x1 hx1
    have h79e := (h9.pl.2.2.1 x1 hx1).1.2.1
    have h79l := (h9.pl.2.2.1 x1 hx1).1.1
    show AW X 0 0 11 [some (.ref 0), some (.int (nI x1)), none] [] T I J R
    refine aw_aload_n hC dX11_apply_11 rfl ?_
    refine aw_getR hC dX11_apply_12 aF_X11_60 rfl (tg_0 hT) (pr_0_8 hR) ?_
    refine aw_iload_n hC dX11_apply_15 rfl ?_
    refine aw_aaloadR_k (j := x1) hC dX11_apply_16 (tg_43 hT) (nI_clamp (by omega)) (vp_in_nI (by omega) (by decide)) (by first | exact hcp.1 | exact hcp0.1) ?_
    refine aw_astore_n (L2 := [some (.ref 0), some (.int (nI x1)), some (.ref (pq x1))]) hC dX11_apply_17 rfl (by decide) rfl ?_
    refine aw_aload_n hC dX11_apply_18 rfl ?_
    refine aw_getI hC dX11_apply_19 aF_X11_297 rfl hcp0.2.1 ?_
    rw [hcp0.2.2.2.2.2.2.1]
    refine aw_if_eq (tgt := 44) hC dX11_apply_22 (by decide) (fun h2 => ?_) (fun h2 => ?_)
    · show AW X 0 0 44 [some (.ref 0), some (.int (nI x1)), some (.ref (pq x1))] [] T I J R
      refine aw_iconst (v := 0) hC dX11_apply_44 (by decide) ?_
      exact kX11_88 hC rfl (m_X11_needStateF (T := T) (I := I) (J := J) (R := R)) dX11_apply_45 rfl a_le a_le a_le a_le a_le rfl (aTh_x (ae_out hC hq a_le a_le (CP.th (j := 1) rfl (Or.inr (Or.inl ⟨⟨hfcx, (by rw [nI_clamp (show x1 < 2 ^ 31 by omega)]; intro q; first | exact absurd (by assumption) q.1 | exact absurd q.2.1 (by assumption) | exact absurd q.2.2.2.1 (by rw [h79e]; exact fun z => by have := (nI_ltI (a := 0) (b := iN m 79 x1) (by omega) (by omega)).mp z; omega))⟩, rfl, rfl⟩)) h9.gi))) aTh_k
    · show AW X 0 0 25 [some (.ref 0), some (.int (nI x1)), some (.ref (pq x1))] [] T I J R
      refine aw_aload_n hC dX11_apply_25 rfl ?_
      refine aw_getI hC dX11_apply_26 aF_X11_305 rfl hcp0.2.1 ?_
      rw [hcp0.2.2.2.2.2.2.2.1]
      refine aw_if_ne (tgt := 44) hC dX11_apply_29 (by decide) (fun h3 => ?_) (fun h3 => ?_)
      · show AW X 0 0 44 [some (.ref 0), some (.int (nI x1)), some (.ref (pq x1))] [] T I J R
        refine aw_iconst (v := 0) hC dX11_apply_44 (by decide) ?_
        exact kX11_88 hC rfl (m_X11_needStateF (T := T) (I := I) (J := J) (R := R)) dX11_apply_45 rfl a_le a_le a_le a_le a_le rfl (aTh_x (ae_out hC hq a_le a_le (CP.th (j := 1) rfl (Or.inr (Or.inl ⟨⟨hfcx, (by rw [nI_clamp (show x1 < 2 ^ 31 by omega)]; intro q; first | exact absurd (by assumption) q.1 | exact absurd q.2.1 (by assumption) | exact absurd q.2.2.2.1 (by rw [h79e]; exact fun z => by have := (nI_ltI (a := 0) (b := iN m 79 x1) (by omega) (by omega)).mp z; omega))⟩, rfl, rfl⟩)) h9.gi))) aTh_k
      · show AW X 0 0 32 [some (.ref 0), some (.int (nI x1)), some (.ref (pq x1))] [] T I J R
        refine aw_aload_n hC dX11_apply_32 rfl ?_
        refine aw_getR hC dX11_apply_33 aF_X11_293 rfl hcp0.2.1 (by first | exact hcp.2.2.1 | exact hcp0.2.2.1 | (rw [a_u_row (by omega)]; exact hcp.2.2.1)) ?_
        refine aw_alen (v := nI (iN m 79 x1)) hC dX11_apply_36 hcp0.2.2.2.1 rfl ?_
        refine aw_if_le (tgt := 44) hC dX11_apply_37 (by decide) (fun h4 => ?_) (fun h4 => ?_)
        · show AW X 0 0 44 [some (.ref 0), some (.int (nI x1)), some (.ref (pq x1))] [] T I J R
          have h4n : (iN m 79 x1) ≤ 0 := (nI_leI (a := (iN m 79 x1)) (b := 0) (by omega) (by omega)).mp h4
          refine aw_iconst (v := 0) hC dX11_apply_44 (by decide) ?_
          exact kX11_88 hC rfl (m_X11_needStateF (T := T) (I := I) (J := J) (R := R)) dX11_apply_45 rfl a_le a_le a_le a_le a_le rfl (aTh_x (ae_out hC hq a_le a_le (CP.th (j := 1) rfl (Or.inr (Or.inl ⟨⟨hfcx, (by rw [nI_clamp (show x1 < 2 ^ 31 by omega)]; intro q; first | exact absurd (by assumption) q.1 | exact absurd q.2.1 (by assumption) | exact absurd q.2.2.2.1 (by rw [h79e]; exact fun z => by have := (nI_ltI (a := 0) (b := iN m 79 x1) (by omega) (by omega)).mp z; omega))⟩, rfl, rfl⟩)) h9.gi))) aTh_k
        · show AW X 0 0 40 [some (.ref 0), some (.int (nI x1)), some (.ref (pq x1))] [] T I J R
          have h4n : ¬ (iN m 79 x1) ≤ 0 := fun q9 => h4 ((nI_leI (a := (iN m 79 x1)) (b := 0) (by omega) (by omega)).mpr q9)
          refine aw_iconst (v := 1) hC dX11_apply_40 (by decide) ?_
          refine aw_goto (tgt := 45) hC dX11_apply_41 (by decide) ?_
          refine kX11_88 hC rfl (m_X11_needStateT (T := T) (I := I) (J := J) (R := R) (x := 1) (by decide)) dX11_apply_45 rfl a_le a_le a_le a_le a_le rfl aPure_x (aPure_k ?_)
          show AW X 0 0 48 [some (.ref 0), some (.int (nI x1)), some (.ref (pq x1))] [] T I J R
          refine aw_aload_n hC dX11_apply_48 rfl ?_
          refine aw_getI hC dX11_apply_49 aF_X11_300 rfl hcp0.2.1 ?_
          rw [hcp0.2.2.2.2.2.1]
          refine aw_aload_n hC dX11_apply_52 rfl ?_
          refine aw_getR hC dX11_apply_53 aF_X11_28 rfl (tg_0 hT) (pr_0_2 hR) ?_
          refine aw_getI hC dX11_apply_56 aF_X11_278 rfl (tg_19 hT) ?_
          rw [h9.ces.sr]
          refine aw_icmp_ne (tgt := 76) hC dX11_apply_59 (by decide) (fun h5 => ?_) (fun h5 => ?_)
          · show AW X 0 0 76 [some (.ref 0), some (.int (nI x1)), some (.ref (pq x1))] [] T I J R
            refine aw_iconst (v := 0) hC dX11_apply_76 (by decide) ?_
            exact kX11_88 hC rfl (m_X11_needStateF (T := T) (I := I) (J := J) (R := R)) dX11_apply_77 rfl a_le a_le a_le a_le a_le rfl (aTh_x (ae_out hC hq a_le a_le (CP.th (j := 1) rfl (Or.inr (Or.inl ⟨⟨hfcx, (by rw [nI_clamp (show x1 < 2 ^ 31 by omega)]; intro q; first | exact absurd q.2.2.1 (by assumption) | exact absurd q.2.2.2.2 (Int32.not_lt.mpr (of_decide_eq_true (bI_n0.mp (by assumption)))))⟩, rfl, rfl⟩)) h9.gi))) aTh_k
          · show AW X 0 0 62 [some (.ref 0), some (.int (nI x1)), some (.ref (pq x1))] [] T I J R
            refine aw_aload_n hC dX11_apply_62 rfl ?_
            refine aw_getR hC dX11_apply_63 aF_X11_46 rfl (tg_0 hT) (pr_0_4 hR) ?_
            refine aw_getI hC dX11_apply_66 aF_X11_254 rfl (tg_38 hT) ?_
            rw [h9.cap.2.2.1]
            refine aw_if_ne (tgt := 76) hC dX11_apply_69 (by decide) (fun h6 => ?_) (fun h6 => ?_)
            · show AW X 0 0 76 [some (.ref 0), some (.int (nI x1)), some (.ref (pq x1))] [] T I J R
              refine aw_iconst (v := 0) hC dX11_apply_76 (by decide) ?_
              exact kX11_88 hC rfl (m_X11_needStateF (T := T) (I := I) (J := J) (R := R)) dX11_apply_77 rfl a_le a_le a_le a_le a_le rfl (aTh_x (ae_out hC hq a_le a_le (CP.th (j := 1) rfl (Or.inr (Or.inl ⟨⟨hfcx, (by rw [nI_clamp (show x1 < 2 ^ 31 by omega)]; intro q; first | exact absurd q.2.2.1 (by assumption) | exact absurd q.2.2.2.2 (Int32.not_lt.mpr (of_decide_eq_true (bI_n0.mp (by assumption)))))⟩, rfl, rfl⟩)) h9.gi))) aTh_k
            · show AW X 0 0 72 [some (.ref 0), some (.int (nI x1)), some (.ref (pq x1))] [] T I J R
              refine aw_iconst (v := 1) hC dX11_apply_72 (by decide) ?_
              refine aw_goto (tgt := 77) hC dX11_apply_73 (by decide) ?_
              refine kX11_88 hC rfl (m_X11_needStateT (T := T) (I := I) (J := J) (R := R) (x := 1) (by decide)) dX11_apply_77 rfl a_le a_le a_le a_le a_le rfl aPure_x (aPure_k ?_)
              show AW X 0 0 80 [some (.ref 0), some (.int (nI x1)), some (.ref (pq x1))] [] T I J R
              have hcan : canAp m x1 := ⟨by assumption, by assumption, by assumption, by rw [h79e]; exact (nI_ltI (a := 0) (b := iN m 79 x1) (by omega) (by omega)).mpr (by omega), Int32.not_le.mp (of_decide_eq_false (bI_e0.mp (by assumption)))⟩
              refine aw_aload_n hC dX11_apply_80 rfl ?_
              refine aw_getR hC dX11_apply_81 aF_X11_21 rfl (tg_0 hT) (pr_0_1 hR) ?_
              refine kX11_113 hC rfl (m_settleG h9) dX11_apply_84 (tg_8 hT) rfl a_le a_le a_le a_le a_le rfl aRelT_x (aRelT_k (fun v9 T9 I9 J9 R9 hp9 hQ => ?_))
              obtain ⟨ev9, hT9, hf9, hg9, m0, hs9, hl9⟩ := hQ
              rw [ev9, hT9]
              have hR9 := hg9.hR
              obtain ⟨M, P, S, hso, hD9, hC9, hP9, hS9, h57, hfo, htn, hcf, hSM, hcs, h53, hfx⟩ := hl9.use hs9 h9.bk hg9.cb.1
              show AW X 0 0 87 [some (.ref 0), some (.int (nI x1)), some (.ref (pq x1))] [] T I9 J9 R9
              refine aw_aload_n hC dX11_apply_87 rfl ?_
              refine aw_getR hC dX11_apply_88 aF_X11_37 rfl (tg_0 hT) (pr_0_3 hR9) ?_
              refine kX11_269 hC rfl (m_listG hg9 hs9 hso hD9 h57 hfo htn) dX11_apply_91 (tg_33 hT) rfl a_le a_le a_le a_le a_le rfl aRelV_x (aRelV_k (fun v9 I8 J8 hQ => ?_))
              obtain ⟨hJ8, hI8, A8, hA8, hL8, ev8⟩ := hQ
              rw [ev8, hJ8]
              have hg8 := hg9.cmp (I2 := I8) (fun o ho => hI8 o (by omega))
              show AW X 0 0 94 [some (.ref 0), some (.int (nI x1)), some (.ref (pq x1))] [.int (aLen A8)] T I8 J9 R9
              refine aw_pop hC dX11_apply_94 rfl ?_
              have hcp := hg8.cpl.2 x1 hx1
              refine aw_aload_n hC dX11_apply_95 rfl ?_
              refine aw_getR hC dX11_apply_96 aF_X11_37 rfl (tg_0 hT) (pr_0_3 hR9) ?_
              refine aw_aload_n hC dX11_apply_99 rfl ?_
              refine aw_getR hC dX11_apply_100 aF_X11_293 rfl hcp0.2.1 (by first | exact hcp.2.2.1 | exact hcp0.2.2.1 | (rw [a_u_row (by omega)]; exact hcp.2.2.1)) ?_
              refine kX11_301 hC rfl (m_hasG hg8 hx1 hA8 hL8) dX11_apply_103 (tg_33 hT) rfl a_le a_le a_le a_le a_le rfl aPure_x (aPure_k ?_)
              show AW X 0 0 106 [some (.ref 0), some (.int (nI x1)), some (.ref (pq x1))] [.int (bI (hasA m x1 A8))] T I8 J9 R9
              by_cases hn7 : bI (hasA m x1 A8) = 0
              · rw [hn7]
                exact kX11_88 hC rfl (m_X11_needStateF (T := T) (I := I8) (J := J9) (R := R9)) dX11_apply_106 rfl a_le a_le a_le a_le a_le rfl (aTh_x (ae_out hC hq a_le a_le ⟨(fun o u v => ⟨(hI8 o (by omega)).trans (hf9 o u v).1, (hf9 o u v).2⟩), Or.inr ⟨1, exS, rfl, rfl, Or.inl ⟨⟨hfcx, (by rw [nI_clamp (show x1 < 2 ^ 31 by omega)]; exact hcan)⟩, A8, hA8, Or.inr ⟨by rw [nI_clamp (show x1 < 2 ^ 31 by omega)]; exact bI_e0.mp (by assumption), rfl, rfl⟩⟩, hg8.gi⟩⟩)) aTh_k
              · refine kX11_88 hC rfl (m_X11_needStateT (T := T) (I := I8) (J := J9) (R := R9) (x := bI (hasA m x1 A8)) hn7) dX11_apply_106 rfl a_le a_le a_le a_le a_le rfl aPure_x (aPure_k ?_)
                show AW X 0 0 109 [some (.ref 0), some (.int (nI x1)), some (.ref (pq x1))] [] T I8 J9 R9
                have hhas := bI_n0.mp (by assumption : ¬ bI (hasA m x1 A8) = 0)
                have hpq := (h9.cpl.pq hT hx1).1.2.2
                refine aw_aload_n hC dX11_apply_109 rfl ?_
                refine aw_getR hC dX11_apply_110 aF_X11_46 rfl (tg_0 hT) (pr_0_4 hR9) ?_
                refine aw_aload_n hC dX11_apply_113 rfl ?_
                refine aw_aload_n hC dX11_apply_114 rfl ?_
                refine aw_getR hC dX11_apply_115 aF_X11_10 rfl (tg_0 hT) (pr_0_0 hR9) ?_
                refine aw_getI hC dX11_apply_118 aF_X11_133 rfl (tg_1 hT) ?_
                rw [hg8.cb.2.1.2.2.2.2]
                refine kX11_308 hC rfl (m_X0_begin (I := I8) hT hR9 (q := (pq x1)) hcp0.2.1 (m 44 13)) dX11_apply_121 (tg_38 hT) rfl a_le a_le a_le a_le a_le rfl aPure_x (aPure_k ?_)
                have hR8 : aPR (a_u R9 38 3 (some (pq x1))) := hR9.put (by decide +kernel)
                show AW X 0 0 124 [some (.ref 0), some (.int (nI x1)), some (.ref (pq x1))] [] T (a_fill (a_fill (a_u (a_u (a_u (a_u I8 (pq x1) 4 1) 38 4 0) 38 0 1) 38 5 (m 44 13 + 3)) 40 64 (fun _ => (-1))) 39 64 (fun _ => 0)) J9 (a_u R9 38 3 (some (pq x1)))
                refine aw_aload_n hC dX11_apply_124 rfl ?_
                refine aw_getR hC dX11_apply_125 aF_X11_293 rfl hcp0.2.1 (by first | exact hcp.2.2.1 | exact hcp0.2.2.1 | (rw [a_u_row (by omega)]; exact hcp.2.2.1)) ?_
                refine aw_alen (v := nI (iN m 79 x1)) hC dX11_apply_128 hcp0.2.2.2.1 rfl ?_
                exact aw_ireturn hC hq rfl dX11_apply_129 a_le a_le (CP.ok (Or.inl ⟨⟨hfcx, (by rw [nI_clamp (show x1 < 2 ^ 31 by omega)]; exact hcan)⟩, A8, hA8, Or.inl ⟨by rw [nI_clamp (show x1 < 2 ^ 31 by omega)]; exact hhas, rfl, by rw [nI_clamp (show x1 < 2 ^ 31 by omega)]; exact h79e.symm, by rw [nI_clamp (show x1 < 2 ^ 31 by omega)]⟩⟩) (fun o u v => ⟨by rw [a_fill_ne (by omega), a_fill_ne (by omega), a_u_row (by omega), a_u_row (by omega), a_u_row (by omega), a_u_row (by omega)]; exact (hI8 o (by omega)).trans (hf9 o u v).1, (hf9 o u v).2⟩) (bg_g9 hg8 hx1 hc (by omega) hcan.2.2.2.2 (hasA_e2 h9.es.1.1.1 hA8 hhas)).gi)
