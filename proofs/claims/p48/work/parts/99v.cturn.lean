/-! AN UPGRADE -/
theorem sT_n {m : aI} {t : Int32} : sTurn m t (-1) = -1 := by unfold sTurn; exact if_pos (by decide)
theorem sT_lt {m : aI} {t : Int32} {s : Nat} (h : s < 10) : sTurn m t (nI s) = nI s := by unfold sTurn; exact if_pos ((nI_ltI (a := s) (b := 10) (by omega) (by omega)).mpr h)
theorem sT_ge {m : aI} {t : Int32} {s : Nat} (h : 10 ≤ s) (h2 : s < 22) : sTurn m t (nI s) = if m 62 ((s - 10) / 3) ≠ t then nI s else if (s - 10) % 3 = 2 then nI s else if (s - 10) % 3 = 0 then nI (s + 1) else nI (s - 1) := by
  have e2 : nI ((s - 10) % 3) = 2 ↔ (s - 10) % 3 = 2 := nI_eq (a := (s - 10) % 3) (b := 2) (by omega) (by omega)
  have e0 : nI ((s - 10) % 3) = 0 ↔ (s - 10) % 3 = 0 := nI_eq (a := (s - 10) % 3) (b := 0) (by omega) (by omega)
  have n10 : ¬ nI s < 10 := fun q => by have := (nI_ltI (a := s) (b := 10) (by omega) (by omega)).mp q; omega
  unfold sTurn
  rw [if_neg n10, so_a s h2 h, so_g s h2 h, nI_clamp (by omega)]
  by_cases c1 : m 62 ((s - 10) / 3) ≠ t
  · rw [if_pos c1, if_pos c1]
  · rw [if_neg c1, if_neg c1]
    by_cases c2 : (s - 10) % 3 = 2
    · rw [if_pos (e2.mpr c2), if_pos c2]
    · rw [if_neg (fun q => c2 (e2.mp q)), if_neg c2]
      by_cases c3 : (s - 10) % 3 = 0
      · rw [if_pos (e0.mpr c3), if_pos c3]; exact nI_add s 1
      · rw [if_neg (fun q => c3 (e0.mp q)), if_neg c3]; exact pk_sub (a := s) (b := 1) (by omega)
theorem sT_ty {m : aI} {t : Int32} {s : Nat} (h : 10 ≤ s) (h2 : s < 22) (h3 : ¬ m 62 ((s - 10) / 3) = t) : nI s = sTurn m t (nI s) := by rw [sT_ge h h2, if_pos h3]
theorem sT_2 {m : aI} {t : Int32} {s : Nat} (h : 10 ≤ s) (h2 : s < 22) (h3 : (s - 10) % 3 = 2) : nI s = sTurn m t (nI s) := by rw [sT_ge h h2, if_pos h3]; split <;> rfl
theorem sT_0 {m : aI} {t : Int32} {s : Nat} (h : 10 ≤ s) (h2 : s < 22) (h4 : m 62 ((s - 10) / 3) = t) (h3 : (s - 10) % 3 = 0) : nI (s + 1) = sTurn m t (nI s) := by rw [sT_ge h h2, if_neg (not_not_intro h4), if_neg (by omega), if_pos h3]
theorem sT_1 {m : aI} {t : Int32} {s : Nat} (h : 10 ≤ s) (h2 : s < 22) (h4 : m 62 ((s - 10) / 3) = t) (h3 : ¬ (s - 10) % 3 = 0) (h5 : (s - 10) % 3 ≤ 1) : nI (s - 1) = sTurn m t (nI s) := by rw [sT_ge h h2, if_neg (not_not_intro h4), if_neg (by omega), if_neg h3]
/-- the types and the sources' rows of the generators -/
def GTy (T : List aT) (I : aI) (R : aR) (m : aI) (g : Nat) (gq : Nat → Nat) : Prop := ∀ h, h < g → R 21 h = some (gq h) ∧ T[gq h]? = some (.inr 5) ∧ I (gq h) 0 = m 62 h ∧ R (gq h) 3 = some (gq h + 2) ∧ T[gq h + 2]? = some (.inl (.int, 3))
theorem CGn.gty {T : List aT} {I : aI} {R : aR} {m : aI} {g : Nat} {gq : Nat → Nat} (h : CGn T I R m g gq) : GTy T I R m g gq := fun i hi => by
  have q := h.at hi
  exact ⟨h.rf hi, q.1, q.2.2.2.2.2.1, q.2.2.2.1, q.2.2.2.2.1⟩
theorem GTy.fr {T : List aT} {I I2 : aI} {R : aR} {m : aI} {g : Nat} {gq : Nat → Nat} (h : GTy T I R m g gq) (hI : ∀ o, T[o]? = some (.inr 5) → I2 o = I o) : GTy T I2 R m g gq := fun i hi => by
  have q := h i hi
  rw [hI _ q.2.1]; exact q
theorem GTy.put {T : List aT} {I : aI} {R : aR} {m : aI} {g i j : Nat} {gq : Nat → Nat} {v : Int32} (h : GTy T I R m g gq) (hi : i < g) : GTy T (a_u I (gq i + 2) j v) R m g gq := h.fr (fun q hq => a_u_row (fun z => by
  have t := (h i hi).2.2.2.2
  rw [← z, hq] at t; cases t))
set_option maxRecDepth 100000 in
theorem m_X4_turnedSource {T : List aT} {I : aI} {J : aJ} {R : aR} (hT : aPT T) (hR : aPR R) {m : aI} {g : Nat} {gq : Nat → Nat} (hGY : GTy T I R m g gq) (hg4 : g ≤ 4) {s t : Nat} (hs2 : s < 22) (hsg : 10 ≤ s → (s - 10) / 3 < g) (ht3 : t < 3) : MX4_turnedSource 0 0 [.ref 19, .int (nI s), .int (nI t)] T I J R (aPure (some (.int (sTurn m (nI t) (nI s)))) T I J R) := by
  refine a_met (by decide +kernel) a_le (fun X hC hq => ?_)
  show AW X 0 0 0 [some (.ref 19), some (.int (nI s)), some (.int (nI t))] [] T I J R
  refine aw_iload_n hC dX4_turnedSource_0 rfl ?_
  refine aw_bipush (v := 10) hC dX4_turnedSource_1 (by decide) ?_
  refine aw_icmp_lt (tgt := 14) hC dX4_turnedSource_3 (by decide) (fun h1 => ?_) (fun h1 => ?_)
  · show AW X 0 0 14 [some (.ref 19), some (.int (nI s)), some (.int (nI t))] [] T I J R
    have h1n : s < 10 := (nI_ltI (a := s) (b := 10) (by omega) (by omega)).mp h1
    refine aw_iload_n hC dX4_turnedSource_14 rfl ?_
    exact aw_ireturn hC hq rfl dX4_turnedSource_15 a_le a_le (aPure_i (by first | exact (sT_lt (by omega)).symm | exact sT_2 (by omega) hs2 (by omega) | exact sT_ty (by omega) hs2 (by assumption) | exact sT_0 (by omega) hs2 (by assumption) (by omega) | exact sT_1 (by omega) hs2 (by assumption) (by omega) (by omega)))
  · show AW X 0 0 6 [some (.ref 19), some (.int (nI s)), some (.int (nI t))] [] T I J R
    have h1n : ¬ s < 10 := fun q9 => h1 ((nI_ltI (a := s) (b := 10) (by omega) (by omega)).mpr q9)
    refine aw_iload_n hC dX4_turnedSource_6 rfl ?_
    refine kX4_71 hC rfl (m_X4_attributeOfSource (nI s)) dX4_turnedSource_7 rfl a_le a_le a_le a_le a_le rfl aPure_x (aPure_k ?_)
    show AW X 0 0 10 [some (.ref 19), some (.int (nI s)), some (.int (nI t))] [.int ((nI s - 10) - (nI s - 10) / 3 * 3)] T I J R
    rw [so_a s (by omega) (by omega)]
    refine aw_iconst (v := 1) hC dX4_turnedSource_10 (by decide) ?_
    refine aw_icmp_le (tgt := 16) hC dX4_turnedSource_11 (by decide) (fun h2 => ?_) (fun h2 => ?_)
    · show AW X 0 0 16 [some (.ref 19), some (.int (nI s)), some (.int (nI t))] [] T I J R
      have h2n : ((s - 10) % 3) ≤ 1 := (nI_leI (a := ((s - 10) % 3)) (b := 1) (by omega) (by omega)).mp h2
      refine aw_aload_n hC dX4_turnedSource_16 rfl ?_
      refine aw_getR hC dX4_turnedSource_17 aF_X4_19 rfl (tg_19 hT) (pr_19_1 hR) ?_
      refine aw_iload_n hC dX4_turnedSource_20 rfl ?_
      refine kX4_63 hC rfl (m_X4_generatorOfSource (nI s)) dX4_turnedSource_21 rfl a_le a_le a_le a_le a_le rfl aPure_x (aPure_k ?_)
      show AW X 0 0 24 [some (.ref 19), some (.int (nI s)), some (.int (nI t))] [.int ((nI s - 10) / 3), .ref 21] T I J R
      rw [so_g s (by omega) (by omega)]
      refine aw_aaloadR_k (j := ((s - 10) / 3)) hC dX4_turnedSource_24 (tg_21 hT) (nI_clamp (by omega)) (vp_in_nI (by omega) (by decide)) (hGY _ (hsg (by omega))).1 ?_
      refine aw_getI hC dX4_turnedSource_25 aF_X4_56 rfl (hGY _ (hsg (by omega))).2.1 ?_
      rw [(hGY _ (hsg (by omega))).2.2.1]
      refine aw_iload_n hC dX4_turnedSource_28 rfl ?_
      refine aw_icmp_eq (tgt := 34) hC dX4_turnedSource_29 (by decide) (fun h3 => ?_) (fun h3 => ?_)
      · show AW X 0 0 34 [some (.ref 19), some (.int (nI s)), some (.int (nI t))] [] T I J R
        refine aw_iload_n hC dX4_turnedSource_34 rfl ?_
        refine kX4_71 hC rfl (m_X4_attributeOfSource (nI s)) dX4_turnedSource_35 rfl a_le a_le a_le a_le a_le rfl aPure_x (aPure_k ?_)
        show AW X 0 0 38 [some (.ref 19), some (.int (nI s)), some (.int (nI t))] [.int ((nI s - 10) - (nI s - 10) / 3 * 3)] T I J R
        rw [so_a s (by omega) (by omega)]
        refine aw_if_ne (tgt := 47) hC dX4_turnedSource_38 (by decide) (fun h4 => ?_) (fun h4 => ?_)
        · show AW X 0 0 47 [some (.ref 19), some (.int (nI s)), some (.int (nI t))] [] T I J R
          have h4n : ¬ ((s - 10) % 3) = 0 := fun q9 => h4 ((nI_eq (a := ((s - 10) % 3)) (b := 0) (by omega) (by omega)).mpr q9)
          refine aw_iload_n hC dX4_turnedSource_47 rfl ?_
          refine aw_iconst (v := 1) hC dX4_turnedSource_48 (by decide) ?_
          refine aw_isub hC dX4_turnedSource_49 ?_
          rw [show (nI s) - 1 = nI (s - 1) from pk_sub (a := s) (b := 1) (by omega)]
          exact aw_ireturn hC hq rfl dX4_turnedSource_50 a_le a_le (aPure_i (by first | exact (sT_lt (by omega)).symm | exact sT_2 (by omega) hs2 (by omega) | exact sT_ty (by omega) hs2 (by assumption) | exact sT_0 (by omega) hs2 (by assumption) (by omega) | exact sT_1 (by omega) hs2 (by assumption) (by omega) (by omega)))
        · show AW X 0 0 41 [some (.ref 19), some (.int (nI s)), some (.int (nI t))] [] T I J R
          have h4n : ((s - 10) % 3) = 0 := (nI_eq (a := ((s - 10) % 3)) (b := 0) (by omega) (by omega)).mp h4
          refine aw_iload_n hC dX4_turnedSource_41 rfl ?_
          refine aw_iconst (v := 1) hC dX4_turnedSource_42 (by decide) ?_
          refine aw_iadd hC dX4_turnedSource_43 ?_
          rw [show (nI s) + 1 = nI (s + 1) from nI_add s 1]
          refine aw_goto (tgt := 50) hC dX4_turnedSource_44 (by decide) ?_
          exact aw_ireturn hC hq rfl dX4_turnedSource_50 a_le a_le (aPure_i (by first | exact (sT_lt (by omega)).symm | exact sT_2 (by omega) hs2 (by omega) | exact sT_ty (by omega) hs2 (by assumption) | exact sT_0 (by omega) hs2 (by assumption) (by omega) | exact sT_1 (by omega) hs2 (by assumption) (by omega) (by omega)))
      · show AW X 0 0 32 [some (.ref 19), some (.int (nI s)), some (.int (nI t))] [] T I J R
        refine aw_iload_n hC dX4_turnedSource_32 rfl ?_
        exact aw_ireturn hC hq rfl dX4_turnedSource_33 a_le a_le (aPure_i (by first | exact (sT_lt (by omega)).symm | exact sT_2 (by omega) hs2 (by omega) | exact sT_ty (by omega) hs2 (by assumption) | exact sT_0 (by omega) hs2 (by assumption) (by omega) | exact sT_1 (by omega) hs2 (by assumption) (by omega) (by omega)))
    · show AW X 0 0 14 [some (.ref 19), some (.int (nI s)), some (.int (nI t))] [] T I J R
      have h2n : ¬ ((s - 10) % 3) ≤ 1 := fun q9 => h2 ((nI_leI (a := ((s - 10) % 3)) (b := 1) (by omega) (by omega)).mpr q9)
      refine aw_iload_n hC dX4_turnedSource_14 rfl ?_
      exact aw_ireturn hC hq rfl dX4_turnedSource_15 a_le a_le (aPure_i (by first | exact (sT_lt (by omega)).symm | exact sT_2 (by omega) hs2 (by omega) | exact sT_ty (by omega) hs2 (by assumption) | exact sT_0 (by omega) hs2 (by assumption) (by omega) | exact sT_1 (by omega) hs2 (by assumption) (by omega) (by omega)))
set_option maxRecDepth 100000 in
theorem m_X4_turnedN {T : List aT} {I : aI} {J : aJ} {R : aR} {t : Nat} : MX4_turnedSource 0 0 [.ref 19, .int (-1), .int (nI t)] T I J R (aPure (some (.int (-1))) T I J R) := by
  refine a_met (by decide +kernel) a_le (fun X hC hq => ?_)
  show AW X 0 0 0 [some (.ref 19), some (.int (-1)), some (.int (nI t))] [] T I J R
  refine aw_iload_n hC dX4_turnedSource_0 rfl ?_
  refine aw_bipush (v := 10) hC dX4_turnedSource_1 (by decide) ?_
  refine aw_icmp_lt (tgt := 14) hC dX4_turnedSource_3 (by decide) (fun _ => ?_) (fun h1 => absurd h1 (by decide))
  show AW X 0 0 14 [some (.ref 19), some (.int (-1)), some (.int (nI t))] [] T I J R
  refine aw_iload_n hC dX4_turnedSource_14 rfl ?_
  exact aw_ireturn hC hq rfl dX4_turnedSource_15 a_le a_le (aPure_i rfl)
theorem m_turned {T : List aT} {I : aI} {J : aJ} {R : aR} (hT : aPT T) (hR : aPR R) {m : aI} {g : Nat} {gq : Nat → Nat} (hGY : GTy T I R m g gq) (hg4 : g ≤ 4) {v : Int32} {t : Nat} (hv : v = -1 ∨ (v = nI v.toNatClampNeg ∧ v.toNatClampNeg < 22 ∧ (10 ≤ v.toNatClampNeg → (v.toNatClampNeg - 10) / 3 < g))) (ht3 : t < 3) : MX4_turnedSource 0 0 [.ref 19, .int v, .int (nI t)] T I J R (aPure (some (.int (sTurn m (nI t) v))) T I J R) := by
  rcases hv with e | e
  · rw [e, sT_n]; exact m_X4_turnedN
  · obtain ⟨s, es⟩ : ∃ s, v.toNatClampNeg = s := ⟨_, rfl⟩
    rw [es] at e
    rw [e.1]; exact m_X4_turnedSource hT hR hGY hg4 e.2.1 e.2.2 ht3
theorem upS_a {m : aI} {t i a : Nat} (ha : a < 3) : upS m t (3 * i + a) = if m 62 i = nI t then (if a = 0 then tr9 m t (3 * i + 1) else if a = 1 then tr9 m t (3 * i) else tr9 m t (3 * i + 2)) else tr9 m t (3 * i + a) := by
  show (if m 62 ((3 * i + a) / 3) = nI t then (if (3 * i + a) % 3 = 0 then tr9 m t (3 * i + a + 1) else if (3 * i + a) % 3 = 1 then tr9 m t (3 * i + a - 1) else tr9 m t (3 * i + a)) else tr9 m t (3 * i + a)) = _
  rw [show (3 * i + a) / 3 = i by omega, show (3 * i + a) % 3 = a by omega]
  by_cases zc : m 62 i = nI t
  · rw [if_pos zc, if_pos zc]
    by_cases z0 : a = 0
    · rw [if_pos z0, if_pos z0]; exact congrArg (tr9 m t) (by omega)
    · rw [if_neg z0, if_neg z0]
      by_cases z1 : a = 1
      · rw [if_pos z1, if_pos z1]; exact congrArg (tr9 m t) (by omega)
      · rw [if_neg z1, if_neg z1]; exact congrArg (tr9 m t) (by omega)
  · rw [if_neg zc, if_neg zc]
set_option maxRecDepth 100000 in
theorem m_X4_turnSources {T : List aT} {I : aI} {J : aJ} {R : aR} (hT : aPT T) (hR : aPR R) {m : aI} {g : Nat} {gq : Nat → Nat} (hGY : GTy T I R m g gq) (hg4 : g ≤ 4) {i t : Nat} (hi : i < g) (ht3 : t < 3) (hrow : ∀ a, a < 3 → I (gq i + 2) a = m 65 (3 * i + a)) (hrs : ∀ a, a < 3 → (m 65 (3 * i + a) = -1 ∨ (m 65 (3 * i + a) = nI (m 65 (3 * i + a)).toNatClampNeg ∧ (m 65 (3 * i + a)).toNatClampNeg < 22 ∧ (10 ≤ (m 65 (3 * i + a)).toNatClampNeg → ((m 65 (3 * i + a)).toNatClampNeg - 10) / 3 < g)))) : MX4_turnSources 0 0 [.ref 19, .ref (gq i), .int (nI t)] T I J R (aRelV (fun v I2 J2 => v = none ∧ J2 = J ∧ (∀ o, o ≠ gq i + 2 → I2 o = I o) ∧ ∀ a, a < 3 → I2 (gq i + 2) a = upS m t (3 * i + a)) T R) := by
  refine a_met (by decide +kernel) a_le (fun X hC hq => ?_)
  show AW X 0 0 0 [some (.ref 19), some (.ref (gq i)), some (.int (nI t)), none] [] T I J R
  refine aw_iconst (v := 0) hC dX4_turnSources_0 (by decide) ?_
  refine aw_istore_n (L2 := [some (.ref 19), some (.ref (gq i)), some (.int (nI t)), some (.int 0)]) hC dX4_turnSources_1 rfl (by decide) rfl ?_
  refine aw_iload_n hC dX4_turnSources_2 rfl ?_
  refine aw_iconst (v := 3) hC dX4_turnSources_3 (by decide) ?_
  refine aw_icmp_ge (tgt := 30) hC dX4_turnSources_4 (by decide) (fun h1 => absurd h1 (by decide)) (fun _ => ?_)
  show AW X 0 0 7 [some (.ref 19), some (.ref (gq i)), some (.int (nI t)), some (.int 0)] [] T I J R
  refine aw_aload_n hC dX4_turnSources_7 rfl ?_
  refine aw_getR hC dX4_turnSources_8 aF_X4_116 rfl (hGY i hi).2.1 (hGY i hi).2.2.2.1 ?_
  refine aw_iload_n hC dX4_turnSources_11 rfl ?_
  refine aw_aload_n hC dX4_turnSources_12 rfl ?_
  refine aw_aload_n hC dX4_turnSources_13 rfl ?_
  refine aw_getR hC dX4_turnSources_14 aF_X4_116 rfl (hGY i hi).2.1 (hGY i hi).2.2.2.1 ?_
  refine aw_iload_n hC dX4_turnSources_17 rfl ?_
  refine aw_iaload_k (j := 0) hC dX4_turnSources_18 (hGY i hi).2.2.2.2 (by decide) (by unfold vp_in; decide) ?_
  rw [(hrow 0 (by decide))]
  refine aw_iload_n hC dX4_turnSources_19 rfl ?_
  refine kX4_119 hC rfl (m_turned (I := I) hT hR hGY hg4 (hrs 0 (by decide)) ht3) dX4_turnSources_20 (tg_19 hT) rfl a_le a_le a_le a_le a_le rfl aPure_x (aPure_k ?_)
  show AW X 0 0 23 [some (.ref 19), some (.ref (gq i)), some (.int (nI t)), some (.int 0)] [.int (tr9 m t (3 * i + 0)), .int 0, .ref (gq i + 2)] T I J R
  refine aw_iastore_k (j := 0) hC dX4_turnSources_23 (hGY i hi).2.2.2.2 (by decide) (by unfold vp_in; decide) ?_
  refine aw_iinc (v := 1) (L2 := [some (.ref 19), some (.ref (gq i)), some (.int (nI t)), some (.int 1)]) hC dX4_turnSources_24 rfl (by decide) (by decide) rfl ?_
  refine aw_goto (tgt := 2) hC dX4_turnSources_27 (by decide) ?_
  refine aw_iload_n hC dX4_turnSources_2 rfl ?_
  refine aw_iconst (v := 3) hC dX4_turnSources_3 (by decide) ?_
  refine aw_icmp_ge (tgt := 30) hC dX4_turnSources_4 (by decide) (fun h2 => absurd h2 (by decide)) (fun _ => ?_)
  show AW X 0 0 7 [some (.ref 19), some (.ref (gq i)), some (.int (nI t)), some (.int 1)] [] T (a_u I (gq i + 2) 0 (tr9 m t (3 * i + 0))) J R
  refine aw_aload_n hC dX4_turnSources_7 rfl ?_
  refine aw_getR hC dX4_turnSources_8 aF_X4_116 rfl (hGY i hi).2.1 (hGY i hi).2.2.2.1 ?_
  refine aw_iload_n hC dX4_turnSources_11 rfl ?_
  refine aw_aload_n hC dX4_turnSources_12 rfl ?_
  refine aw_aload_n hC dX4_turnSources_13 rfl ?_
  refine aw_getR hC dX4_turnSources_14 aF_X4_116 rfl (hGY i hi).2.1 (hGY i hi).2.2.2.1 ?_
  refine aw_iload_n hC dX4_turnSources_17 rfl ?_
  refine aw_iaload_k (j := 1) hC dX4_turnSources_18 (hGY i hi).2.2.2.2 (by decide) (by unfold vp_in; decide) ?_
  rw [a_u_ne (f := I) (o := (gq i + 2)) (k := 0) (a := (gq i + 2)) (b := 1) (v := tr9 m t (3 * i + 0)) (fun q => absurd q.2 (by decide))]
  rw [(hrow 1 (by decide))]
  refine aw_iload_n hC dX4_turnSources_19 rfl ?_
  refine kX4_119 hC rfl (m_turned (I := a_u I (gq i + 2) 0 (tr9 m t (3 * i + 0))) hT hR (hGY.put hi) hg4 (hrs 1 (by decide)) ht3) dX4_turnSources_20 (tg_19 hT) rfl a_le a_le a_le a_le a_le rfl aPure_x (aPure_k ?_)
  show AW X 0 0 23 [some (.ref 19), some (.ref (gq i)), some (.int (nI t)), some (.int 1)] [.int (tr9 m t (3 * i + 1)), .int 1, .ref (gq i + 2)] T (a_u I (gq i + 2) 0 (tr9 m t (3 * i + 0))) J R
  refine aw_iastore_k (j := 1) hC dX4_turnSources_23 (hGY i hi).2.2.2.2 (by decide) (by unfold vp_in; decide) ?_
  refine aw_iinc (v := 2) (L2 := [some (.ref 19), some (.ref (gq i)), some (.int (nI t)), some (.int 2)]) hC dX4_turnSources_24 rfl (by decide) (by decide) rfl ?_
  refine aw_goto (tgt := 2) hC dX4_turnSources_27 (by decide) ?_
  refine aw_iload_n hC dX4_turnSources_2 rfl ?_
  refine aw_iconst (v := 3) hC dX4_turnSources_3 (by decide) ?_
  refine aw_icmp_ge (tgt := 30) hC dX4_turnSources_4 (by decide) (fun h3 => absurd h3 (by decide)) (fun _ => ?_)
  show AW X 0 0 7 [some (.ref 19), some (.ref (gq i)), some (.int (nI t)), some (.int 2)] [] T (a_u (a_u I (gq i + 2) 0 (tr9 m t (3 * i + 0))) (gq i + 2) 1 (tr9 m t (3 * i + 1))) J R
  refine aw_aload_n hC dX4_turnSources_7 rfl ?_
  refine aw_getR hC dX4_turnSources_8 aF_X4_116 rfl (hGY i hi).2.1 (hGY i hi).2.2.2.1 ?_
  refine aw_iload_n hC dX4_turnSources_11 rfl ?_
  refine aw_aload_n hC dX4_turnSources_12 rfl ?_
  refine aw_aload_n hC dX4_turnSources_13 rfl ?_
  refine aw_getR hC dX4_turnSources_14 aF_X4_116 rfl (hGY i hi).2.1 (hGY i hi).2.2.2.1 ?_
  refine aw_iload_n hC dX4_turnSources_17 rfl ?_
  refine aw_iaload_k (j := 2) hC dX4_turnSources_18 (hGY i hi).2.2.2.2 (by decide) (by unfold vp_in; decide) ?_
  rw [a_u_ne (f := a_u I (gq i + 2) 0 (tr9 m t (3 * i + 0))) (o := (gq i + 2)) (k := 1) (a := (gq i + 2)) (b := 2) (v := tr9 m t (3 * i + 1)) (fun q => absurd q.2 (by decide))]
  rw [a_u_ne (f := I) (o := (gq i + 2)) (k := 0) (a := (gq i + 2)) (b := 2) (v := tr9 m t (3 * i + 0)) (fun q => absurd q.2 (by decide))]
  rw [(hrow 2 (by decide))]
  refine aw_iload_n hC dX4_turnSources_19 rfl ?_
  refine kX4_119 hC rfl (m_turned (I := a_u (a_u I (gq i + 2) 0 (tr9 m t (3 * i + 0))) (gq i + 2) 1 (tr9 m t (3 * i + 1))) hT hR ((hGY.put hi).put hi) hg4 (hrs 2 (by decide)) ht3) dX4_turnSources_20 (tg_19 hT) rfl a_le a_le a_le a_le a_le rfl aPure_x (aPure_k ?_)
  show AW X 0 0 23 [some (.ref 19), some (.ref (gq i)), some (.int (nI t)), some (.int 2)] [.int (tr9 m t (3 * i + 2)), .int 2, .ref (gq i + 2)] T (a_u (a_u I (gq i + 2) 0 (tr9 m t (3 * i + 0))) (gq i + 2) 1 (tr9 m t (3 * i + 1))) J R
  refine aw_iastore_k (j := 2) hC dX4_turnSources_23 (hGY i hi).2.2.2.2 (by decide) (by unfold vp_in; decide) ?_
  refine aw_iinc (v := 3) (L2 := [some (.ref 19), some (.ref (gq i)), some (.int (nI t)), some (.int 3)]) hC dX4_turnSources_24 rfl (by decide) (by decide) rfl ?_
  refine aw_goto (tgt := 2) hC dX4_turnSources_27 (by decide) ?_
  refine aw_iload_n hC dX4_turnSources_2 rfl ?_
  refine aw_iconst (v := 3) hC dX4_turnSources_3 (by decide) ?_
  refine aw_icmp_ge (tgt := 30) hC dX4_turnSources_4 (by decide) (fun _ => ?_) (fun h4 => absurd h4 (by decide))
  show AW X 0 0 30 [some (.ref 19), some (.ref (gq i)), some (.int (nI t)), some (.int 3)] [] T (a_u (a_u (a_u I (gq i + 2) 0 (tr9 m t (3 * i + 0))) (gq i + 2) 1 (tr9 m t (3 * i + 1))) (gq i + 2) 2 (tr9 m t (3 * i + 2))) J R
  refine aw_aload_n hC dX4_turnSources_30 rfl ?_
  refine aw_getI hC dX4_turnSources_31 aF_X4_56 rfl (hGY i hi).2.1 ?_
  rw [a_u_ne (f := a_u (a_u I (gq i + 2) 0 (tr9 m t (3 * i + 0))) (gq i + 2) 1 (tr9 m t (3 * i + 1))) (o := (gq i + 2)) (k := 2) (a := (gq i)) (b := 0) (v := tr9 m t (3 * i + 2)) (fun q => absurd q.2 (by decide))]
  rw [a_u_ne (f := a_u I (gq i + 2) 0 (tr9 m t (3 * i + 0))) (o := (gq i + 2)) (k := 1) (a := (gq i)) (b := 0) (v := tr9 m t (3 * i + 1)) (fun q => absurd q.2 (by decide))]
  rw [a_u_ne (f := I) (o := (gq i + 2)) (k := 0) (a := (gq i)) (b := 0) (v := tr9 m t (3 * i + 0)) (fun q9 => absurd q9.1 (show gq i ≠ gq i + 2 by omega))]
  rw [(hGY i hi).2.2.1]
  refine aw_iload_n hC dX4_turnSources_34 rfl ?_
  refine aw_icmp_ne (tgt := 64) hC dX4_turnSources_35 (by decide) (fun h5 => ?_) (fun h5 => ?_)
  · show AW X 0 0 64 [some (.ref 19), some (.ref (gq i)), some (.int (nI t)), some (.int 3)] [] T (a_u (a_u (a_u I (gq i + 2) 0 (tr9 m t (3 * i + 0))) (gq i + 2) 1 (tr9 m t (3 * i + 1))) (gq i + 2) 2 (tr9 m t (3 * i + 2))) J R
    exact aw_return hC hq rfl dX4_turnSources_64 a_le a_le ⟨none, rfl, rfl, rfl, rfl, rfl, fun o ho => by simp only [a_u_row ho], fun a ha => by rw [upS_a ha]; rcases (show a = 0 ∨ a = 1 ∨ a = 2 by omega) with e9 | e9 | e9 <;> subst e9 <;> first | (rw [if_pos (by assumption)]; simp [a_u]) | (rw [if_neg (by assumption)]; simp [a_u])⟩
  · show AW X 0 0 38 [some (.ref 19), some (.ref (gq i)), some (.int (nI t)), some (.int 3)] [] T (a_u (a_u (a_u I (gq i + 2) 0 (tr9 m t (3 * i + 0))) (gq i + 2) 1 (tr9 m t (3 * i + 1))) (gq i + 2) 2 (tr9 m t (3 * i + 2))) J R
    refine aw_aload_n hC dX4_turnSources_38 rfl ?_
    refine aw_getR hC dX4_turnSources_39 aF_X4_116 rfl (hGY i hi).2.1 (hGY i hi).2.2.2.1 ?_
    refine aw_iconst (v := 0) hC dX4_turnSources_42 (by decide) ?_
    refine aw_iaload_k (j := 0) hC dX4_turnSources_43 (hGY i hi).2.2.2.2 (by decide) (by unfold vp_in; decide) ?_
    rw [a_u_ne (f := a_u (a_u I (gq i + 2) 0 (tr9 m t (3 * i + 0))) (gq i + 2) 1 (tr9 m t (3 * i + 1))) (o := (gq i + 2)) (k := 2) (a := (gq i + 2)) (b := 0) (v := tr9 m t (3 * i + 2)) (fun q => absurd q.2 (by decide))]
    rw [a_u_ne (f := a_u I (gq i + 2) 0 (tr9 m t (3 * i + 0))) (o := (gq i + 2)) (k := 1) (a := (gq i + 2)) (b := 0) (v := tr9 m t (3 * i + 1)) (fun q => absurd q.2 (by decide))]
    rw [a_u_self (f := I) (o := (gq i + 2)) (k := 0) (v := tr9 m t (3 * i + 0))]
    refine aw_istore_n (L2 := [some (.ref 19), some (.ref (gq i)), some (.int (nI t)), some (.int (tr9 m t (3 * i + 0)))]) hC dX4_turnSources_44 rfl (by decide) rfl ?_
    refine aw_aload_n hC dX4_turnSources_45 rfl ?_
    refine aw_getR hC dX4_turnSources_46 aF_X4_116 rfl (hGY i hi).2.1 (hGY i hi).2.2.2.1 ?_
    refine aw_iconst (v := 0) hC dX4_turnSources_49 (by decide) ?_
    refine aw_aload_n hC dX4_turnSources_50 rfl ?_
    refine aw_getR hC dX4_turnSources_51 aF_X4_116 rfl (hGY i hi).2.1 (hGY i hi).2.2.2.1 ?_
    refine aw_iconst (v := 1) hC dX4_turnSources_54 (by decide) ?_
    refine aw_iaload_k (j := 1) hC dX4_turnSources_55 (hGY i hi).2.2.2.2 (by decide) (by unfold vp_in; decide) ?_
    rw [a_u_ne (f := a_u (a_u I (gq i + 2) 0 (tr9 m t (3 * i + 0))) (gq i + 2) 1 (tr9 m t (3 * i + 1))) (o := (gq i + 2)) (k := 2) (a := (gq i + 2)) (b := 1) (v := tr9 m t (3 * i + 2)) (fun q => absurd q.2 (by decide))]
    rw [a_u_self (f := a_u I (gq i + 2) 0 (tr9 m t (3 * i + 0))) (o := (gq i + 2)) (k := 1) (v := tr9 m t (3 * i + 1))]
    refine aw_iastore_k (j := 0) hC dX4_turnSources_56 (hGY i hi).2.2.2.2 (by decide) (by unfold vp_in; decide) ?_
    refine aw_aload_n hC dX4_turnSources_57 rfl ?_
    refine aw_getR hC dX4_turnSources_58 aF_X4_116 rfl (hGY i hi).2.1 (hGY i hi).2.2.2.1 ?_
    refine aw_iconst (v := 1) hC dX4_turnSources_61 (by decide) ?_
    refine aw_iload_n hC dX4_turnSources_62 rfl ?_
    refine aw_iastore_k (j := 1) hC dX4_turnSources_63 (hGY i hi).2.2.2.2 (by decide) (by unfold vp_in; decide) ?_
    exact aw_return hC hq rfl dX4_turnSources_64 a_le a_le ⟨none, rfl, rfl, rfl, rfl, rfl, fun o ho => by simp only [a_u_row ho], fun a ha => by rw [upS_a ha]; rcases (show a = 0 ∨ a = 1 ∨ a = 2 by omega) with e9 | e9 | e9 <;> subst e9 <;> first | (rw [if_pos (by assumption)]; simp [a_u]) | (rw [if_neg (by assumption)]; simp [a_u])⟩
abbrev adC (x : Int32) : Int32 := ((x &&& 4) ||| ((x &&& 1) <<< ((1 : Int32) &&& 31))) ||| ((x &&& 2) >>> ((1 : Int32) &&& 31))
theorem and_bK {x : Int32} {k : Nat} (hk : k < 32) : x &&& bK k = if bt x k = true then bK k else 0 := b_ext fun i hi => by
  rw [b_and, bt_bK hk hi]
  by_cases zc : bt x k = true
  · rw [if_pos zc, bt_bK hk hi]
    by_cases zd : i = k
    · rw [zd, zc]; rfl
    · rw [decide_eq_false zd, Bool.and_false]
  · rw [if_neg zc, b_0]
    by_cases zd : i = k
    · rw [zd, Bool.eq_false_iff.mpr zc]; rfl
    · rw [decide_eq_false zd, Bool.and_false]
theorem ad_1 {x : Int32} : x &&& 1 = if bt x 0 = true then 1 else 0 := and_bK (k := 0) (by decide)
theorem ad_2 {x : Int32} : x &&& 2 = if bt x 1 = true then 2 else 0 := and_bK (k := 1) (by decide)
theorem ad_4 {x : Int32} : x &&& 4 = if bt x 2 = true then 4 else 0 := and_bK (k := 2) (by decide)
theorem ad_s {x : Int32} : (x >>> ((1 : Int32) &&& 31)) &&& 1 = if bt x 1 = true then 1 else 0 := by
  have h := bt_sshr (v := x) (f := 1) (by decide)
  have h2 : ((x >>> ((1 : Int32) &&& 31)) &&& 1 = 1) ↔ bt x 1 = true := h
  by_cases zc : bt x 1 = true
  · rw [if_pos zc]; exact h2.mpr zc
  · rw [if_neg zc, ad_1]
    by_cases zd : bt (x >>> ((1 : Int32) &&& 31)) 0 = true
    · have e : (x >>> ((1 : Int32) &&& 31)) &&& 1 = 1 := by rw [ad_1, if_pos zd]
      exact absurd (h2.mp e) zc
    · exact if_neg zd
/-- adopted bits by three -/
def ad3 (p q r : Bool) : Int32 := (if r then 4 else 0) ||| (if p then 2 else 0) ||| (if q then 1 else 0)
theorem adT_3 {x : Int32} : adT x = ad3 (bt x 0) (bt x 1) (bt x 2) := by
  show ((x &&& 4) ||| ((x &&& 1) <<< ((1 : Int32) &&& 31))) ||| ((x >>> ((1 : Int32) &&& 31)) &&& 1) = _
  rw [ad_1, ad_4, ad_s]
  cases bt x 0 <;> cases bt x 1 <;> cases bt x 2 <;> decide
theorem adC_3 {x : Int32} : adC x = ad3 (bt x 0) (bt x 1) (bt x 2) := by
  show ((x &&& 4) ||| ((x &&& 1) <<< ((1 : Int32) &&& 31))) ||| ((x &&& 2) >>> ((1 : Int32) &&& 31)) = _
  rw [ad_1, ad_4, ad_2]
  cases bt x 0 <;> cases bt x 1 <;> cases bt x 2 <;> decide
theorem adC_T {x : Int32} : adC x = adT x := adC_3.trans adT_3.symm
theorem adT_b {x : Int32} {a : Nat} (ha : a < 3) : bt (adT x) a = bt x (if a = 0 then 1 else if a = 1 then 0 else 2) := by
  rw [adT_3]
  rcases (show a = 0 ∨ a = 1 ∨ a = 2 by omega) with e | e | e <;> subst e
  · rw [if_pos rfl]; cases bt x 0 <;> cases bt x 1 <;> cases bt x 2 <;> decide
  · rw [if_neg (by decide), if_pos rfl]; cases bt x 0 <;> cases bt x 1 <;> cases bt x 2 <;> decide
  · rw [if_neg (by decide), if_neg (by decide)]; cases bt x 0 <;> cases bt x 1 <;> cases bt x 2 <;> decide
theorem adT_0 : adT 0 = 0 := by decide
set_option maxRecDepth 100000 in
theorem m_X3_turn {T : List aT} {I : aI} {J : aJ} {R : aR} {q : Nat} (hqt : T[q]? = some (.inr 3)) (h1 : R q 1 = some (q + 1)) (t1 : T[q + 1]? = some (.inl (.int, 3))) (h4 : R q 4 = some (q + 2)) (t2 : T[q + 2]? = some (.inl (.int, 3))) : MX3_turn 0 0 [.ref q] T I J R (aPure none T (a_u (a_ur (a_ur I (q + 1) (chgR (I (q + 1)) 0)) (q + 2) (chgR (I (q + 2)) 0)) q 3 (adC (I q 3))) J R) := by
  refine a_met (by decide +kernel) a_le (fun X hC hq => ?_)
  show AW X 0 0 0 [some (.ref q)] [] T I J R
  refine aw_aload_n hC dX3_turn_0 rfl ?_
  refine aw_getR hC dX3_turn_1 aF_X3_9 rfl hqt h1 ?_
  refine aw_iconst (v := 0) hC dX3_turn_4 (by decide) ?_
  refine kX3_29 hC rfl (m_X3_turnRow (I := I) (k := 0) t1 (N := 3) (by decide) (by decide)) dX3_turn_5 rfl a_le a_le a_le a_le a_le rfl aPure_x (aPure_k ?_)
  show AW X 0 0 8 [some (.ref q)] [] T (a_ur I (q + 1) (chgR (I (q + 1)) 0)) J R
  refine aw_aload_n hC dX3_turn_8 rfl ?_
  refine aw_getR hC dX3_turn_9 aF_X3_15 rfl hqt h4 ?_
  refine aw_iconst (v := 0) hC dX3_turn_12 (by decide) ?_
  refine kX3_29 hC rfl (m_X3_turnRow (I := a_ur I (q + 1) (chgR (I (q + 1)) 0)) (k := 0) t2 (N := 3) (by decide) (by decide)) dX3_turn_13 rfl a_le a_le a_le a_le a_le rfl aPure_x (aPure_k ?_)
  rw [show (a_ur I (q + 1) (chgR (I (q + 1)) 0)) (q + 2) = I (q + 2) from a_ur_ne (by omega)]
  show AW X 0 0 16 [some (.ref q)] [] T (a_ur (a_ur I (q + 1) (chgR (I (q + 1)) 0)) (q + 2) (chgR (I (q + 2)) 0)) J R
  refine aw_aload_n hC dX3_turn_16 rfl ?_
  refine aw_aload_n hC dX3_turn_17 rfl ?_
  refine aw_getI hC dX3_turn_18 aF_X3_22 rfl hqt ?_
  rw [a_ur_ne (f := a_ur I (q + 1) (chgR (I (q + 1)) 0)) (o := (q + 2)) (a := q) (g := chgR (I (q + 2)) 0) (show q ≠ q + 2 by omega)]
  rw [a_ur_ne (f := I) (o := (q + 1)) (a := q) (g := chgR (I (q + 1)) 0) (show q ≠ q + 1 by omega)]
  refine aw_iconst (v := 4) hC dX3_turn_21 (by decide) ?_
  refine aw_iand hC dX3_turn_22 ?_
  refine aw_aload_n hC dX3_turn_23 rfl ?_
  refine aw_getI hC dX3_turn_24 aF_X3_22 rfl hqt ?_
  rw [a_ur_ne (f := a_ur I (q + 1) (chgR (I (q + 1)) 0)) (o := (q + 2)) (a := q) (g := chgR (I (q + 2)) 0) (show q ≠ q + 2 by omega)]
  rw [a_ur_ne (f := I) (o := (q + 1)) (a := q) (g := chgR (I (q + 1)) 0) (show q ≠ q + 1 by omega)]
  refine aw_iconst (v := 1) hC dX3_turn_27 (by decide) ?_
  refine aw_iand hC dX3_turn_28 ?_
  refine aw_iconst (v := 1) hC dX3_turn_29 (by decide) ?_
  refine aw_ishl hC dX3_turn_30 ?_
  refine aw_ior hC dX3_turn_31 ?_
  refine aw_aload_n hC dX3_turn_32 rfl ?_
  refine aw_getI hC dX3_turn_33 aF_X3_22 rfl hqt ?_
  rw [a_ur_ne (f := a_ur I (q + 1) (chgR (I (q + 1)) 0)) (o := (q + 2)) (a := q) (g := chgR (I (q + 2)) 0) (show q ≠ q + 2 by omega)]
  rw [a_ur_ne (f := I) (o := (q + 1)) (a := q) (g := chgR (I (q + 1)) 0) (show q ≠ q + 1 by omega)]
  refine aw_iconst (v := 2) hC dX3_turn_36 (by decide) ?_
  refine aw_iand hC dX3_turn_37 ?_
  refine aw_iconst (v := 1) hC dX3_turn_38 (by decide) ?_
  refine aw_ishr hC dX3_turn_39 ?_
  refine aw_ior hC dX3_turn_40 ?_
  refine aw_putI hC dX3_turn_41 aF_X3_22 rfl rfl hqt ?_
  exact aw_return hC hq rfl dX3_turn_44 a_le a_le aPure_v
