theorem so_g : ∀ s, s < 22 → 10 ≤ s → (nI s - 10) / 3 = nI ((s - 10) / 3) := by decide +kernel
theorem so_a : ∀ s, s < 22 → 10 ≤ s → (nI s - 10) - (nI s - 10) / 3 * 3 = nI ((s - 10) % 3) := by decide +kernel
/-- how great a base can be -/
abbrev bsM (m : aI) (x : Nat) : Nat := 255 * 2 ^ iN m 61 (iN m 62 (x / 16))
/-- what holds of the model's rows -/
def InvE (m : aI) (g : Nat) : Prop := (∀ i a, i < g → a < 3 → m 58 (3 * iN m 62 i + a) &&& 2 ≠ 0 → m 65 (3 * i + a) = -1) ∧ (∀ x, x < 64 → m 69 x ≠ 0 → 0 < m 69 x) ∧ ∀ x a, x < 64 → a < 3 → bt (m 72 x) a = true → 0 ≤ m 73 (3 * x + a) ∧ (m 73 (3 * x + a)).toNatClampNeg ≤ bsM m x
theorem InvE.cs {m : aI} {g i a : Nat} (h : InvE m g) (hi : i < g) (ha : a < 3) (hc : m 65 (3 * i + a) ≠ -1) : ¬ m 58 (3 * iN m 62 i + a) &&& 2 ≠ 0 := fun q => hc (h.1 i a hi ha q)
/-- what the values have found -/
abbrev CFo (I m : aI) (mj : aJ) : Prop := ∀ f, f < 10 → I 11 f = sVal m mj f
abbrev dfC (m : aI) (x a : Nat) (v : Int32) : Prop := m 69 x ≠ 0 ∧ m 58 (3 * iN m 62 (x / 16) + a) &&& 2 = 0 ∧ m 70 (3 * x + a) ≠ v ∧ ¬ (bt (m 72 x) a = true ∧ m 73 (3 * x + a) = v)
abbrev cvV (m : aI) (v : Int32) (a b : Nat) : Int32 := (v >>> (nI (iN m 61 (iN m 62 (a / 16))) &&& 31)) <<< (nI (iN m 61 (iN m 62 (b / 16))) &&& 31)
set_option maxRecDepth 100000 in
theorem m_X2_fieldGives {T : List aT} {I : aI} {J : aJ} {R : aR} (hT : aPT T) (hR : aPR R) {m : aI} {g : Nat} {gq : Nat → Nat} (hG : CGn T I R m g gq) (hg : GW m g) (hY : CTy I m) {x : Nat} (hx : x < 16 * g) {mj : aJ} (hV : CFo I m mj) {f : Nat} (hf : f < 10) : MX2_fieldGives 0 0 [.ref 33, .int (nI x), .int (nI f)] T I J R (aPure (some (.int (gvA m mj x f))) T I J R) := by
  refine a_met (by decide +kernel) a_le (fun X hC hq => ?_)
  show AW X 0 0 0 [some (.ref 33), some (.int (nI x)), some (.int (nI f)), none] [] T I J R
  have hg4 := hg.g4
  have hty := hg.ty (x / 16) (by omega)
  refine aw_aload_n hC dX2_fieldGives_0 rfl ?_
  refine aw_getR hC dX2_fieldGives_1 aF_X2_24 rfl (tg_33 hT) (pr_33_2 hR) ?_
  refine aw_getR hC dX2_fieldGives_4 aF_X2_80 rfl (tg_8 hT) (pr_8_4 hR) ?_
  refine aw_iload_n hC dX2_fieldGives_7 rfl ?_
  refine aw_iaload_k (j := f) hC dX2_fieldGives_8 (tg_11 hT) (nI_clamp (by omega)) (vp_in_nI (by omega) (by decide)) ?_
  rw [(hV f hf)]
  refine aw_istore_n (L2 := [some (.ref 33), some (.int (nI x)), some (.int (nI f)), some (.int (sVal m mj f))]) hC dX2_fieldGives_9 rfl (by decide) rfl ?_
  refine aw_iload_n hC dX2_fieldGives_10 rfl ?_
  refine aw_if_ge (tgt := 18) hC dX2_fieldGives_11 (by decide) (fun h1 => ?_) (fun h1 => ?_)
  · show AW X 0 0 18 [some (.ref 33), some (.int (nI x)), some (.int (nI f)), some (.int (sVal m mj f))] [] T I J R
    refine aw_iload_n hC dX2_fieldGives_18 rfl ?_
    refine aw_aload_n hC dX2_fieldGives_19 rfl ?_
    refine aw_getR hC dX2_fieldGives_20 aF_X2_28 rfl (tg_33 hT) (pr_33_3 hR) ?_
    refine aw_iload_n hC dX2_fieldGives_23 rfl ?_
    refine kX2_85 hC rfl (m_X4_typeOf (I := I) hT hR hG hg (x := x) (by omega)) dX2_fieldGives_24 (tg_19 hT) rfl a_le a_le a_le a_le a_le rfl aPure_x (aPure_k ?_)
    show AW X 0 0 27 [some (.ref 33), some (.int (nI x)), some (.int (nI f)), some (.int (sVal m mj f))] [.ref (27 + 2 * (iN m 62 (x / 16))), .int (sVal m mj f)] T I J R
    refine aw_getI hC dX2_fieldGives_27 aF_X2_89 rfl (ty_tg hT (hg.ty (x / 16) (by omega)).2) ?_
    rw [((hY.up (hg.ty (x / 16) (by omega)).2).trans (hg.up _ (hg.ty (x / 16) (by omega)).2).1)]
    refine aw_ishl hC dX2_fieldGives_30 ?_
    exact aw_ireturn hC hq rfl dX2_fieldGives_31 a_le a_le (aPure_i (by unfold gvA; rw [if_neg (Int32.not_lt.mpr (by assumption))]))
  · show AW X 0 0 14 [some (.ref 33), some (.int (nI x)), some (.int (nI f)), some (.int (sVal m mj f))] [] T I J R
    refine aw_iconst (v := (-1)) hC dX2_fieldGives_14 (by decide) ?_
    refine aw_goto (tgt := 31) hC dX2_fieldGives_15 (by decide) ?_
    exact aw_ireturn hC hq rfl dX2_fieldGives_31 a_le a_le (aPure_i (by unfold gvA; rw [if_pos (Int32.not_le.mp (by assumption))]))
set_option maxRecDepth 100000 in
theorem m_X2_converted {T : List aT} {I : aI} {J : aJ} {R : aR} (hT : aPT T) (hR : aPR R) {m : aI} {g : Nat} {gq : Nat → Nat} (hG : CGn T I R m g gq) (hg : GW m g) (hY : CTy I m) {x y : Nat} (hx : x < 16 * g) (hy : y < 16 * g) (v : Int32) : MX2_converted 0 0 [.ref 33, .int v, .int (nI x), .int (nI y)] T I J R (aPure (some (.int (cvV m v x y))) T I J R) := by
  refine a_met (by decide +kernel) a_le (fun X hC hq => ?_)
  show AW X 0 0 0 [some (.ref 33), some (.int v), some (.int (nI x)), some (.int (nI y))] [] T I J R
  have hg4 := hg.g4
  have hty := hg.ty (x / 16) (by omega)
  refine aw_iload_n hC dX2_converted_0 rfl ?_
  refine aw_aload_n hC dX2_converted_1 rfl ?_
  refine aw_getR hC dX2_converted_2 aF_X2_28 rfl (tg_33 hT) (pr_33_3 hR) ?_
  refine aw_iload_n hC dX2_converted_5 rfl ?_
  refine kX2_85 hC rfl (m_X4_typeOf (I := I) hT hR hG hg (x := x) (by omega)) dX2_converted_6 (tg_19 hT) rfl a_le a_le a_le a_le a_le rfl aPure_x (aPure_k ?_)
  show AW X 0 0 9 [some (.ref 33), some (.int v), some (.int (nI x)), some (.int (nI y))] [.ref (27 + 2 * (iN m 62 (x / 16))), .int v] T I J R
  refine aw_getI hC dX2_converted_9 aF_X2_89 rfl (ty_tg hT (hg.ty (x / 16) (by omega)).2) ?_
  rw [((hY.up (hg.ty (x / 16) (by omega)).2).trans (hg.up _ (hg.ty (x / 16) (by omega)).2).1)]
  refine aw_ishr hC dX2_converted_12 ?_
  refine aw_aload_n hC dX2_converted_13 rfl ?_
  refine aw_getR hC dX2_converted_14 aF_X2_28 rfl (tg_33 hT) (pr_33_3 hR) ?_
  refine aw_iload_n hC dX2_converted_17 rfl ?_
  refine kX2_85 hC rfl (m_X4_typeOf (I := I) hT hR hG hg (x := y) (by omega)) dX2_converted_18 (tg_19 hT) rfl a_le a_le a_le a_le a_le rfl aPure_x (aPure_k ?_)
  show AW X 0 0 21 [some (.ref 33), some (.int v), some (.int (nI x)), some (.int (nI y))] [.ref (27 + 2 * (iN m 62 (y / 16))), .int (v >>> ((nI (iN m 61 (iN m 62 (x / 16)))) &&& 31))] T I J R
  refine aw_getI hC dX2_converted_21 aF_X2_89 rfl (ty_tg hT (hg.ty (y / 16) (by omega)).2) ?_
  rw [((hY.up (hg.ty (y / 16) (by omega)).2).trans (hg.up _ (hg.ty (y / 16) (by omega)).2).1)]
  refine aw_ishl hC dX2_converted_24 ?_
  exact aw_ireturn hC hq rfl dX2_converted_25 a_le a_le (aPure_i (by rfl))
theorem gvB_n {m : aI} {x s : Nat} (h : m 69 (16 * ((s - 10) / 3) + x % 16) = 0 ∨ 2 < m 91 (16 * ((s - 10) / 3) + x % 16)) : (-1 : Int32) = gvB m x s := (if_pos h).symm
theorem gvB_y {m : aI} {x s : Nat} {v : Int32} (h : ¬ (m 69 (16 * ((s - 10) / 3) + x % 16) = 0 ∨ 2 < m 91 (16 * ((s - 10) / 3) + x % 16))) (e : v = m 70 (3 * (16 * ((s - 10) / 3) + x % 16) + (s - 10) % 3)) : cvV m v (16 * ((s - 10) / 3) + x % 16) x = gvB m x s := by
  unfold gvB cvV
  rw [if_neg h, e, show (16 * ((s - 10) / 3) + x % 16) / 16 = (s - 10) / 3 by omega]
theorem gt2 {v : Int32} (h : 0 ≤ v ∧ v ≤ 4) : 2 < v ↔ (v = 3 ∨ v = 4) := by
  simp only [i_lt, i_le, i_eq, Int32.reduceToInt] at *; omega
set_option maxRecDepth 100000 in
theorem m_X2_sourceGives {T : List aT} {I : aI} {J : aJ} {R : aR} (hT : aPT T) (hR : aPR R) {m : aI} {g : Nat} {gq : Nat → Nat} (hG : CGn T I R m g gq) (hg : GW m g) (hY : CTy I m) {eq : Nat → Nat} (hE : CEn T I R m eq) {x : Nat} (hx : x < 16 * g) {mj : aJ} (hV : CFo I m mj) (hi : InvE m g) (hN : ∀ y, y < 16 * (x / 16) → I 36 y = m 91 y ∧ (0 ≤ m 91 y ∧ m 91 y ≤ 4)) {a : Nat} (ha : a < 3) : MX2_sourceGives 0 0 [.ref 33, .int (nI x), .int (nI a)] T I J R (aPure (some (.int (sGives m mj x a))) T I J R) := by
  refine a_met (by decide +kernel) a_le (fun X hC hq => ?_)
  show AW X 0 0 0 [some (.ref 33), some (.int (nI x)), some (.int (nI a)), none, none, none] [] T I J R
  have hg4 := hg.g4
  have hty := hg.ty (x / 16) (by omega)
  refine aw_aload_n hC dX2_sourceGives_0 rfl ?_
  refine aw_getR hC dX2_sourceGives_1 aF_X2_28 rfl (tg_33 hT) (pr_33_3 hR) ?_
  refine aw_iload_n hC dX2_sourceGives_4 rfl ?_
  refine kX2_50 hC rfl (m_X4_generatorOf (I := I) hT hR hG hg (x := x) (by omega)) dX2_sourceGives_5 (tg_19 hT) rfl a_le a_le a_le a_le a_le rfl aPure_x (aPure_k ?_)
  show AW X 0 0 8 [some (.ref 33), some (.int (nI x)), some (.int (nI a)), none, none, none] [.ref (gq (x / 16))] T I J R
  refine aw_getR hC dX2_sourceGives_8 aF_X2_54 rfl (hG.tg (by omega)) (hG.r3 (by omega)) ?_
  refine aw_iload_n hC dX2_sourceGives_11 rfl ?_
  refine aw_iaload_k (j := a) hC dX2_sourceGives_12 (hG.t2 (by omega)) (nI_clamp (by omega)) (vp_in_nI (by omega) (by decide)) ?_
  rw [(hG.sr (by omega) ha)]
  rcases hg.so (3 * (x / 16) + a) (by omega) with e5 | e5
  · rw [show m 65 (3 * (x / 16) + a) = -1 from e5]
    refine aw_istore_n (L2 := [some (.ref 33), some (.int (nI x)), some (.int (nI a)), some (.int (-1)), none, none]) hC dX2_sourceGives_13 rfl (by decide) rfl ?_
    refine aw_iload_n hC dX2_sourceGives_14 rfl ?_
    refine aw_iconst (v := (-1)) hC dX2_sourceGives_15 (by decide) ?_
    refine aw_icmp_ne (tgt := 21) hC dX2_sourceGives_16 (by decide) (fun h => absurd rfl h) (fun _ => ?_)
    show AW X 0 0 19 [some (.ref 33), some (.int (nI x)), some (.int (nI a)), some (.int (-1)), none, none] [] T I J R
    refine aw_iconst (v := 0) hC dX2_sourceGives_19 (by decide) ?_
    exact aw_ireturn hC hq rfl dX2_sourceGives_20 a_le a_le (aPure_i (gv_0 (Or.inl e5)))
  · obtain ⟨s, hs⟩ : ∃ s, s = iN m 65 (3 * (x / 16) + a) := ⟨_, rfl⟩
    rw [show m 65 (3 * (x / 16) + a) = nI s from by rw [hs]; exact e5.1]
    have hcs : ¬ m 58 (3 * iN m 62 (x / 16) + a) &&& 2 ≠ 0 := hi.cs (by omega) ha (fun q => nI_ne1 e5.2.1 (e5.1.symm.trans q))
    have h22 : s < 22 := by rw [hs]; exact e5.2.1
    have hlow : 10 ≤ s → (s - 10) / 3 < x / 16 := fun q => by have := e5.2.2 (by rw [← hs]; exact q); rw [← hs] at this; omega
    refine aw_istore_n (L2 := [some (.ref 33), some (.int (nI x)), some (.int (nI a)), some (.int (nI s)), none, none]) hC dX2_sourceGives_13 rfl (by decide) rfl ?_
    refine aw_iload_n hC dX2_sourceGives_14 rfl ?_
    refine aw_iconst (v := (-1)) hC dX2_sourceGives_15 (by decide) ?_
    refine aw_icmp_ne (tgt := 21) hC dX2_sourceGives_16 (by decide) (fun _ => ?_) (fun h => absurd h (nI_ne1 h22))
    show AW X 0 0 21 [some (.ref 33), some (.int (nI x)), some (.int (nI a)), some (.int (nI s)), none, none] [] T I J R
    refine aw_iload_n hC dX2_sourceGives_21 rfl ?_
    refine aw_bipush (v := 10) hC dX2_sourceGives_22 (by decide) ?_
    refine aw_icmp_ge (tgt := 34) hC dX2_sourceGives_24 (by decide) (fun h1 => ?_) (fun h1 => ?_)
    · show AW X 0 0 34 [some (.ref 33), some (.int (nI x)), some (.int (nI a)), some (.int (nI s)), none, none] [] T I J R
      have h1n : 10 ≤ s := (nI_leI (a := 10) (b := s) (by omega) (by omega)).mp h1
      refine aw_bipush (v := 16) hC dX2_sourceGives_34 (by decide) ?_
      refine aw_iload_n hC dX2_sourceGives_36 rfl ?_
      refine kX2_62 hC rfl (m_X4_generatorOfSource (nI s)) dX2_sourceGives_37 rfl a_le a_le a_le a_le a_le rfl aPure_x (aPure_k ?_)
      show AW X 0 0 40 [some (.ref 33), some (.int (nI x)), some (.int (nI a)), some (.int (nI s)), none, none] [.int ((nI s - 10) / 3), .int 16] T I J R
      rw [so_g s (by omega) (by omega)]
      refine aw_imul hC dX2_sourceGives_40 ?_
      rw [show 16 * (nI ((s - 10) / 3)) = nI (16 * ((s - 10) / 3)) from pk_mul 16 ((s - 10) / 3)]
      refine aw_iload_n hC dX2_sourceGives_41 rfl ?_
      refine aw_bipush (v := 16) hC dX2_sourceGives_42 (by decide) ?_
      refine aw_irem hC dX2_sourceGives_44 (by decide) ?_
      rw [show (nI x) - (nI x) / 16 * 16 = nI (x % 16) from pk_rem (a := x) (d := 16) (by omega) (by decide) (by decide)]
      refine aw_iadd hC dX2_sourceGives_45 ?_
      rw [show (nI (16 * ((s - 10) / 3))) + (nI (x % 16)) = nI ((16 * ((s - 10) / 3)) + (x % 16)) from nI_add (16 * ((s - 10) / 3)) (x % 16)]
      refine aw_istore (L2 := [some (.ref 33), some (.int (nI x)), some (.int (nI a)), some (.int (nI s)), some (.int (nI ((16 * ((s - 10) / 3)) + (x % 16)))), none]) hC dX2_sourceGives_46 (by decide) rfl ?_
      refine aw_aload_n hC dX2_sourceGives_48 rfl ?_
      refine aw_getR hC dX2_sourceGives_49 aF_X2_28 rfl (tg_33 hT) (pr_33_3 hR) ?_
      refine aw_getR hC dX2_sourceGives_52 aF_X2_65 rfl (tg_19 hT) (pr_19_7 hR) ?_
      refine aw_iload hC dX2_sourceGives_55 rfl ?_
      have hlw := hlow (by omega)
      have hn9 := hN ((16 * ((s - 10) / 3)) + (x % 16)) (by omega)
      by_cases h69 : m 69 ((16 * ((s - 10) / 3)) + (x % 16)) = 0
      · show AW X 0 0 57 [some (.ref 33), some (.int (nI x)), some (.int (nI a)), some (.int (nI s)), some (.int (nI ((16 * ((s - 10) / 3)) + (x % 16)))), none] [.int (nI ((16 * ((s - 10) / 3)) + (x % 16))), .ref 25] T I J R
        refine aw_aaloadN_k (j := ((16 * ((s - 10) / 3)) + (x % 16))) hC dX2_sourceGives_57 (tg_25 hT) (nI_clamp (by omega)) (vp_in_nI (by omega) (by decide)) (hE.no (by omega) h69) ?_
        refine aw_astoreN (L2 := [some (.ref 33), some (.int (nI x)), some (.int (nI a)), some (.int (nI s)), some (.int (nI ((16 * ((s - 10) / 3)) + (x % 16)))), some (.null)]) hC dX2_sourceGives_58 (by decide) rfl ?_
        refine aw_aloadN hC dX2_sourceGives_60 rfl ?_
        refine aw_ifnullN (tgt := 87) hC dX2_sourceGives_62 (by decide) ?_
        refine aw_iconst (v := (-1)) hC dX2_sourceGives_87 (by decide) ?_
        exact aw_ireturn hC hq rfl dX2_sourceGives_88 a_le a_le (aPure_i (gv_b (by rw [← hs]; exact ⟨by rw [hs]; exact e5.1, h22⟩) hcs (by rw [← hs]; omega) (by rw [← hs]; exact gvB_n (by first | exact Or.inl h69 | exact Or.inr ((gt2 hn9.2).mpr (by first | exact Or.inl (by assumption) | exact Or.inr (by assumption)))))))
      · show AW X 0 0 57 [some (.ref 33), some (.int (nI x)), some (.int (nI a)), some (.int (nI s)), some (.int (nI ((16 * ((s - 10) / 3)) + (x % 16)))), none] [.int (nI ((16 * ((s - 10) / 3)) + (x % 16))), .ref 25] T I J R
        refine aw_aaloadR_k (j := ((16 * ((s - 10) / 3)) + (x % 16))) hC dX2_sourceGives_57 (tg_25 hT) (nI_clamp (by omega)) (vp_in_nI (by omega) (by decide)) (hE.rf (by omega) h69) ?_
        refine aw_astore (L2 := [some (.ref 33), some (.int (nI x)), some (.int (nI a)), some (.int (nI s)), some (.int (nI ((16 * ((s - 10) / 3)) + (x % 16)))), some (.ref (eq ((16 * ((s - 10) / 3)) + (x % 16))))]) hC dX2_sourceGives_58 (by decide) rfl ?_
        refine aw_aload hC dX2_sourceGives_60 rfl ?_
        refine aw_ifnull hC dX2_sourceGives_62 ?_
        refine aw_aload_n hC dX2_sourceGives_65 rfl ?_
        refine aw_getR hC dX2_sourceGives_66 aF_X2_18 rfl (tg_33 hT) (pr_33_4 hR) ?_
        refine aw_iload hC dX2_sourceGives_69 rfl ?_
        refine aw_iaload_k (j := ((16 * ((s - 10) / 3)) + (x % 16))) hC dX2_sourceGives_71 (tg_36 hT) (nI_clamp (by omega)) (vp_in_nI (by omega) (by decide)) ?_
        rw [hn9.1]
        refine aw_iconst (v := 3) hC dX2_sourceGives_72 (by decide) ?_
        refine aw_icmp_eq (tgt := 87) hC dX2_sourceGives_73 (by decide) (fun h2 => ?_) (fun h2 => ?_)
        · show AW X 0 0 87 [some (.ref 33), some (.int (nI x)), some (.int (nI a)), some (.int (nI s)), some (.int (nI ((16 * ((s - 10) / 3)) + (x % 16)))), some (.ref (eq ((16 * ((s - 10) / 3)) + (x % 16))))] [] T I J R
          refine aw_iconst (v := (-1)) hC dX2_sourceGives_87 (by decide) ?_
          exact aw_ireturn hC hq rfl dX2_sourceGives_88 a_le a_le (aPure_i (gv_b (by rw [← hs]; exact ⟨by rw [hs]; exact e5.1, h22⟩) hcs (by rw [← hs]; omega) (by rw [← hs]; exact gvB_n (by first | exact Or.inl h69 | exact Or.inr ((gt2 hn9.2).mpr (by first | exact Or.inl (by assumption) | exact Or.inr (by assumption)))))))
        · show AW X 0 0 76 [some (.ref 33), some (.int (nI x)), some (.int (nI a)), some (.int (nI s)), some (.int (nI ((16 * ((s - 10) / 3)) + (x % 16)))), some (.ref (eq ((16 * ((s - 10) / 3)) + (x % 16))))] [] T I J R
          refine aw_aload_n hC dX2_sourceGives_76 rfl ?_
          refine aw_getR hC dX2_sourceGives_77 aF_X2_18 rfl (tg_33 hT) (pr_33_4 hR) ?_
          refine aw_iload hC dX2_sourceGives_80 rfl ?_
          refine aw_iaload_k (j := ((16 * ((s - 10) / 3)) + (x % 16))) hC dX2_sourceGives_82 (tg_36 hT) (nI_clamp (by omega)) (vp_in_nI (by omega) (by decide)) ?_
          rw [hn9.1]
          refine aw_iconst (v := 4) hC dX2_sourceGives_83 (by decide) ?_
          refine aw_icmp_ne (tgt := 89) hC dX2_sourceGives_84 (by decide) (fun h3 => ?_) (fun h3 => ?_)
          · show AW X 0 0 89 [some (.ref 33), some (.int (nI x)), some (.int (nI a)), some (.int (nI s)), some (.int (nI ((16 * ((s - 10) / 3)) + (x % 16)))), some (.ref (eq ((16 * ((s - 10) / 3)) + (x % 16))))] [] T I J R
            refine aw_aload_n hC dX2_sourceGives_89 rfl ?_
            refine aw_aload hC dX2_sourceGives_90 rfl ?_
            refine aw_getR hC dX2_sourceGives_92 aF_X2_69 rfl (hE.tg (by omega) h69) (hE.r1 (by omega) h69) ?_
            refine aw_iload_n hC dX2_sourceGives_95 rfl ?_
            refine kX2_73 hC rfl (m_X4_attributeOfSource (nI s)) dX2_sourceGives_96 rfl a_le a_le a_le a_le a_le rfl aPure_x (aPure_k ?_)
            show AW X 0 0 99 [some (.ref 33), some (.int (nI x)), some (.int (nI a)), some (.int (nI s)), some (.int (nI ((16 * ((s - 10) / 3)) + (x % 16)))), some (.ref (eq ((16 * ((s - 10) / 3)) + (x % 16))))] [.int ((nI s - 10) - (nI s - 10) / 3 * 3), .ref (eq ((16 * ((s - 10) / 3)) + (x % 16)) + 1), .ref 33] T I J R
            rw [so_a s (by omega) (by omega)]
            refine aw_iaload_k (j := ((s - 10) % 3)) hC dX2_sourceGives_99 (hE.t1 (by omega) h69) (nI_clamp (by omega)) (vp_in_nI (by omega) (by decide)) ?_
            rw [(hE.vl (by omega) h69 (by omega))]
            refine aw_iload hC dX2_sourceGives_100 rfl ?_
            refine aw_iload_n hC dX2_sourceGives_102 rfl ?_
            refine kX2_76 hC rfl (m_X2_converted (I := I) hT hR hG hg hY (x := ((16 * ((s - 10) / 3)) + (x % 16))) (y := x) (by omega) (by omega) (m 70 (3 * ((16 * ((s - 10) / 3)) + (x % 16)) + (s - 10) % 3))) dX2_sourceGives_103 (tg_33 hT) rfl a_le a_le a_le a_le a_le rfl aPure_x (aPure_k ?_)
            show AW X 0 0 106 [some (.ref 33), some (.int (nI x)), some (.int (nI a)), some (.int (nI s)), some (.int (nI ((16 * ((s - 10) / 3)) + (x % 16)))), some (.ref (eq ((16 * ((s - 10) / 3)) + (x % 16))))] [.int (cvV m (m 70 (3 * ((16 * ((s - 10) / 3)) + (x % 16)) + (s - 10) % 3)) ((16 * ((s - 10) / 3)) + (x % 16)) x)] T I J R
            exact aw_ireturn hC hq rfl dX2_sourceGives_106 a_le a_le (aPure_i (gv_b (by rw [← hs]; exact ⟨by rw [hs]; exact e5.1, h22⟩) hcs (by rw [← hs]; omega) (by rw [← hs]; exact gvB_y (fun q => q.elim h69 (fun z => ((gt2 hn9.2).mp z).elim (by assumption) (by assumption))) rfl)))
          · show AW X 0 0 87 [some (.ref 33), some (.int (nI x)), some (.int (nI a)), some (.int (nI s)), some (.int (nI ((16 * ((s - 10) / 3)) + (x % 16)))), some (.ref (eq ((16 * ((s - 10) / 3)) + (x % 16))))] [] T I J R
            refine aw_iconst (v := (-1)) hC dX2_sourceGives_87 (by decide) ?_
            exact aw_ireturn hC hq rfl dX2_sourceGives_88 a_le a_le (aPure_i (gv_b (by rw [← hs]; exact ⟨by rw [hs]; exact e5.1, h22⟩) hcs (by rw [← hs]; omega) (by rw [← hs]; exact gvB_n (by first | exact Or.inl h69 | exact Or.inr ((gt2 hn9.2).mpr (by first | exact Or.inl (by assumption) | exact Or.inr (by assumption)))))))
    · show AW X 0 0 27 [some (.ref 33), some (.int (nI x)), some (.int (nI a)), some (.int (nI s)), none, none] [] T I J R
      have h1n : ¬ 10 ≤ s := fun q9 => h1 ((nI_leI (a := 10) (b := s) (by omega) (by omega)).mpr q9)
      refine aw_aload_n hC dX2_sourceGives_27 rfl ?_
      refine aw_iload_n hC dX2_sourceGives_28 rfl ?_
      refine aw_iload_n hC dX2_sourceGives_29 rfl ?_
      refine kX2_59 hC rfl (m_X2_fieldGives (I := I) hT hR hG hg hY (x := x) (by omega) hV (f := s) (by omega)) dX2_sourceGives_30 (tg_33 hT) rfl a_le a_le a_le a_le a_le rfl aPure_x (aPure_k ?_)
      show AW X 0 0 33 [some (.ref 33), some (.int (nI x)), some (.int (nI a)), some (.int (nI s)), none, none] [.int (gvA m mj x s)] T I J R
      exact aw_ireturn hC hq rfl dX2_sourceGives_33 a_le a_le (aPure_i (gv_a (by rw [← hs]; exact ⟨by rw [hs]; exact e5.1, h22⟩) hcs (by rw [← hs]; omega) (by rw [← hs])))
set_option maxRecDepth 100000 in
theorem m_X3_isAdoptedOn {T : List aT} {I : aI} {J : aJ} {R : aR} (hT : aPT T) (hR : aPR R) {m : aI} {eq : Nat → Nat} (hE : CEn T I R m eq) {x a : Nat} (hx : x < 64) (h69 : m 69 x ≠ 0) (ha : a < 3) (v : Int32) : MX3_isAdoptedOn 0 0 [.ref (eq x), .int (nI a), .int v] T I J R (aPure (some (.int (bI (decide (bt (m 72 x) a = true ∧ m 73 (3 * x + a) = v))))) T I J R) := by
  refine a_met (by decide +kernel) a_le (fun X hC hq => ?_)
  show AW X 0 0 0 [some (.ref (eq x)), some (.int (nI a)), some (.int v)] [] T I J R
  refine aw_aload_n hC dX3_isAdoptedOn_0 rfl ?_
  refine aw_getI hC dX3_isAdoptedOn_1 aF_X3_22 rfl (hE.tg (by omega) h69) ?_
  rw [(hE.ad (by omega) h69)]
  refine aw_iconst (v := 1) hC dX3_isAdoptedOn_4 (by decide) ?_
  refine aw_iload_n hC dX3_isAdoptedOn_5 rfl ?_
  refine aw_ishl hC dX3_isAdoptedOn_6 ?_
  refine aw_iand hC dX3_isAdoptedOn_7 ?_
  refine aw_if_eq (tgt := 25) hC dX3_isAdoptedOn_8 (by decide) (fun h1 => ?_) (fun h1 => ?_)
  · show AW X 0 0 25 [some (.ref (eq x)), some (.int (nI a)), some (.int v)] [] T I J R
    refine aw_iconst (v := 0) hC dX3_isAdoptedOn_25 (by decide) ?_
    exact aw_zreturn hC hq rfl (Or.inl rfl) dX3_isAdoptedOn_26 a_le a_le (aPure_i (bI_no (fun q => by first | exact absurd q.2 (by assumption) | exact absurd ((bt_and (by omega)).mpr q.1) (not_not_intro (by assumption)))))
  · show AW X 0 0 11 [some (.ref (eq x)), some (.int (nI a)), some (.int v)] [] T I J R
    refine aw_aload_n hC dX3_isAdoptedOn_11 rfl ?_
    refine aw_getR hC dX3_isAdoptedOn_12 aF_X3_15 rfl (hE.tg (by omega) h69) (hE.r4 (by omega) h69) ?_
    refine aw_iload_n hC dX3_isAdoptedOn_15 rfl ?_
    refine aw_iaload_k (j := a) hC dX3_isAdoptedOn_16 (hE.t2 (by omega) h69) (nI_clamp (by omega)) (vp_in_nI (by omega) (by decide)) ?_
    refine aw_iload_n hC dX3_isAdoptedOn_17 rfl ?_
    have hbt : bt (m 72 x) a = true := (bt_and (by omega)).mp (by assumption)
    rw [hE.bs (by omega) h69 ha hbt]
    refine aw_icmp_ne (tgt := 25) hC dX3_isAdoptedOn_18 (by decide) (fun h2 => ?_) (fun h2 => ?_)
    · show AW X 0 0 25 [some (.ref (eq x)), some (.int (nI a)), some (.int v)] [] T I J R
      refine aw_iconst (v := 0) hC dX3_isAdoptedOn_25 (by decide) ?_
      exact aw_zreturn hC hq rfl (Or.inl rfl) dX3_isAdoptedOn_26 a_le a_le (aPure_i (bI_no (fun q => by first | exact absurd q.2 (by assumption) | exact absurd ((bt_and (by omega)).mpr q.1) (not_not_intro (by assumption)))))
    · show AW X 0 0 21 [some (.ref (eq x)), some (.int (nI a)), some (.int v)] [] T I J R
      refine aw_iconst (v := 1) hC dX3_isAdoptedOn_21 (by decide) ?_
      refine aw_goto (tgt := 26) hC dX3_isAdoptedOn_22 (by decide) ?_
      exact aw_zreturn hC hq rfl (Or.inr rfl) dX3_isAdoptedOn_26 a_le a_le (aPure_i (bI_yes ⟨hbt, by assumption⟩))
set_option maxRecDepth 100000 in
theorem m_X2_isDiffering {T : List aT} {I : aI} {J : aJ} {R : aR} (hT : aPT T) (hR : aPR R) {m : aI} {g : Nat} {gq : Nat → Nat} (hG : CGn T I R m g gq) (hg : GW m g) (hY : CTy I m) {eq : Nat → Nat} (hE : CEn T I R m eq) {x : Nat} (hx : x < 16 * g) {a : Nat} (ha : a < 3) (v : Int32) : MX2_isDiffering 0 0 [.ref 33, .int (nI x), .int (nI a), .int v] T I J R (aPure (some (.int (bI (decide (dfC m x a v))))) T I J R) := by
  refine a_met (by decide +kernel) a_le (fun X hC hq => ?_)
  show AW X 0 0 0 [some (.ref 33), some (.int (nI x)), some (.int (nI a)), some (.int v), none] [] T I J R
  have hg4 := hg.g4
  have hty := hg.ty (x / 16) (by omega)
  refine aw_aload_n hC dX2_isDiffering_0 rfl ?_
  refine aw_getR hC dX2_isDiffering_1 aF_X2_28 rfl (tg_33 hT) (pr_33_3 hR) ?_
  refine aw_getR hC dX2_isDiffering_4 aF_X2_65 rfl (tg_19 hT) (pr_19_7 hR) ?_
  refine aw_iload_n hC dX2_isDiffering_7 rfl ?_
  by_cases h69 : m 69 x = 0
  · show AW X 0 0 8 [some (.ref 33), some (.int (nI x)), some (.int (nI a)), some (.int v), none] [.int (nI x), .ref 25] T I J R
    refine aw_aaloadN_k (j := x) hC dX2_isDiffering_8 (tg_25 hT) (nI_clamp (by omega)) (vp_in_nI (by omega) (by decide)) (hE.no (by omega) h69) ?_
    refine aw_astoreN (L2 := [some (.ref 33), some (.int (nI x)), some (.int (nI a)), some (.int v), some (.null)]) hC dX2_isDiffering_9 (by decide) rfl ?_
    refine aw_aloadN hC dX2_isDiffering_11 rfl ?_
    refine aw_ifnullN (tgt := 32) hC dX2_isDiffering_13 (by decide) ?_
    refine aw_iconst (v := 0) hC dX2_isDiffering_32 (by decide) ?_
    exact aw_zreturn hC hq rfl (Or.inl rfl) dX2_isDiffering_33 a_le a_le (aPure_i (bI_no (fun q => by first | exact absurd h69 q.1 | exact absurd q.2.1 (bI_dn.mp (by assumption)) | exact absurd (by assumption) q.2.2.1 | exact absurd (bI_dn.mp (by assumption)) q.2.2.2)))
  · show AW X 0 0 8 [some (.ref 33), some (.int (nI x)), some (.int (nI a)), some (.int v), none] [.int (nI x), .ref 25] T I J R
    refine aw_aaloadR_k (j := x) hC dX2_isDiffering_8 (tg_25 hT) (nI_clamp (by omega)) (vp_in_nI (by omega) (by decide)) (hE.rf (by omega) h69) ?_
    refine aw_astore (L2 := [some (.ref 33), some (.int (nI x)), some (.int (nI a)), some (.int v), some (.ref (eq x))]) hC dX2_isDiffering_9 (by decide) rfl ?_
    refine aw_aload hC dX2_isDiffering_11 rfl ?_
    refine aw_ifnull hC dX2_isDiffering_13 ?_
    refine aw_aload_n hC dX2_isDiffering_16 rfl ?_
    refine aw_getR hC dX2_isDiffering_17 aF_X2_28 rfl (tg_33 hT) (pr_33_3 hR) ?_
    refine aw_iload_n hC dX2_isDiffering_20 rfl ?_
    refine kX2_85 hC rfl (m_X4_typeOf (I := I) hT hR hG hg (x := x) (by omega)) dX2_isDiffering_21 (tg_19 hT) rfl a_le a_le a_le a_le a_le rfl aPure_x (aPure_k ?_)
    show AW X 0 0 24 [some (.ref 33), some (.int (nI x)), some (.int (nI a)), some (.int v), some (.ref (eq x))] [.ref (27 + 2 * (iN m 62 (x / 16)))] T I J R
    refine aw_iload_n hC dX2_isDiffering_24 rfl ?_
    refine aw_iconst (v := 2) hC dX2_isDiffering_25 (by decide) ?_
    refine kX2_107 hC rfl (m_X9_is (I := I) hT hR hY (t := (iN m 62 (x / 16))) (a := a) (by omega) (by omega) (2 : Int32)) dX2_isDiffering_26 (ty_tg hT (by omega)) rfl a_le a_le a_le a_le a_le rfl aPure_x (aPure_k ?_)
    show AW X 0 0 29 [some (.ref 33), some (.int (nI x)), some (.int (nI a)), some (.int v), some (.ref (eq x))] [.int (bI (decide (m 58 (3 * (iN m 62 (x / 16)) + a) &&& (2 : Int32) ≠ 0)))] T I J R
    refine aw_if_eq (tgt := 34) hC dX2_isDiffering_29 (by decide) (fun h1 => ?_) (fun h1 => ?_)
    · show AW X 0 0 34 [some (.ref 33), some (.int (nI x)), some (.int (nI a)), some (.int v), some (.ref (eq x))] [] T I J R
      refine aw_aload hC dX2_isDiffering_34 rfl ?_
      refine aw_getR hC dX2_isDiffering_36 aF_X2_69 rfl (hE.tg (by omega) h69) (hE.r1 (by omega) h69) ?_
      refine aw_iload_n hC dX2_isDiffering_39 rfl ?_
      refine aw_iaload_k (j := a) hC dX2_isDiffering_40 (hE.t1 (by omega) h69) (nI_clamp (by omega)) (vp_in_nI (by omega) (by decide)) ?_
      rw [(hE.vl (by omega) h69 ha)]
      refine aw_iload_n hC dX2_isDiffering_41 rfl ?_
      refine aw_icmp_eq (tgt := 59) hC dX2_isDiffering_42 (by decide) (fun h2 => ?_) (fun h2 => ?_)
      · show AW X 0 0 59 [some (.ref 33), some (.int (nI x)), some (.int (nI a)), some (.int v), some (.ref (eq x))] [] T I J R
        refine aw_iconst (v := 0) hC dX2_isDiffering_59 (by decide) ?_
        exact aw_zreturn hC hq rfl (Or.inl rfl) dX2_isDiffering_60 a_le a_le (aPure_i (bI_no (fun q => by first | exact absurd h69 q.1 | exact absurd q.2.1 (bI_dn.mp (by assumption)) | exact absurd (by assumption) q.2.2.1 | exact absurd (bI_dn.mp (by assumption)) q.2.2.2)))
      · show AW X 0 0 45 [some (.ref 33), some (.int (nI x)), some (.int (nI a)), some (.int v), some (.ref (eq x))] [] T I J R
        refine aw_aload hC dX2_isDiffering_45 rfl ?_
        refine aw_iload_n hC dX2_isDiffering_47 rfl ?_
        refine aw_iload_n hC dX2_isDiffering_48 rfl ?_
        refine kX2_111 hC rfl (m_X3_isAdoptedOn (I := I) hT hR hE (x := x) (a := a) (by omega) h69 (by omega) v) dX2_isDiffering_49 (hE.tg (by omega) h69) rfl a_le a_le a_le a_le a_le rfl aPure_x (aPure_k ?_)
        show AW X 0 0 52 [some (.ref 33), some (.int (nI x)), some (.int (nI a)), some (.int v), some (.ref (eq x))] [.int (bI (decide (bt (m 72 x) a = true ∧ m 73 (3 * x + a) = v)))] T I J R
        refine aw_if_ne (tgt := 59) hC dX2_isDiffering_52 (by decide) (fun h3 => ?_) (fun h3 => ?_)
        · show AW X 0 0 59 [some (.ref 33), some (.int (nI x)), some (.int (nI a)), some (.int v), some (.ref (eq x))] [] T I J R
          refine aw_iconst (v := 0) hC dX2_isDiffering_59 (by decide) ?_
          exact aw_zreturn hC hq rfl (Or.inl rfl) dX2_isDiffering_60 a_le a_le (aPure_i (bI_no (fun q => by first | exact absurd h69 q.1 | exact absurd q.2.1 (bI_dn.mp (by assumption)) | exact absurd (by assumption) q.2.2.1 | exact absurd (bI_dn.mp (by assumption)) q.2.2.2)))
        · show AW X 0 0 55 [some (.ref 33), some (.int (nI x)), some (.int (nI a)), some (.int v), some (.ref (eq x))] [] T I J R
          refine aw_iconst (v := 1) hC dX2_isDiffering_55 (by decide) ?_
          refine aw_goto (tgt := 60) hC dX2_isDiffering_56 (by decide) ?_
          exact aw_zreturn hC hq rfl (Or.inr rfl) dX2_isDiffering_60 a_le a_le (aPure_i (bI_yes ⟨h69, Classical.not_not.mp (bI_d0.mp (by assumption)), by assumption, bI_d0.mp (by assumption)⟩))
    · show AW X 0 0 32 [some (.ref 33), some (.int (nI x)), some (.int (nI a)), some (.int v), some (.ref (eq x))] [] T I J R
      refine aw_iconst (v := 0) hC dX2_isDiffering_32 (by decide) ?_
      exact aw_zreturn hC hq rfl (Or.inl rfl) dX2_isDiffering_33 a_le a_le (aPure_i (bI_no (fun q => by first | exact absurd h69 q.1 | exact absurd q.2.1 (bI_dn.mp (by assumption)) | exact absurd (by assumption) q.2.2.1 | exact absurd (bI_dn.mp (by assumption)) q.2.2.2)))
theorem df_s {m : aI} {mj : aJ} {g x a : Nat} (hi : InvE m g) (hx : x < 64) (ha : a < 3) (h0 : m 69 x ≠ 0) : sDf m mj x a = true ↔ dfC m x a (sGives m mj x a) := by
  rw [sDf_iff]
  unfold sDiff dfC
  constructor
  · rintro ⟨h1, h2, h3⟩
    exact ⟨h0, h1, fun q => h2 q.symm, fun q => h3 ⟨(bt_sshr (by omega)).mpr q.1, by rw [← q.2]; exact (hi.2.2 x a hx ha q.1).1, q.2.symm⟩⟩
  · rintro ⟨-, h1, h2, h3⟩
    exact ⟨h1, fun q => h2 q.symm, fun q => h3 ⟨(bt_sshr (by omega)).mp q.1, q.2.2.symm⟩⟩
/-- what is found of a name so far -/
abbrev FN (m : aI) (mj : aJ) (x k : Nat) (v : Int32) : Prop := anyB (fF m mj x) k = false ∧ v = if anyB (fD m mj x) k = true then 2 else 0
theorem FN.no {m : aI} {mj : aJ} {x k : Nat} {v : Int32} (h : FN m mj x k v) (e : sDf m mj x k = false) : FN m mj x (k + 1) v := by
  refine ⟨?_, ?_⟩
  · rw [anyB, h.1]; simp only [fF, e]; rfl
  · rw [anyB, show fD m mj x k = false from e, Bool.or_false]; exact h.2
theorem FN.ys {m : aI} {mj : aJ} {x k : Nat} {v : Int32} (h : FN m mj x k v) (e : sDf m mj x k = true) (f : ¬ m 58 (3 * iN m 62 (x / 16) + k) &&& 1 ≠ 0) : FN m mj x (k + 1) 2 := by
  refine ⟨?_, ?_⟩
  · rw [anyB, h.1]; simp only [fF, decide_eq_false f, Bool.and_false]; rfl
  · rw [anyB, show fD m mj x k = true from e, Bool.or_true, if_pos rfl]
theorem sc_n {m : aI} {mj : aJ} {g x : Nat} (hi : InvE m g) (hx : x < 64) (h : m 69 x = 0) : (sKept m x = true → 1 = sCmp m mj x) ∧ (sKept m x = false → 0 = sCmp m mj x) := by
  have h0 : ¬ 0 < m 69 x := by rw [h]; decide
  refine ⟨fun q => ?_, fun q => ?_⟩
  · rw [sCmp, if_neg (by rw [q]; simp), if_pos h0]
  · rw [sCmp, if_pos q, if_neg h0]
theorem sc_y {m : aI} {mj : aJ} {g x : Nat} (hi : InvE m g) (hx : x < 64) (h : m 69 x ≠ 0) : (sKept m x = false → 4 = sCmp m mj x) ∧ (sKept m x = true → m 71 x ≠ 0 → 3 = sCmp m mj x) ∧ (sKept m x = true → anyB (fF m mj x) 3 = true → 3 = sCmp m mj x) ∧ (sKept m x = true → m 71 x = 0 → ∀ v, FN m mj x 3 v → v = sCmp m mj x) := by
  have h0 := hi.2.1 x hx h
  refine ⟨fun q => ?_, fun q z => ?_, fun q z => ?_, fun q z v hv => ?_⟩
  · rw [sCmp, if_pos q, if_pos h0]
  · rw [sCmp, if_neg (by rw [q]; simp), if_neg (not_not_intro h0), if_pos (by rw [decide_eq_true z]; rfl)]
  · rw [sCmp, if_neg (by rw [q]; simp), if_neg (not_not_intro h0), if_pos (by rw [z, Bool.or_true])]
  · rw [sCmp, if_neg (by rw [q]; simp), if_neg (not_not_intro h0), if_neg (by rw [hv.1, decide_eq_false (not_not_intro z)]; simp)]; exact hv.2
theorem sCmp_rng {m : aI} {mj : aJ} {x : Nat} : 0 ≤ sCmp m mj x ∧ sCmp m mj x ≤ 4 := by
  unfold sCmp
  repeat' split
  all_goals decide
set_option maxRecDepth 100000 in
theorem m_X2_findNeed {T : List aT} {I : aI} {J : aJ} {R : aR} (hT : aPT T) (hR : aPR R) {m : aI} {g : Nat} {gq : Nat → Nat} (hG : CGn T I R m g gq) (hg : GW m g) (hY : CTy I m) {eq : Nat → Nat} (hE : CEn T I R m eq) {x : Nat} (hx : x < 16 * g) {mj : aJ} (hi : InvE m g) (hGv : ∀ a, a < 3 → I 34 (3 * x + a) = sGives m mj x a) : MX2_findNeed 0 0 [.ref 33, .int (nI x)] T I J R (aPure (some (.int (sCmp m mj x))) T I J R) := by
  refine a_met (by decide +kernel) a_le (fun X hC hq => ?_)
  show AW X 0 0 0 [some (.ref 33), some (.int (nI x)), none, none, none, none] [] T I J R
  have hg4 := hg.g4
  have hty := hg.ty (x / 16) (by omega)
  refine aw_aload_n hC dX2_findNeed_0 rfl ?_
  refine aw_getR hC dX2_findNeed_1 aF_X2_28 rfl (tg_33 hT) (pr_33_3 hR) ?_
  refine aw_getR hC dX2_findNeed_4 aF_X2_65 rfl (tg_19 hT) (pr_19_7 hR) ?_
  refine aw_iload_n hC dX2_findNeed_7 rfl ?_
  by_cases h69 : m 69 x = 0
  · show AW X 0 0 8 [some (.ref 33), some (.int (nI x)), none, none, none, none] [.int (nI x), .ref 25] T I J R
    refine aw_aaloadN_k (j := x) hC dX2_findNeed_8 (tg_25 hT) (nI_clamp (by omega)) (vp_in_nI (by omega) (by decide)) (hE.no (by omega) h69) ?_
    refine aw_astore_nN (L2 := [some (.ref 33), some (.int (nI x)), some (.null), none, none, none]) hC dX2_findNeed_9 rfl (by decide) rfl ?_
    refine aw_aload_n hC dX2_findNeed_10 rfl ?_
    refine aw_getR hC dX2_findNeed_11 aF_X2_28 rfl (tg_33 hT) (pr_33_3 hR) ?_
    refine aw_iload_n hC dX2_findNeed_14 rfl ?_
    refine kX2_95 hC rfl (m_X4_hasKey (I := I) hT hR hG hg (x := x) (by omega)) dX2_findNeed_15 (tg_19 hT) rfl a_le a_le a_le a_le a_le rfl aPure_x (aPure_k ?_)
    show AW X 0 0 18 [some (.ref 33), some (.int (nI x)), some (.null), none, none, none] [.int (bI (sKept m x))] T I J R
    refine aw_istore_n (L2 := [some (.ref 33), some (.int (nI x)), some (.null), some (.int (bI (sKept m x))), none, none]) hC dX2_findNeed_18 rfl (by decide) rfl ?_
    refine aw_aload_nN hC dX2_findNeed_19 rfl ?_
    refine aw_ifnonnullN hC dX2_findNeed_20 ?_
    refine aw_iload_n hC dX2_findNeed_23 rfl ?_
    refine aw_if_eq (tgt := 31) hC dX2_findNeed_24 (by decide) (fun h1 => ?_) (fun h1 => ?_)
    · show AW X 0 0 31 [some (.ref 33), some (.int (nI x)), some (.null), some (.int (bI (sKept m x))), none, none] [] T I J R
      refine aw_iconst (v := 0) hC dX2_findNeed_31 (by decide) ?_
      exact aw_ireturn hC hq rfl dX2_findNeed_32 a_le a_le (aPure_i ((sc_n hi (by omega) h69).2 (bI_e0.mp (by assumption))))
    · show AW X 0 0 27 [some (.ref 33), some (.int (nI x)), some (.null), some (.int (bI (sKept m x))), none, none] [] T I J R
      refine aw_iconst (v := 1) hC dX2_findNeed_27 (by decide) ?_
      refine aw_goto (tgt := 32) hC dX2_findNeed_28 (by decide) ?_
      exact aw_ireturn hC hq rfl dX2_findNeed_32 a_le a_le (aPure_i ((sc_n hi (by omega) h69).1 (bI_n0.mp (by assumption))))
  · show AW X 0 0 8 [some (.ref 33), some (.int (nI x)), none, none, none, none] [.int (nI x), .ref 25] T I J R
    refine aw_aaloadR_k (j := x) hC dX2_findNeed_8 (tg_25 hT) (nI_clamp (by omega)) (vp_in_nI (by omega) (by decide)) (hE.rf (by omega) h69) ?_
    refine aw_astore_n (L2 := [some (.ref 33), some (.int (nI x)), some (.ref (eq x)), none, none, none]) hC dX2_findNeed_9 rfl (by decide) rfl ?_
    refine aw_aload_n hC dX2_findNeed_10 rfl ?_
    refine aw_getR hC dX2_findNeed_11 aF_X2_28 rfl (tg_33 hT) (pr_33_3 hR) ?_
    refine aw_iload_n hC dX2_findNeed_14 rfl ?_
    refine kX2_95 hC rfl (m_X4_hasKey (I := I) hT hR hG hg (x := x) (by omega)) dX2_findNeed_15 (tg_19 hT) rfl a_le a_le a_le a_le a_le rfl aPure_x (aPure_k ?_)
    show AW X 0 0 18 [some (.ref 33), some (.int (nI x)), some (.ref (eq x)), none, none, none] [.int (bI (sKept m x))] T I J R
    refine aw_istore_n (L2 := [some (.ref 33), some (.int (nI x)), some (.ref (eq x)), some (.int (bI (sKept m x))), none, none]) hC dX2_findNeed_18 rfl (by decide) rfl ?_
    refine aw_aload_n hC dX2_findNeed_19 rfl ?_
    refine aw_ifnonnull (tgt := 33) hC dX2_findNeed_20 (by decide) ?_
    refine aw_iload_n hC dX2_findNeed_33 rfl ?_
    refine aw_if_ne (tgt := 39) hC dX2_findNeed_34 (by decide) (fun h2 => ?_) (fun h2 => ?_)
    · show AW X 0 0 39 [some (.ref 33), some (.int (nI x)), some (.ref (eq x)), some (.int (bI (sKept m x))), none, none] [] T I J R
      refine aw_aload_n hC dX2_findNeed_39 rfl ?_
      refine aw_getI hC dX2_findNeed_40 aF_X2_99 rfl (hE.tg (by omega) h69) ?_
      rw [(hE.bd (by omega) h69)]
      refine aw_if_eq (tgt := 48) hC dX2_findNeed_43 (by decide) (fun h3 => ?_) (fun h3 => ?_)
      · show AW X 0 0 48 [some (.ref 33), some (.int (nI x)), some (.ref (eq x)), some (.int (bI (sKept m x))), none, none] [] T I J R
        refine aw_iconst (v := 0) hC dX2_findNeed_48 (by decide) ?_
        refine aw_istore (L2 := [some (.ref 33), some (.int (nI x)), some (.ref (eq x)), some (.int (bI (sKept m x))), some (.int 0), none]) hC dX2_findNeed_49 (by decide) rfl ?_
        refine aw_iconst (v := 0) hC dX2_findNeed_51 (by decide) ?_
        refine aw_istore (L2 := [some (.ref 33), some (.int (nI x)), some (.ref (eq x)), some (.int (bI (sKept m x))), some (.int 0), some (.int 0)]) hC dX2_findNeed_52 (by decide) rfl ?_
        have loop : ∀ k, k ≤ 3 → ∀ nd : Int32, FN m mj x k nd → AW X 0 0 54 [some (.ref 33), some (.int (nI x)), some (.ref (eq x)), some (.int (bI (sKept m x))), some (.int nd), some (.int (nI k))] [] T I J R := by
          refine a_down 3 (fun k hk_k ih_k => ?_)
          intro nd hF
          refine aw_iload hC dX2_findNeed_54 rfl ?_
          refine aw_iconst (v := 3) hC dX2_findNeed_56 (by decide) ?_
          refine aw_icmp_ge (tgt := 112) hC dX2_findNeed_57 (by decide) (fun h4 => ?_) (fun h4 => ?_)
          · show AW X 0 0 112 [some (.ref 33), some (.int (nI x)), some (.ref (eq x)), some (.int (bI (sKept m x))), some (.int nd), some (.int (nI k))] [] T I J R
            have h4n : 3 ≤ k := (nI_leI (a := 3) (b := k) (by omega) (by omega)).mp h4
            refine aw_iload hC dX2_findNeed_112 rfl ?_
            exact aw_ireturn hC hq rfl dX2_findNeed_114 a_le a_le (aPure_i ((sc_y hi (by omega) h69).2.2.2 (bI_n0.mp (by assumption)) (by assumption) _ (by have e9 : k = 3 := (by omega); rw [e9] at hF; exact hF)))
          · show AW X 0 0 60 [some (.ref 33), some (.int (nI x)), some (.ref (eq x)), some (.int (bI (sKept m x))), some (.int nd), some (.int (nI k))] [] T I J R
            have h4n : ¬ 3 ≤ k := fun q9 => h4 ((nI_leI (a := 3) (b := k) (by omega) (by omega)).mpr q9)
            refine aw_aload_n hC dX2_findNeed_60 rfl ?_
            refine aw_iload_n hC dX2_findNeed_61 rfl ?_
            refine aw_iload hC dX2_findNeed_62 rfl ?_
            refine aw_aload_n hC dX2_findNeed_64 rfl ?_
            refine aw_getR hC dX2_findNeed_65 aF_X2_9 rfl (tg_33 hT) (pr_33_0 hR) ?_
            refine aw_iload_n hC dX2_findNeed_68 rfl ?_
            refine aw_iconst (v := 3) hC dX2_findNeed_69 (by decide) ?_
            refine aw_imul hC dX2_findNeed_70 ?_
            rw [show (nI x) * 3 = nI (x * 3) from pk_mul x 3]
            refine aw_iload hC dX2_findNeed_71 rfl ?_
            refine aw_iadd hC dX2_findNeed_73 ?_
            rw [show (nI (x * 3)) + (nI k) = nI ((x * 3) + k) from nI_add (x * 3) k]
            refine aw_iaload_k (j := ((x * 3) + k)) hC dX2_findNeed_74 (tg_34 hT) (nI_clamp (by omega)) (vp_in_nI (by omega) (by decide)) ?_
            rw [(show I 34 ((x * 3) + k) = sGives m mj x k from by rw [Nat.mul_comm]; exact hGv k (by omega))]
            refine kX2_103 hC rfl (m_X2_isDiffering (I := I) hT hR hG hg hY hE (x := x) (by omega) (a := k) (by omega) (sGives m mj x k)) dX2_findNeed_75 (tg_33 hT) rfl a_le a_le a_le a_le a_le rfl aPure_x (aPure_k ?_)
            show AW X 0 0 78 [some (.ref 33), some (.int (nI x)), some (.ref (eq x)), some (.int (bI (sKept m x))), some (.int nd), some (.int (nI k))] [.int (bI (decide (dfC m x k (sGives m mj x k))))] T I J R
            refine aw_if_ne (tgt := 84) hC dX2_findNeed_78 (by decide) (fun h5 => ?_) (fun h5 => ?_)
            · show AW X 0 0 84 [some (.ref 33), some (.int (nI x)), some (.ref (eq x)), some (.int (bI (sKept m x))), some (.int nd), some (.int (nI k))] [] T I J R
              refine aw_aload_n hC dX2_findNeed_84 rfl ?_
              refine aw_getR hC dX2_findNeed_85 aF_X2_28 rfl (tg_33 hT) (pr_33_3 hR) ?_
              refine aw_iload_n hC dX2_findNeed_88 rfl ?_
              refine kX2_85 hC rfl (m_X4_typeOf (I := I) hT hR hG hg (x := x) (by omega)) dX2_findNeed_89 (tg_19 hT) rfl a_le a_le a_le a_le a_le rfl aPure_x (aPure_k ?_)
              show AW X 0 0 92 [some (.ref 33), some (.int (nI x)), some (.ref (eq x)), some (.int (bI (sKept m x))), some (.int nd), some (.int (nI k))] [.ref (27 + 2 * (iN m 62 (x / 16)))] T I J R
              refine aw_iload hC dX2_findNeed_92 rfl ?_
              refine aw_iconst (v := 1) hC dX2_findNeed_94 (by decide) ?_
              refine kX2_107 hC rfl (m_X9_is (I := I) hT hR hY (t := (iN m 62 (x / 16))) (a := k) (by omega) (by omega) (1 : Int32)) dX2_findNeed_95 (ty_tg hT (by omega)) rfl a_le a_le a_le a_le a_le rfl aPure_x (aPure_k ?_)
              show AW X 0 0 98 [some (.ref 33), some (.int (nI x)), some (.ref (eq x)), some (.int (bI (sKept m x))), some (.int nd), some (.int (nI k))] [.int (bI (decide (m 58 (3 * (iN m 62 (x / 16)) + k) &&& (1 : Int32) ≠ 0)))] T I J R
              refine aw_if_eq (tgt := 103) hC dX2_findNeed_98 (by decide) (fun h6 => ?_) (fun h6 => ?_)
              · show AW X 0 0 103 [some (.ref 33), some (.int (nI x)), some (.ref (eq x)), some (.int (bI (sKept m x))), some (.int nd), some (.int (nI k))] [] T I J R
                refine aw_iconst (v := 2) hC dX2_findNeed_103 (by decide) ?_
                refine aw_istore (L2 := [some (.ref 33), some (.int (nI x)), some (.ref (eq x)), some (.int (bI (sKept m x))), some (.int 2), some (.int (nI k))]) hC dX2_findNeed_104 (by decide) rfl ?_
                refine aw_iinc (v := nI (k + 1)) (L2 := [some (.ref 33), some (.int (nI x)), some (.ref (eq x)), some (.int (bI (sKept m x))), some (.int 2), some (.int (nI (k + 1)))]) hC dX2_findNeed_106 rfl (nI_inc _) (by decide) rfl ?_
                refine aw_goto (tgt := 54) hC dX2_findNeed_109 (by decide) ?_
                exact ih_k (by omega) 2 (hF.ys ((df_s hi (by omega) (by omega) h69).mpr (bI_dn.mp (by assumption))) (bI_d0.mp (by assumption)))
              · show AW X 0 0 101 [some (.ref 33), some (.int (nI x)), some (.ref (eq x)), some (.int (bI (sKept m x))), some (.int nd), some (.int (nI k))] [] T I J R
                refine aw_iconst (v := 3) hC dX2_findNeed_101 (by decide) ?_
                exact aw_ireturn hC hq rfl dX2_findNeed_102 a_le a_le (aPure_i ((sc_y hi (by omega) h69).2.2.1 (bI_n0.mp (by assumption)) (anyB_tr (k := k) (by omega) (by simp only [fF]; rw [(df_s hi (by omega) (by omega) h69).mpr (bI_dn.mp (by assumption)), decide_eq_true (bI_dn.mp (by assumption))]; rfl))))
            · show AW X 0 0 81 [some (.ref 33), some (.int (nI x)), some (.ref (eq x)), some (.int (bI (sKept m x))), some (.int nd), some (.int (nI k))] [] T I J R
              refine aw_goto (tgt := 106) hC dX2_findNeed_81 (by decide) ?_
              refine aw_iinc (v := nI (k + 1)) (L2 := [some (.ref 33), some (.int (nI x)), some (.ref (eq x)), some (.int (bI (sKept m x))), some (.int nd), some (.int (nI (k + 1)))]) hC dX2_findNeed_106 rfl (nI_inc _) (by decide) rfl ?_
              refine aw_goto (tgt := 54) hC dX2_findNeed_109 (by decide) ?_
              exact ih_k (by omega) nd (hF.no (by cases e9 : sDf m mj x k with | false => rfl | true => exact absurd ((df_s hi (by omega) (by omega) h69).mp e9) (bI_d0.mp (by assumption))))
        exact loop 0 (Nat.zero_le _) 0 ⟨rfl, rfl⟩
      · show AW X 0 0 46 [some (.ref 33), some (.int (nI x)), some (.ref (eq x)), some (.int (bI (sKept m x))), none, none] [] T I J R
        refine aw_iconst (v := 3) hC dX2_findNeed_46 (by decide) ?_
        exact aw_ireturn hC hq rfl dX2_findNeed_47 a_le a_le (aPure_i ((sc_y hi (by omega) h69).2.1 (bI_n0.mp (by assumption)) (by assumption)))
    · show AW X 0 0 37 [some (.ref 33), some (.int (nI x)), some (.ref (eq x)), some (.int (bI (sKept m x))), none, none] [] T I J R
      refine aw_iconst (v := 4) hC dX2_findNeed_37 (by decide) ?_
      exact aw_ireturn hC hq rfl dX2_findNeed_38 a_le a_le (aPure_i ((sc_y hi (by omega) h69).1 (bI_e0.mp (by assumption))))
