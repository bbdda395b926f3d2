abbrev cmpd (m : aI) (x a : Nat) : Prop := m 58 (3 * iN m 62 (x / 16) + a) &&& 2 ≠ 0
/-- sources are of computed attributes; what is stored is no less than 0 -/
def InvS (m : aI) (g : Nat) : Prop := (∀ i a s, i < g → a < 3 → m 65 (3 * i + a) = nI s → s < 22 → 10 ≤ s → m 58 (3 * iN m 62 ((s - 10) / 3) + (s - 10) % 3) &&& 2 ≠ 0) ∧ ∀ x a, x < 64 → a < 3 → m 69 x ≠ 0 → 0 ≤ m 70 (3 * x + a)
/-- the source of a wanted name is wanted -/
def KpC (m : aI) (g : Nat) : Prop := ∀ x a s, x < 16 * g → a < 3 → sKept m x = true → m 65 (3 * (x / 16) + a) = nI s → s < 22 → 10 ≤ s → sKept m (16 * ((s - 10) / 3) + x % 16) = true
theorem kp_of {m : aI} {mj : aJ} {n g : Nat} {v : Int32} (hg : GW m g) (h : cPv m mj n g v = true) : KpC m g := fun x a s hx ha hk hs h22 h10 => by
  have h4 := hg.g4
  unfold cPv at h
  simp only [Bool.and_eq_true] at h
  have hG := allB_iff.mp h.2 (x / 16) (by omega)
  obtain ⟨j, hj, hkj⟩ := anyB_iff.mp hk
  have hkj := of_decide_eq_true hkj
  unfold cG at hG
  rw [if_neg (by omega)] at hG
  have hc := allB_iff.mp hG a ha
  have hs' : iN m 65 (3 * (x / 16) + a) = s := by unfold iN; rw [hs]; exact nI_clamp (by omega)
  simp only [cS, hs'] at hc
  rw [hs, if_neg (nI_ne1 h22), if_neg (by omega)] at hc
  have hq := allB_iff.mp hc j hj
  have hlow : (s - 10) / 3 < x / 16 := by
    rcases hg.so (3 * (x / 16) + a) (by omega) with q | q
    · rw [hs] at q; exact absurd q (nI_ne1 h22)
    · have := q.2.2 (by rw [hs']; exact h10); rw [hs'] at this; omega
  have e1 : (16 * ((s - 10) / 3) + x % 16) / 16 = (s - 10) / 3 := by omega
  have e2 : (16 * ((s - 10) / 3) + x % 16) % 16 = x % 16 := by omega
  simp only [sKept, e1, e2]
  simp only [csK, hkj] at hq
  exact hq
/-- the world beside, as far as the names below k -/
def BsI (m : aI) (B : Nat → Int32) (k : Nat) : Prop := ∀ y c, y < k → c < 3 → sKept m y = true → cmpd m y c → B (3 * y + c) = if m 91 y = 1 ∨ m 91 y = 3 then -1 else m 70 (3 * y + c)
abbrev vbV (m : aI) (mj : aJ) (x a : Nat) : Int32 := if cmpd m x a then (if m 69 x = 0 then -1 else m 70 (3 * x + a)) else sGives m mj x a
theorem vbd_c {m : aI} {mj : aJ} {x a : Nat} {v : Int32} (h : cmpd m x a) (e : v = if m 69 x = 0 then -1 else m 70 (3 * x + a)) : v = vbV m mj x a := by unfold vbV; rw [if_pos h]; exact e
theorem vbd_n {m : aI} {mj : aJ} {x a : Nat} {v : Int32} (h : ¬ cmpd m x a) (e : v = sGives m mj x a) : v = vbV m mj x a := by unfold vbV; rw [if_neg h]; exact e
theorem sCmp_1 {m : aI} {mj : aJ} {g y : Nat} (hi : InvE m g) (hy : y < 64) (hk : sKept m y = true) (hc : m 91 y = sCmp m mj y) : (m 91 y = 1 ↔ m 69 y = 0) ∧ (m 69 y ≠ 0 → (2 < m 91 y ↔ m 91 y = 3)) := by
  rw [hc]
  unfold sCmp
  rw [if_neg (by rw [hk]; simp)]
  by_cases h0 : m 69 y = 0
  · rw [if_pos (by rw [h0]; decide)]
    exact ⟨⟨fun _ => h0, fun _ => rfl⟩, fun q => absurd h0 q⟩
  · rw [if_neg (not_not_intro (hi.2.1 y hy h0))]
    refine ⟨⟨fun q => ?_, fun q => absurd q h0⟩, fun _ => ?_⟩
    · split at q
      · exact absurd q (by decide)
      · split at q <;> exact absurd q (by decide)
    · split
      · decide
      · split <;> decide
theorem gvB_b {m : aI} {mj : aJ} {g x s : Nat} (hi : InvE m g) (hx : x < 64) (hs : s < 22) (hO : m 69 (16 * ((s - 10) / 3) + x % 16) ≠ 0 → 0 ≤ m 70 (3 * (16 * ((s - 10) / 3) + x % 16) + (s - 10) % 3)) (hk : sKept m (16 * ((s - 10) / 3) + x % 16) = true) (hc : m 91 (16 * ((s - 10) / 3) + x % 16) = sCmp m mj (16 * ((s - 10) / 3) + x % 16)) {v : Int32} (hv : v = if m 91 (16 * ((s - 10) / 3) + x % 16) = 1 ∨ m 91 (16 * ((s - 10) / 3) + x % 16) = 3 then -1 else m 70 (3 * (16 * ((s - 10) / 3) + x % 16) + (s - 10) % 3)) : (v = -1 → -1 = gvB m x s) ∧ (v ≠ -1 → cvV m v (16 * ((s - 10) / 3) + x % 16) x = gvB m x s) := by
  obtain ⟨e1, e3⟩ := sCmp_1 hi (y := 16 * ((s - 10) / 3) + x % 16) (by omega) hk hc
  by_cases h0 : m 69 (16 * ((s - 10) / 3) + x % 16) = 0
  · rw [if_pos (Or.inl (e1.mpr h0))] at hv
    exact ⟨fun _ => gvB_n (Or.inl h0), fun q => absurd hv q⟩
  · have e2 := e3 h0
    by_cases h3 : m 91 (16 * ((s - 10) / 3) + x % 16) = 3
    · rw [if_pos (Or.inr h3)] at hv
      exact ⟨fun _ => gvB_n (Or.inr (e2.mpr h3)), fun q => absurd hv q⟩
    · rw [if_neg (fun q => q.elim (fun z => h0 (e1.mp z)) h3)] at hv
      refine ⟨fun q => ?_, fun _ => gvB_y (fun q => q.elim h0 (fun z => h3 (e2.mp z))) hv⟩
      have := hO h0
      rw [← hv, q] at this; exact absurd this (by decide)
set_option maxRecDepth 100000 in
theorem m_X2_valueBeside {T : List aT} {I : aI} {J : aJ} {R : aR} (hT : aPT T) (hR : aPR R) {m : aI} {g : Nat} {gq : Nat → Nat} (hG : CGn T I R m g gq) (hg : GW m g) (hY : CTy I m) {eq : Nat → Nat} (hE : CEn T I R m eq) {mj : aJ} (hV : CFo I m mj) (hi : InvE m g) {x : Nat} (hx : x < 16 * g) (hB : BsI m (I 37) (16 * (x / 16))) (hC9 : CmpOK m mj g) (hs2 : InvS m g) (hkp : KpC m g) (hkx : sKept m x = true) {a : Nat} (ha : a < 3) : MX2_valueBeside 0 0 [.ref 33, .int (nI x), .int (nI a)] T I J R (aPure (some (.int (vbV m mj x a))) T I J R) := by
  refine a_met (by decide +kernel) a_le (fun X hC hq => ?_)
  show AW X 0 0 0 [some (.ref 33), some (.int (nI x)), some (.int (nI a)), none, none, none] [] T I J R
  have hg4 := hg.g4
  have hty := hg.ty (x / 16) (by omega)
  refine aw_aload_n hC dX2_valueBeside_0 rfl ?_
  refine aw_getR hC dX2_valueBeside_1 aF_X2_28 rfl (tg_33 hT) (pr_33_3 hR) ?_
  refine aw_iload_n hC dX2_valueBeside_4 rfl ?_
  refine kX2_85 hC rfl (m_X4_typeOf (I := I) hT hR hG hg (x := x) (by omega)) dX2_valueBeside_5 (tg_19 hT) rfl a_le a_le a_le a_le a_le rfl aPure_x (aPure_k ?_)
  show AW X 0 0 8 [some (.ref 33), some (.int (nI x)), some (.int (nI a)), none, none, none] [.ref (27 + 2 * (iN m 62 (x / 16)))] T I J R
  refine aw_iload_n hC dX2_valueBeside_8 rfl ?_
  refine aw_iconst (v := 2) hC dX2_valueBeside_9 (by decide) ?_
  refine kX2_107 hC rfl (m_X9_is (I := I) hT hR hY (t := (iN m 62 (x / 16))) (a := a) (by omega) (by omega) (2 : Int32)) dX2_valueBeside_10 (ty_tg hT (by omega)) rfl a_le a_le a_le a_le a_le rfl aPure_x (aPure_k ?_)
  show AW X 0 0 13 [some (.ref 33), some (.int (nI x)), some (.int (nI a)), none, none, none] [.int (bI (decide (m 58 (3 * (iN m 62 (x / 16)) + a) &&& (2 : Int32) ≠ 0)))] T I J R
  refine aw_if_eq (tgt := 41) hC dX2_valueBeside_13 (by decide) (fun h1 => ?_) (fun h1 => ?_)
  · show AW X 0 0 41 [some (.ref 33), some (.int (nI x)), some (.int (nI a)), none, none, none] [] T I J R
    refine aw_aload_n hC dX2_valueBeside_41 rfl ?_
    refine aw_getR hC dX2_valueBeside_42 aF_X2_28 rfl (tg_33 hT) (pr_33_3 hR) ?_
    refine aw_iload_n hC dX2_valueBeside_45 rfl ?_
    refine kX2_50 hC rfl (m_X4_generatorOf (I := I) hT hR hG hg (x := x) (by omega)) dX2_valueBeside_46 (tg_19 hT) rfl a_le a_le a_le a_le a_le rfl aPure_x (aPure_k ?_)
    show AW X 0 0 49 [some (.ref 33), some (.int (nI x)), some (.int (nI a)), none, none, none] [.ref (gq (x / 16))] T I J R
    refine aw_getR hC dX2_valueBeside_49 aF_X2_54 rfl (hG.tg (by omega)) (hG.r3 (by omega)) ?_
    refine aw_iload_n hC dX2_valueBeside_52 rfl ?_
    refine aw_iaload_k (j := a) hC dX2_valueBeside_53 (hG.t2 (by omega)) (nI_clamp (by omega)) (vp_in_nI (by omega) (by decide)) ?_
    rw [(hG.sr (by omega) ha)]
    have hnc : ¬ cmpd m x a := bI_d0.mp (by assumption)
    rcases hg.so (3 * (x / 16) + a) (by omega) with e5 | e5
    · rw [show m 65 (3 * (x / 16) + a) = -1 from e5]
      refine aw_istore_n (L2 := [some (.ref 33), some (.int (nI x)), some (.int (nI a)), some (.int (-1)), none, none]) hC dX2_valueBeside_54 rfl (by decide) rfl ?_
      refine aw_iload_n hC dX2_valueBeside_55 rfl ?_
      refine aw_iconst (v := (-1)) hC dX2_valueBeside_56 (by decide) ?_
      refine aw_icmp_ne (tgt := 62) hC dX2_valueBeside_57 (by decide) (fun h => absurd rfl h) (fun _ => ?_)
      show AW X 0 0 60 [some (.ref 33), some (.int (nI x)), some (.int (nI a)), some (.int (-1)), none, none] [] T I J R
      refine aw_iconst (v := 0) hC dX2_valueBeside_60 (by decide) ?_
      exact aw_ireturn hC hq rfl dX2_valueBeside_61 a_le a_le (aPure_i (vbd_n hnc (gv_0 (Or.inl e5))))
    · obtain ⟨s, hs⟩ : ∃ s, s = iN m 65 (3 * (x / 16) + a) := ⟨_, rfl⟩
      rw [show m 65 (3 * (x / 16) + a) = nI s from by rw [hs]; exact e5.1]
      have h22 : s < 22 := by rw [hs]; exact e5.2.1
      have h65 : m 65 (3 * (x / 16) + a) = nI s := by rw [hs]; exact e5.1
      have hlow : 10 ≤ s → (s - 10) / 3 < x / 16 := fun q => by have := e5.2.2 (by rw [← hs]; exact q); rw [← hs] at this; omega
      refine aw_istore_n (L2 := [some (.ref 33), some (.int (nI x)), some (.int (nI a)), some (.int (nI s)), none, none]) hC dX2_valueBeside_54 rfl (by decide) rfl ?_
      refine aw_iload_n hC dX2_valueBeside_55 rfl ?_
      refine aw_iconst (v := (-1)) hC dX2_valueBeside_56 (by decide) ?_
      refine aw_icmp_ne (tgt := 62) hC dX2_valueBeside_57 (by decide) (fun _ => ?_) (fun h => absurd h (nI_ne1 h22))
      show AW X 0 0 62 [some (.ref 33), some (.int (nI x)), some (.int (nI a)), some (.int (nI s)), none, none] [] T I J R
      refine aw_iload_n hC dX2_valueBeside_62 rfl ?_
      refine aw_bipush (v := 10) hC dX2_valueBeside_63 (by decide) ?_
      refine aw_icmp_ge (tgt := 75) hC dX2_valueBeside_65 (by decide) (fun h2 => ?_) (fun h2 => ?_)
      · show AW X 0 0 75 [some (.ref 33), some (.int (nI x)), some (.int (nI a)), some (.int (nI s)), none, none] [] T I J R
        have h2n : 10 ≤ s := (nI_leI (a := 10) (b := s) (by omega) (by omega)).mp h2
        refine aw_bipush (v := 16) hC dX2_valueBeside_75 (by decide) ?_
        refine aw_iload_n hC dX2_valueBeside_77 rfl ?_
        refine kX2_62 hC rfl (m_X4_generatorOfSource (nI s)) dX2_valueBeside_78 rfl a_le a_le a_le a_le a_le rfl aPure_x (aPure_k ?_)
        show AW X 0 0 81 [some (.ref 33), some (.int (nI x)), some (.int (nI a)), some (.int (nI s)), none, none] [.int ((nI s - 10) / 3), .int 16] T I J R
        rw [so_g s (by omega) (by omega)]
        refine aw_imul hC dX2_valueBeside_81 ?_
        rw [show 16 * (nI ((s - 10) / 3)) = nI (16 * ((s - 10) / 3)) from pk_mul 16 ((s - 10) / 3)]
        refine aw_iload_n hC dX2_valueBeside_82 rfl ?_
        refine aw_bipush (v := 16) hC dX2_valueBeside_83 (by decide) ?_
        refine aw_irem hC dX2_valueBeside_85 (by decide) ?_
        rw [show (nI x) - (nI x) / 16 * 16 = nI (x % 16) from pk_rem (a := x) (d := 16) (by omega) (by decide) (by decide)]
        refine aw_iadd hC dX2_valueBeside_86 ?_
        rw [show (nI (16 * ((s - 10) / 3))) + (nI (x % 16)) = nI ((16 * ((s - 10) / 3)) + (x % 16)) from nI_add (16 * ((s - 10) / 3)) (x % 16)]
        refine aw_istore (L2 := [some (.ref 33), some (.int (nI x)), some (.int (nI a)), some (.int (nI s)), some (.int (nI ((16 * ((s - 10) / 3)) + (x % 16)))), none]) hC dX2_valueBeside_87 (by decide) rfl ?_
        refine aw_aload_n hC dX2_valueBeside_89 rfl ?_
        refine aw_getR hC dX2_valueBeside_90 aF_X2_21 rfl (tg_33 hT) (pr_33_6 hR) ?_
        refine aw_iload hC dX2_valueBeside_93 rfl ?_
        refine aw_iconst (v := 3) hC dX2_valueBeside_95 (by decide) ?_
        refine aw_imul hC dX2_valueBeside_96 ?_
        rw [show (nI ((16 * ((s - 10) / 3)) + (x % 16))) * 3 = nI (((16 * ((s - 10) / 3)) + (x % 16)) * 3) from pk_mul ((16 * ((s - 10) / 3)) + (x % 16)) 3]
        refine aw_iload_n hC dX2_valueBeside_97 rfl ?_
        refine kX2_73 hC rfl (m_X4_attributeOfSource (nI s)) dX2_valueBeside_98 rfl a_le a_le a_le a_le a_le rfl aPure_x (aPure_k ?_)
        show AW X 0 0 101 [some (.ref 33), some (.int (nI x)), some (.int (nI a)), some (.int (nI s)), some (.int (nI ((16 * ((s - 10) / 3)) + (x % 16)))), none] [.int ((nI s - 10) - (nI s - 10) / 3 * 3), .int (nI (((16 * ((s - 10) / 3)) + (x % 16)) * 3)), .ref 37] T I J R
        rw [so_a s (by omega) (by omega)]
        refine aw_iadd hC dX2_valueBeside_101 ?_
        rw [show (nI (((16 * ((s - 10) / 3)) + (x % 16)) * 3)) + (nI ((s - 10) % 3)) = nI ((((16 * ((s - 10) / 3)) + (x % 16)) * 3) + ((s - 10) % 3)) from nI_add (((16 * ((s - 10) / 3)) + (x % 16)) * 3) ((s - 10) % 3)]
        have hlw := hlow (by omega)
        have hq37 : ((((16 * ((s - 10) / 3)) + (x % 16)) * 3) + ((s - 10) % 3)) = 3 * (16 * ((s - 10) / 3) + x % 16) + (s - 10) % 3 := by omega
        have hbv := gvB_b (mj := mj) hi (x := x) (s := s) (by omega) h22 (hs2.2 _ _ (by omega) (by omega)) (hkp x a s hx ha hkx h65 h22 (by omega)) (hC9 _ (by omega)) (v := I 37 ((((16 * ((s - 10) / 3)) + (x % 16)) * 3) + ((s - 10) % 3))) (by rw [hq37]; exact hB _ _ (by omega) (by omega) (hkp x a s hx ha hkx h65 h22 (by omega)) (by show m 58 (3 * iN m 62 ((16 * ((s - 10) / 3) + x % 16) / 16) + (s - 10) % 3) &&& 2 ≠ 0; rw [show (16 * ((s - 10) / 3) + x % 16) / 16 = (s - 10) / 3 by omega]; exact hs2.1 _ _ _ (by omega) ha h65 h22 (by omega)))
        refine aw_iaload_k (j := ((((16 * ((s - 10) / 3)) + (x % 16)) * 3) + ((s - 10) % 3))) hC dX2_valueBeside_102 (tg_37 hT) (nI_clamp (by omega)) (vp_in_nI (by omega) (by decide)) ?_
        refine aw_istore (L2 := [some (.ref 33), some (.int (nI x)), some (.int (nI a)), some (.int (nI s)), some (.int (nI ((16 * ((s - 10) / 3)) + (x % 16)))), some (.int (I 37 ((((16 * ((s - 10) / 3)) + (x % 16)) * 3) + ((s - 10) % 3))))]) hC dX2_valueBeside_103 (by decide) rfl ?_
        refine aw_iload hC dX2_valueBeside_105 rfl ?_
        refine aw_iconst (v := (-1)) hC dX2_valueBeside_107 (by decide) ?_
        refine aw_icmp_ne (tgt := 115) hC dX2_valueBeside_108 (by decide) (fun h3 => ?_) (fun h3 => ?_)
        · show AW X 0 0 115 [some (.ref 33), some (.int (nI x)), some (.int (nI a)), some (.int (nI s)), some (.int (nI ((16 * ((s - 10) / 3)) + (x % 16)))), some (.int (I 37 ((((16 * ((s - 10) / 3)) + (x % 16)) * 3) + ((s - 10) % 3))))] [] T I J R
          refine aw_aload_n hC dX2_valueBeside_115 rfl ?_
          refine aw_iload hC dX2_valueBeside_116 rfl ?_
          refine aw_iload hC dX2_valueBeside_118 rfl ?_
          refine aw_iload_n hC dX2_valueBeside_120 rfl ?_
          refine kX2_76 hC rfl (m_X2_converted (I := I) hT hR hG hg hY (x := ((16 * ((s - 10) / 3)) + (x % 16))) (y := x) (by omega) (by omega) (I 37 ((((16 * ((s - 10) / 3)) + (x % 16)) * 3) + ((s - 10) % 3)))) dX2_valueBeside_121 (tg_33 hT) rfl a_le a_le a_le a_le a_le rfl aPure_x (aPure_k ?_)
          show AW X 0 0 124 [some (.ref 33), some (.int (nI x)), some (.int (nI a)), some (.int (nI s)), some (.int (nI ((16 * ((s - 10) / 3)) + (x % 16)))), some (.int (I 37 ((((16 * ((s - 10) / 3)) + (x % 16)) * 3) + ((s - 10) % 3))))] [.int (cvV m (I 37 ((((16 * ((s - 10) / 3)) + (x % 16)) * 3) + ((s - 10) % 3))) ((16 * ((s - 10) / 3)) + (x % 16)) x)] T I J R
          exact aw_ireturn hC hq rfl dX2_valueBeside_124 a_le a_le (aPure_i (vbd_n hnc (gv_b (by rw [← hs]; exact ⟨h65, h22⟩) hnc (by rw [← hs]; omega) (by rw [← hs]; exact hbv.2 (by assumption)))))
        · show AW X 0 0 111 [some (.ref 33), some (.int (nI x)), some (.int (nI a)), some (.int (nI s)), some (.int (nI ((16 * ((s - 10) / 3)) + (x % 16)))), some (.int (I 37 ((((16 * ((s - 10) / 3)) + (x % 16)) * 3) + ((s - 10) % 3))))] [] T I J R
          refine aw_iconst (v := (-1)) hC dX2_valueBeside_111 (by decide) ?_
          refine aw_goto (tgt := 124) hC dX2_valueBeside_112 (by decide) ?_
          exact aw_ireturn hC hq rfl dX2_valueBeside_124 a_le a_le (aPure_i (vbd_n hnc (gv_b (by rw [← hs]; exact ⟨h65, h22⟩) hnc (by rw [← hs]; omega) (by rw [← hs]; exact hbv.1 (by assumption)))))
      · show AW X 0 0 68 [some (.ref 33), some (.int (nI x)), some (.int (nI a)), some (.int (nI s)), none, none] [] T I J R
        have h2n : ¬ 10 ≤ s := fun q9 => h2 ((nI_leI (a := 10) (b := s) (by omega) (by omega)).mpr q9)
        refine aw_aload_n hC dX2_valueBeside_68 rfl ?_
        refine aw_iload_n hC dX2_valueBeside_69 rfl ?_
        refine aw_iload_n hC dX2_valueBeside_70 rfl ?_
        refine kX2_59 hC rfl (m_X2_fieldGives (I := I) hT hR hG hg hY (x := x) (by omega) hV (f := s) (by omega)) dX2_valueBeside_71 (tg_33 hT) rfl a_le a_le a_le a_le a_le rfl aPure_x (aPure_k ?_)
        show AW X 0 0 74 [some (.ref 33), some (.int (nI x)), some (.int (nI a)), some (.int (nI s)), none, none] [.int (gvA m mj x s)] T I J R
        exact aw_ireturn hC hq rfl dX2_valueBeside_74 a_le a_le (aPure_i (vbd_n hnc (gv_a (by rw [← hs]; exact ⟨h65, h22⟩) hnc (by rw [← hs]; omega) (by rw [← hs]))))
  · show AW X 0 0 16 [some (.ref 33), some (.int (nI x)), some (.int (nI a)), none, none, none] [] T I J R
    refine aw_aload_n hC dX2_valueBeside_16 rfl ?_
    refine aw_getR hC dX2_valueBeside_17 aF_X2_28 rfl (tg_33 hT) (pr_33_3 hR) ?_
    refine aw_getR hC dX2_valueBeside_20 aF_X2_65 rfl (tg_19 hT) (pr_19_7 hR) ?_
    by_cases h69 : m 69 x = 0
    · show AW X 0 0 23 [some (.ref 33), some (.int (nI x)), some (.int (nI a)), none, none, none] [.ref 25] T I J R
      refine aw_iload_n hC dX2_valueBeside_23 rfl ?_
      refine aw_aaloadN_k (j := x) hC dX2_valueBeside_24 (tg_25 hT) (nI_clamp (by omega)) (vp_in_nI (by omega) (by decide)) (hE.no (by omega) h69) ?_
      refine aw_astore_nN (L2 := [some (.ref 33), some (.int (nI x)), some (.int (nI a)), some (.null), none, none]) hC dX2_valueBeside_25 rfl (by decide) rfl ?_
      refine aw_aload_nN hC dX2_valueBeside_26 rfl ?_
      refine aw_ifnonnullN hC dX2_valueBeside_27 ?_
      refine aw_iconst (v := (-1)) hC dX2_valueBeside_30 (by decide) ?_
      refine aw_goto (tgt := 40) hC dX2_valueBeside_31 (by decide) ?_
      exact aw_ireturn hC hq rfl dX2_valueBeside_40 a_le a_le (aPure_i (vbd_c (bI_dn.mp (by assumption)) (by rw [if_pos h69])))
    · show AW X 0 0 23 [some (.ref 33), some (.int (nI x)), some (.int (nI a)), none, none, none] [.ref 25] T I J R
      refine aw_iload_n hC dX2_valueBeside_23 rfl ?_
      refine aw_aaloadR_k (j := x) hC dX2_valueBeside_24 (tg_25 hT) (nI_clamp (by omega)) (vp_in_nI (by omega) (by decide)) (hE.rf (by omega) h69) ?_
      refine aw_astore_n (L2 := [some (.ref 33), some (.int (nI x)), some (.int (nI a)), some (.ref (eq x)), none, none]) hC dX2_valueBeside_25 rfl (by decide) rfl ?_
      refine aw_aload_n hC dX2_valueBeside_26 rfl ?_
      refine aw_ifnonnull (tgt := 34) hC dX2_valueBeside_27 (by decide) ?_
      refine aw_aload_n hC dX2_valueBeside_34 rfl ?_
      refine aw_getR hC dX2_valueBeside_35 aF_X2_69 rfl (hE.tg (by omega) h69) (hE.r1 (by omega) h69) ?_
      refine aw_iload_n hC dX2_valueBeside_38 rfl ?_
      refine aw_iaload_k (j := a) hC dX2_valueBeside_39 (hE.t1 (by omega) h69) (nI_clamp (by omega)) (vp_in_nI (by omega) (by decide)) ?_
      rw [(hE.vl (by omega) h69 ha)]
      exact aw_ireturn hC hq rfl dX2_valueBeside_40 a_le a_le (aPure_i (vbd_c (bI_dn.mp (by assumption)) (by rw [if_neg h69])))
abbrev fgR (I m : aI) (x k : Nat) : Nat → Int32 := fun j => if (3 * x ≤ j ∧ j < 3 * x + k) ∧ cmpd m x (j - 3 * x) then -1 else I 37 j
theorem fg_y {I m : aI} {x k : Nat} (h : cmpd m x k) (j : Nat) : (if j = x * 3 + k then -1 else fgR I m x k j) = fgR I m x (k + 1) j := by
  simp only [fgR]
  by_cases e : j = x * 3 + k
  · rw [if_pos e, if_pos ⟨by omega, by rw [show j - 3 * x = k by omega]; exact h⟩]
  · rw [if_neg e]
    by_cases f : (3 * x ≤ j ∧ j < 3 * x + k) ∧ cmpd m x (j - 3 * x)
    · rw [if_pos f, if_pos ⟨by omega, f.2⟩]
    · rw [if_neg f, if_neg (fun q => f ⟨by omega, q.2⟩)]
theorem fg_n {I m : aI} {x k : Nat} (h : ¬ cmpd m x k) (j : Nat) : fgR I m x k j = fgR I m x (k + 1) j := by
  simp only [fgR]
  by_cases f : (3 * x ≤ j ∧ j < 3 * x + k) ∧ cmpd m x (j - 3 * x)
  · rw [if_pos f, if_pos ⟨by omega, f.2⟩]
  · rw [if_neg f, if_neg (fun q => f ⟨by
      have : j ≠ 3 * x + k := fun z => h (by have := q.2; rwa [z, show 3 * x + k - 3 * x = k by omega] at this)
      omega, q.2⟩)]
set_option maxRecDepth 100000 in
theorem m_X2_forgetComputed {T : List aT} {I : aI} {J : aJ} {R : aR} (hT : aPT T) (hR : aPR R) {m : aI} {g : Nat} {gq : Nat → Nat} (hG : CGn T I R m g gq) (hg : GW m g) (hY : CTy I m) {x : Nat} (hx : x < 16 * g) : MX2_forgetComputed 0 0 [.ref 33, .int (nI x)] T I J R (aPure none T (a_ur I 37 (fgR I m x 3)) J R) := by
  refine a_met (by decide +kernel) a_le (fun X hC hq => ?_)
  show AW X 0 0 0 [some (.ref 33), some (.int (nI x)), none] [] T I J R
  have hg4 := hg.g4
  have hty := hg.ty (x / 16) (by omega)
  refine aw_iconst (v := 0) hC dX2_forgetComputed_0 (by decide) ?_
  refine aw_istore_n (L2 := [some (.ref 33), some (.int (nI x)), some (.int 0)]) hC dX2_forgetComputed_1 rfl (by decide) rfl ?_
  refine aw_setI (I2 := a_ur I 37 (fgR I m x 0)) (a_ur_id (fun j => if_neg (by omega))).symm ?_
  have loop : ∀ k, k ≤ 3 → AW X 0 0 2 [some (.ref 33), some (.int (nI x)), some (.int (nI k))] [] T (a_ur I 37 (fgR I m x k)) J R := by
    refine a_down 3 (fun k hk_k ih_k => ?_)
    have hG2 : CGn T (a_ur I 37 (fgR I m x k)) R m g gq := hG.fr hT (fun o ho => a_ur_ne (by omega)) (by rw [a_ur_ne (by decide)])
    have hY2 : CTy (a_ur I 37 (fgR I m x k)) m := hY.fr (fun o h1 h2 => a_ur_ne (by omega))
    refine aw_iload_n hC dX2_forgetComputed_2 rfl ?_
    refine aw_iconst (v := 3) hC dX2_forgetComputed_3 (by decide) ?_
    refine aw_icmp_ge (tgt := 40) hC dX2_forgetComputed_4 (by decide) (fun h1 => ?_) (fun h1 => ?_)
    · show AW X 0 0 40 [some (.ref 33), some (.int (nI x)), some (.int (nI k))] [] T (a_ur I 37 (fgR I m x k)) J R
      have h1n : 3 ≤ k := (nI_leI (a := 3) (b := k) (by omega) (by omega)).mp h1
      exact aw_return hC hq rfl dX2_forgetComputed_40 a_le a_le (by rw [show k = 3 by omega]; exact aPure_v)
    · show AW X 0 0 7 [some (.ref 33), some (.int (nI x)), some (.int (nI k))] [] T (a_ur I 37 (fgR I m x k)) J R
      have h1n : ¬ 3 ≤ k := fun q9 => h1 ((nI_leI (a := 3) (b := k) (by omega) (by omega)).mpr q9)
      refine aw_aload_n hC dX2_forgetComputed_7 rfl ?_
      refine aw_getR hC dX2_forgetComputed_8 aF_X2_28 rfl (tg_33 hT) (pr_33_3 hR) ?_
      refine aw_iload_n hC dX2_forgetComputed_11 rfl ?_
      refine kX2_85 hC rfl (m_X4_typeOf (I := a_ur I 37 (fgR I m x k)) hT hR hG2 hg (x := x) (by omega)) dX2_forgetComputed_12 (tg_19 hT) rfl a_le a_le a_le a_le a_le rfl aPure_x (aPure_k ?_)
      show AW X 0 0 15 [some (.ref 33), some (.int (nI x)), some (.int (nI k))] [.ref (27 + 2 * (iN m 62 (x / 16)))] T (a_ur I 37 (fgR I m x k)) J R
      refine aw_iload_n hC dX2_forgetComputed_15 rfl ?_
      refine aw_iconst (v := 2) hC dX2_forgetComputed_16 (by decide) ?_
      refine kX2_107 hC rfl (m_X9_is (I := a_ur I 37 (fgR I m x k)) hT hR hY2 (t := (iN m 62 (x / 16))) (a := k) (by omega) (by omega) (2 : Int32)) dX2_forgetComputed_17 (ty_tg hT (by omega)) rfl a_le a_le a_le a_le a_le rfl aPure_x (aPure_k ?_)
      show AW X 0 0 20 [some (.ref 33), some (.int (nI x)), some (.int (nI k))] [.int (bI (decide (m 58 (3 * (iN m 62 (x / 16)) + k) &&& (2 : Int32) ≠ 0)))] T (a_ur I 37 (fgR I m x k)) J R
      refine aw_if_eq (tgt := 34) hC dX2_forgetComputed_20 (by decide) (fun h2 => ?_) (fun h2 => ?_)
      · show AW X 0 0 34 [some (.ref 33), some (.int (nI x)), some (.int (nI k))] [] T (a_ur I 37 (fgR I m x k)) J R
        refine aw_iinc (v := nI (k + 1)) (L2 := [some (.ref 33), some (.int (nI x)), some (.int (nI (k + 1)))]) hC dX2_forgetComputed_34 rfl (nI_inc _) (by decide) rfl ?_
        refine aw_goto (tgt := 2) hC dX2_forgetComputed_37 (by decide) ?_
        rw [show a_ur I 37 (fgR I m x k) = a_ur I 37 (fgR I m x (k + 1)) from a_ur_ext (fg_n (bI_d0.mp (by assumption)))]
        exact ih_k (by omega)
      · show AW X 0 0 23 [some (.ref 33), some (.int (nI x)), some (.int (nI k))] [] T (a_ur I 37 (fgR I m x k)) J R
        refine aw_aload_n hC dX2_forgetComputed_23 rfl ?_
        refine aw_getR hC dX2_forgetComputed_24 aF_X2_21 rfl (tg_33 hT) (pr_33_6 hR) ?_
        refine aw_iload_n hC dX2_forgetComputed_27 rfl ?_
        refine aw_iconst (v := 3) hC dX2_forgetComputed_28 (by decide) ?_
        refine aw_imul hC dX2_forgetComputed_29 ?_
        rw [show (nI x) * 3 = nI (x * 3) from pk_mul x 3]
        refine aw_iload_n hC dX2_forgetComputed_30 rfl ?_
        refine aw_iadd hC dX2_forgetComputed_31 ?_
        rw [show (nI (x * 3)) + (nI k) = nI ((x * 3) + k) from nI_add (x * 3) k]
        refine aw_iconst (v := (-1)) hC dX2_forgetComputed_32 (by decide) ?_
        refine aw_iastore_k (j := ((x * 3) + k)) hC dX2_forgetComputed_33 (tg_37 hT) (nI_clamp (by omega)) (vp_in_nI (by omega) (by decide)) ?_
        refine aw_iinc (v := nI (k + 1)) (L2 := [some (.ref 33), some (.int (nI x)), some (.int (nI (k + 1)))]) hC dX2_forgetComputed_34 rfl (nI_inc _) (by decide) rfl ?_
        refine aw_goto (tgt := 2) hC dX2_forgetComputed_37 (by decide) ?_
        rw [show a_u (a_ur I 37 (fgR I m x k)) 37 ((x * 3) + k) (-1) = a_ur I 37 (fgR I m x (k + 1)) from by rw [a_ur_put]; exact a_ur_ext (fg_y (bI_dn.mp (by assumption)))]
        exact ih_k (by omega)
  exact loop 0 (Nat.zero_le _)
abbrev nB0 (m : aI) (x : Nat) : Bool := decide (m 69 x = 0) || decide (m 71 x ≠ 0)
noncomputable abbrev dk (m : aI) (mj : aJ) (x : Nat) : Nat → Bool := fun a => decide (m 69 x ≠ 0) && fD m mj x a
noncomputable abbrev fk (m : aI) (mj : aJ) (x : Nat) : Nat → Bool := fun a => decide (m 69 x ≠ 0) && fF m mj x a
/-- what is made of x so far: B the world beside -/
def MkI (m : aI) (mj : aJ) (B0 B : Nat → Int32) (x k : Nat) : Prop := (∀ j, ¬ (3 * x ≤ j ∧ j < 3 * x + 3) → B j = B0 j) ∧ ∀ a, a < k → B (3 * x + a) = vbV m mj x a
theorem MkI.put {m : aI} {mj : aJ} {B0 B : Nat → Int32} {x k : Nat} (hk : k < 3) (h : MkI m mj B0 B x k) : MkI m mj B0 (fun j => if j = x * 3 + k then vbV m mj x k else B j) x (k + 1) := by
  refine ⟨fun j hj => ?_, fun a ha => ?_⟩
  · dsimp only; rw [if_neg (by omega)]; exact h.1 j hj
  · dsimp only; by_cases e : a = k
    · rw [if_pos (by omega), e]
    · rw [if_neg (by omega)]; exact h.2 a (by omega)
theorem df_v {m : aI} {mj : aJ} {g x a : Nat} (hi : InvE m g) (hx : x < 64) (ha : a < 3) : dfC m x a (vbV m mj x a) ↔ dk m mj x a = true := by
  simp only [dk, fD, Bool.and_eq_true, decide_eq_true_eq]
  constructor
  · rintro h
    have hc : ¬ cmpd m x a := not_not_intro h.2.1
    refine ⟨h.1, (df_s hi hx ha h.1).mpr ?_⟩
    unfold vbV at h; rw [if_neg hc] at h; exact h
  · rintro ⟨h0, h⟩
    have q := (df_s hi hx ha h0).mp h
    have hc : ¬ cmpd m x a := not_not_intro q.2.1
    unfold vbV; rw [if_neg hc]; exact q
theorem mk_end {m : aI} {mj : aJ} {g x : Nat} (hi : InvE m g) (hx : x < 64) (hk : sKept m x = true) (hc : m 91 x = sCmp m mj x) : (nB0 m x || anyB (fk m mj x) 3) = decide (m 91 x = 1 ∨ m 91 x = 3) ∧ (!nB0 m x && !anyB (dk m mj x) 3) = decide (m 91 x = 0) := by
  rw [hc]
  unfold sCmp
  rw [if_neg (by rw [hk]; simp)]
  by_cases h0 : m 69 x = 0
  · rw [if_pos (by rw [h0]; decide)]
    simp [nB0, h0]
  · rw [if_neg (not_not_intro (hi.2.1 x hx h0))]
    have e1 : anyB (fk m mj x) 3 = anyB (fF m mj x) 3 := anyB_cg (fun j _ => by simp only [fk, decide_eq_true h0, Bool.true_and])
    have e2 : anyB (dk m mj x) 3 = anyB (fD m mj x) 3 := anyB_cg (fun j _ => by simp only [dk, decide_eq_true h0, Bool.true_and])
    have e3 : anyB (fF m mj x) 3 = true → anyB (fD m mj x) 3 = true := fun q => by
      obtain ⟨j, h1, h2⟩ := anyB_iff.mp q
      exact anyB_iff.mpr ⟨j, h1, by simp only [fF, Bool.and_eq_true] at h2; exact h2.1⟩
    rw [e1, e2]
    have e4 : nB0 m x = decide (m 71 x ≠ 0) := by simp only [nB0, decide_eq_false h0, Bool.false_or]
    rw [e4]
    cases hb : decide (m 71 x ≠ 0) <;> cases hf : anyB (fF m mj x) 3 <;> cases hd : anyB (fD m mj x) 3 <;> simp_all <;> decide
theorem bs_end {m : aI} {mj : aJ} {B0 B B2 : Nat → Int32} {x : Nat} (h0 : BsI m B0 x) (hk : sKept m x = true → MkI m mj B0 B x 3) (h69 : m 91 x ≠ 1 → m 69 x ≠ 0) (hb : sKept m x = true → ∀ j, B2 j = if (m 91 x = 1 ∨ m 91 x = 3) ∧ (3 * x ≤ j ∧ j < 3 * x + 3) ∧ cmpd m x (j - 3 * x) then -1 else B j) (hn : sKept m x = false → B2 = B0) : BsI m B2 (x + 1) := by
  intro y c hy hc hky hcm
  cases e : sKept m x with
  | false =>
    have hne : y ≠ x := fun q => by rw [q, e] at hky; cases hky
    rw [hn e]; exact h0 y c (by omega) hc hky hcm
  | true =>
    rw [hb e]
    have q := hk e
    by_cases d : y = x
    · rw [d] at hcm ⊢
      by_cases n : m 91 x = 1 ∨ m 91 x = 3
      · rw [if_pos ⟨n, by omega, by rw [show 3 * x + c - 3 * x = c by omega]; exact hcm⟩, if_pos n]
      · rw [if_neg (fun z => n z.1), if_neg n, q.2 c hc]
        unfold vbV; rw [if_pos hcm, if_neg (h69 (fun z => n (Or.inl z)))]
    · rw [if_neg (fun z => by have := z.2.1; omega), q.1 _ (by omega)]; exact h0 y c (by omega) hc hky hcm
set_option maxRecDepth 100000 in
theorem m_X2_isMadeAlike {T : List aT} {I : aI} {J : aJ} {R : aR} (hT : aPT T) (hR : aPR R) {m : aI} {g : Nat} {gq : Nat → Nat} (hG : CGn T I R m g gq) (hg : GW m g) (hY : CTy I m) {eq : Nat → Nat} (hE : CEn T I R m eq) {mj : aJ} (hV : CFo I m mj) (hi : InvE m g) {x : Nat} (hx : x < 16 * g) (hB : BsI m (I 37) (16 * (x / 16))) (hC9 : CmpOK m mj g) (hs2 : InvS m g) (hkp : KpC m g) (hkx : sKept m x = true) : MX2_isMadeAlike 0 0 [.ref 33, .int (nI x)] T I J R (aRelV (fun v I2 J2 => J2 = J ∧ ∃ B2 B, I2 = a_ur I 37 B2 ∧ v = some (.int (bI (decide (m 91 x = 0)))) ∧ MkI m mj (I 37) B x 3 ∧ ∀ j, B2 j = if (m 91 x = 1 ∨ m 91 x = 3) ∧ (3 * x ≤ j ∧ j < 3 * x + 3) ∧ cmpd m x (j - 3 * x) then -1 else B j) T R) := by
  refine a_met (by decide +kernel) a_le (fun X hC hq => ?_)
  show AW X 0 0 0 [some (.ref 33), some (.int (nI x)), none, none, none, none, none] [] T I J R
  have hg4 := hg.g4
  have hty := hg.ty (x / 16) (by omega)
  have join41 : ∀ (nw0 al0 : Int32), nw0 = bI (nB0 m x) → al0 = bI (!nB0 m x) → AW X 0 0 41 [some (.ref 33), some (.int (nI x)), none, some (.int nw0), some (.int al0), some (.int 0), none] [] T I J R := by
    intro nw0 al0 hnw0 hal0
    refine aw_setI (I2 := a_ur I 37 (I 37)) (a_ur_id (fun j => rfl)).symm ?_
    have loop : ∀ k, k ≤ 3 → ∀ (B : Nat → Int32) (nw al : Int32), MkI m mj (I 37) B x k → nw = bI (nB0 m x || anyB (fk m mj x) k) → al = bI (!nB0 m x && !anyB (dk m mj x) k) → AW X 0 0 41 [some (.ref 33), some (.int (nI x)), none, some (.int nw), some (.int al), some (.int (nI k)), none] [] T (a_ur I 37 B) J R := by
      refine a_down 3 (fun k hk_k ih_k => ?_)
      intro B nw al hM hnw hal
      have hG2 : CGn T (a_ur I 37 B) R m g gq := hG.fr hT (fun o ho => a_ur_ne (by omega)) (by rw [a_ur_ne (by decide)])
      have hY2 : CTy (a_ur I 37 B) m := hY.fr (fun o h1 h2 => a_ur_ne (by omega))
      have hE2 : CEn T (a_ur I 37 B) R m eq := hE.fr hT (fun o ho => a_ur_ne (by omega))
      have hV2 : CFo (a_ur I 37 B) m mj := fun f hf => by rw [a_ur_ne (by decide)]; exact hV f hf
      have hB2 : BsI m ((a_ur I 37 B) 37) (16 * (x / 16)) := by rw [a_ur_self]; exact fun y c hy hc h1 h2 => (hM.1 _ (by omega)).trans (hB y c hy hc h1 h2)
      refine aw_iload hC dX2_isMadeAlike_41 rfl ?_
      refine aw_iconst (v := 3) hC dX2_isMadeAlike_43 (by decide) ?_
      refine aw_icmp_ge (tgt := 107) hC dX2_isMadeAlike_44 (by decide) (fun h1 => ?_) (fun h1 => ?_)
      · show AW X 0 0 107 [some (.ref 33), some (.int (nI x)), none, some (.int nw), some (.int al), some (.int (nI k)), none] [] T (a_ur I 37 B) J R
        have h1n : 3 ≤ k := (nI_leI (a := 3) (b := k) (by omega) (by omega)).mp h1
        have e9 : k = 3 := by omega
        subst e9
        obtain ⟨m1, m2⟩ := mk_end hi (by omega) hkx (hC9 x hx)
        rw [m1] at hnw
        rw [m2] at hal
        rw [hnw, hal]
        show AW X 0 0 107 [some (.ref 33), some (.int (nI x)), none, some (.int (bI (decide (m 91 x = 1 ∨ m 91 x = 3)))), some (.int (bI (decide (m 91 x = 0)))), some (.int (nI 3)), none] [] T (a_ur I 37 B) J R
        refine aw_iload_n hC dX2_isMadeAlike_107 rfl ?_
        refine aw_if_eq (tgt := 116) hC dX2_isMadeAlike_108 (by decide) (fun h2 => ?_) (fun h2 => ?_)
        · show AW X 0 0 116 [some (.ref 33), some (.int (nI x)), none, some (.int (bI (decide (m 91 x = 1 ∨ m 91 x = 3)))), some (.int (bI (decide (m 91 x = 0)))), some (.int (nI 3)), none] [] T (a_ur I 37 B) J R
          refine aw_iload hC dX2_isMadeAlike_116 rfl ?_
          exact aw_zreturn hC hq rfl (bI_01 _) dX2_isMadeAlike_118 a_le a_le ⟨_, rfl, rfl, rfl, rfl, _, B, rfl, rfl, hM, fun j => by rw [if_neg (fun q => bI_d0.mp (by assumption) q.1)]⟩
        · show AW X 0 0 111 [some (.ref 33), some (.int (nI x)), none, some (.int (bI (decide (m 91 x = 1 ∨ m 91 x = 3)))), some (.int (bI (decide (m 91 x = 0)))), some (.int (nI 3)), none] [] T (a_ur I 37 B) J R
          refine aw_aload_n hC dX2_isMadeAlike_111 rfl ?_
          refine aw_iload_n hC dX2_isMadeAlike_112 rfl ?_
          refine kX2_184 hC rfl (m_X2_forgetComputed (I := a_ur I 37 B) hT hR hG2 hg hY2 (x := x) (by omega)) dX2_isMadeAlike_113 (tg_33 hT) rfl a_le a_le a_le a_le a_le rfl aPure_x (aPure_k ?_)
          rw [a_ur_2]
          show AW X 0 0 116 [some (.ref 33), some (.int (nI x)), none, some (.int (bI (decide (m 91 x = 1 ∨ m 91 x = 3)))), some (.int (bI (decide (m 91 x = 0)))), some (.int (nI 3)), none] [] T (a_ur I 37 (fgR (a_ur I 37 B) m x 3)) J R
          refine aw_iload hC dX2_isMadeAlike_116 rfl ?_
          exact aw_zreturn hC hq rfl (bI_01 _) dX2_isMadeAlike_118 a_le a_le ⟨_, rfl, rfl, rfl, rfl, _, B, rfl, rfl, hM, fun j => by simp only [fgR, a_ur_self]; by_cases c : (3 * x ≤ j ∧ j < 3 * x + 3) ∧ cmpd m x (j - 3 * x); (rw [if_pos c, if_pos ⟨bI_dn.mp (by assumption), c⟩]); (rw [if_neg c, if_neg (fun q => c q.2)])⟩
      · show AW X 0 0 47 [some (.ref 33), some (.int (nI x)), none, some (.int nw), some (.int al), some (.int (nI k)), none] [] T (a_ur I 37 B) J R
        have h1n : ¬ 3 ≤ k := fun q9 => h1 ((nI_leI (a := 3) (b := k) (by omega) (by omega)).mpr q9)
        refine aw_aload_n hC dX2_isMadeAlike_47 rfl ?_
        refine aw_iload_n hC dX2_isMadeAlike_48 rfl ?_
        refine aw_iload hC dX2_isMadeAlike_49 rfl ?_
        refine kX2_181 hC rfl (m_X2_valueBeside (I := a_ur I 37 B) hT hR hG2 hg hY2 hE2 hV2 hi (x := x) (by omega) hB2 hC9 hs2 hkp hkx (a := k) (by omega)) dX2_isMadeAlike_51 (tg_33 hT) rfl a_le a_le a_le a_le a_le rfl aPure_x (aPure_k ?_)
        show AW X 0 0 54 [some (.ref 33), some (.int (nI x)), none, some (.int nw), some (.int al), some (.int (nI k)), none] [.int (vbV m mj x k)] T (a_ur I 37 B) J R
        refine aw_istore (L2 := [some (.ref 33), some (.int (nI x)), none, some (.int nw), some (.int al), some (.int (nI k)), some (.int (vbV m mj x k))]) hC dX2_isMadeAlike_54 (by decide) rfl ?_
        refine aw_aload_n hC dX2_isMadeAlike_56 rfl ?_
        refine aw_getR hC dX2_isMadeAlike_57 aF_X2_21 rfl (tg_33 hT) (pr_33_6 hR) ?_
        refine aw_iload_n hC dX2_isMadeAlike_60 rfl ?_
        refine aw_iconst (v := 3) hC dX2_isMadeAlike_61 (by decide) ?_
        refine aw_imul hC dX2_isMadeAlike_62 ?_
        rw [show (nI x) * 3 = nI (x * 3) from pk_mul x 3]
        refine aw_iload hC dX2_isMadeAlike_63 rfl ?_
        refine aw_iadd hC dX2_isMadeAlike_65 ?_
        rw [show (nI (x * 3)) + (nI k) = nI ((x * 3) + k) from nI_add (x * 3) k]
        refine aw_iload hC dX2_isMadeAlike_66 rfl ?_
        refine aw_iastore_k (j := ((x * 3) + k)) hC dX2_isMadeAlike_68 (tg_37 hT) (nI_clamp (by omega)) (vp_in_nI (by omega) (by decide)) ?_
        rw [show a_u (a_ur I 37 B) 37 ((x * 3) + k) (vbV m mj x k) = (a_ur I 37 (fun j => if j = x * 3 + k then vbV m mj x k else B j)) from by rw [a_ur_put]]
        have hG3 : CGn T (a_ur I 37 (fun j => if j = x * 3 + k then vbV m mj x k else B j)) R m g gq := hG.fr hT (fun o ho => a_ur_ne (by omega)) (by rw [a_ur_ne (by decide)])
        have hY3 : CTy (a_ur I 37 (fun j => if j = x * 3 + k then vbV m mj x k else B j)) m := hY.fr (fun o h1 h2 => a_ur_ne (by omega))
        have hE3 : CEn T (a_ur I 37 (fun j => if j = x * 3 + k then vbV m mj x k else B j)) R m eq := hE.fr hT (fun o ho => a_ur_ne (by omega))
        refine aw_aload_n hC dX2_isMadeAlike_69 rfl ?_
        refine aw_iload_n hC dX2_isMadeAlike_70 rfl ?_
        refine aw_iload hC dX2_isMadeAlike_71 rfl ?_
        refine aw_iload hC dX2_isMadeAlike_73 rfl ?_
        refine kX2_103 hC rfl (m_X2_isDiffering (I := a_ur I 37 (fun j => if j = x * 3 + k then vbV m mj x k else B j)) hT hR hG3 hg hY3 hE3 (x := x) (by omega) (a := k) (by omega) (vbV m mj x k)) dX2_isMadeAlike_75 (tg_33 hT) rfl a_le a_le a_le a_le a_le rfl aPure_x (aPure_k ?_)
        show AW X 0 0 78 [some (.ref 33), some (.int (nI x)), none, some (.int nw), some (.int al), some (.int (nI k)), some (.int (vbV m mj x k))] [.int (bI (decide (dfC m x k (vbV m mj x k))))] T (a_ur I 37 (fun j => if j = x * 3 + k then vbV m mj x k else B j)) J R
        refine aw_if_eq (tgt := 101) hC dX2_isMadeAlike_78 (by decide) (fun h3 => ?_) (fun h3 => ?_)
        · show AW X 0 0 101 [some (.ref 33), some (.int (nI x)), none, some (.int nw), some (.int al), some (.int (nI k)), some (.int (vbV m mj x k))] [] T (a_ur I 37 (fun j => if j = x * 3 + k then vbV m mj x k else B j)) J R
          refine aw_iinc (v := nI (k + 1)) (L2 := [some (.ref 33), some (.int (nI x)), none, some (.int nw), some (.int al), some (.int (nI (k + 1))), some (.int (vbV m mj x k))]) hC dX2_isMadeAlike_101 rfl (nI_inc _) (by decide) rfl ?_
          refine aw_goto (tgt := 41) hC dX2_isMadeAlike_104 (by decide) ?_
          refine aw_forget 6 (L2 := [some (.ref 33), some (.int (nI x)), none, some (.int nw), some (.int al), some (.int (nI (k + 1))), none]) rfl ?_
          exact ih_k (by omega) _ _ _ (hM.put (by omega)) (by rw [hnw, anyB, show fk m mj x k = false from by have h9 := (not_congr (df_v (m := m) (mj := mj) (x := x) (a := k) hi (by omega) (by omega))).mp (bI_d0.mp (by assumption)); simp only [fk, fF]; simp only [dk, fD] at h9; revert h9; cases decide (m 69 x ≠ 0) <;> cases sDf m mj x k <;> simp, Bool.or_false]) (by rw [hal, anyB, show dk m mj x k = false from by have h9 := (not_congr (df_v (m := m) (mj := mj) (x := x) (a := k) hi (by omega) (by omega))).mp (bI_d0.mp (by assumption)); simpa using h9, Bool.or_false])
        · show AW X 0 0 81 [some (.ref 33), some (.int (nI x)), none, some (.int nw), some (.int al), some (.int (nI k)), some (.int (vbV m mj x k))] [] T (a_ur I 37 (fun j => if j = x * 3 + k then vbV m mj x k else B j)) J R
          refine aw_iconst (v := 0) hC dX2_isMadeAlike_81 (by decide) ?_
          refine aw_istore (L2 := [some (.ref 33), some (.int (nI x)), none, some (.int nw), some (.int 0), some (.int (nI k)), some (.int (vbV m mj x k))]) hC dX2_isMadeAlike_82 (by decide) rfl ?_
          refine aw_iload_n hC dX2_isMadeAlike_84 rfl ?_
          refine aw_aload_n hC dX2_isMadeAlike_85 rfl ?_
          refine aw_getR hC dX2_isMadeAlike_86 aF_X2_28 rfl (tg_33 hT) (pr_33_3 hR) ?_
          refine aw_iload_n hC dX2_isMadeAlike_89 rfl ?_
          refine kX2_85 hC rfl (m_X4_typeOf (I := a_ur I 37 (fun j => if j = x * 3 + k then vbV m mj x k else B j)) hT hR hG3 hg (x := x) (by omega)) dX2_isMadeAlike_90 (tg_19 hT) rfl a_le a_le a_le a_le a_le rfl aPure_x (aPure_k ?_)
          show AW X 0 0 93 [some (.ref 33), some (.int (nI x)), none, some (.int nw), some (.int 0), some (.int (nI k)), some (.int (vbV m mj x k))] [.ref (27 + 2 * (iN m 62 (x / 16))), .int nw] T (a_ur I 37 (fun j => if j = x * 3 + k then vbV m mj x k else B j)) J R
          refine aw_iload hC dX2_isMadeAlike_93 rfl ?_
          refine aw_iconst (v := 1) hC dX2_isMadeAlike_95 (by decide) ?_
          refine kX2_107 hC rfl (m_X9_is (I := a_ur I 37 (fun j => if j = x * 3 + k then vbV m mj x k else B j)) hT hR hY3 (t := (iN m 62 (x / 16))) (a := k) (by omega) (by omega) (1 : Int32)) dX2_isMadeAlike_96 (ty_tg hT (by omega)) rfl a_le a_le a_le a_le a_le rfl aPure_x (aPure_k ?_)
          show AW X 0 0 99 [some (.ref 33), some (.int (nI x)), none, some (.int nw), some (.int 0), some (.int (nI k)), some (.int (vbV m mj x k))] [.int (bI (decide (m 58 (3 * (iN m 62 (x / 16)) + k) &&& (1 : Int32) ≠ 0))), .int nw] T (a_ur I 37 (fun j => if j = x * 3 + k then vbV m mj x k else B j)) J R
          refine aw_ior hC dX2_isMadeAlike_99 ?_
          refine aw_istore_n (L2 := [some (.ref 33), some (.int (nI x)), none, some (.int (nw ||| (bI (decide (m 58 (3 * (iN m 62 (x / 16)) + k) &&& (1 : Int32) ≠ 0))))), some (.int 0), some (.int (nI k)), some (.int (vbV m mj x k))]) hC dX2_isMadeAlike_100 rfl (by decide) rfl ?_
          refine aw_iinc (v := nI (k + 1)) (L2 := [some (.ref 33), some (.int (nI x)), none, some (.int (nw ||| (bI (decide (m 58 (3 * (iN m 62 (x / 16)) + k) &&& (1 : Int32) ≠ 0))))), some (.int 0), some (.int (nI (k + 1))), some (.int (vbV m mj x k))]) hC dX2_isMadeAlike_101 rfl (nI_inc _) (by decide) rfl ?_
          refine aw_goto (tgt := 41) hC dX2_isMadeAlike_104 (by decide) ?_
          refine aw_forget 6 (L2 := [some (.ref 33), some (.int (nI x)), none, some (.int (nw ||| (bI (decide (m 58 (3 * (iN m 62 (x / 16)) + k) &&& (1 : Int32) ≠ 0))))), some (.int 0), some (.int (nI (k + 1))), none]) rfl ?_
          exact ih_k (by omega) _ _ _ (hM.put (by omega)) (by rw [hnw, bI_or, anyB, Bool.or_assoc]; congr 3; have h9 := (df_v (m := m) (mj := mj) (x := x) (a := k) hi (by omega) (by omega)).mp (bI_dn.mp (by assumption : ¬ bI (decide (dfC m x k (vbV m mj x k))) = 0)); simp only [dk, fD, Bool.and_eq_true] at h9; simp only [fk, fF, h9.1, h9.2, Bool.true_and]) (by rw [anyB, (df_v (m := m) (mj := mj) (x := x) (a := k) hi (by omega) (by omega)).mp (bI_dn.mp (by assumption : ¬ bI (decide (dfC m x k (vbV m mj x k))) = 0)), Bool.or_true, Bool.not_true, Bool.and_false]; rfl)
    exact loop 0 (Nat.zero_le _) _ _ _ ⟨fun _ _ => rfl, fun a ha => absurd ha (by omega)⟩ (by rw [hnw0]; show bI (nB0 m x) = bI (nB0 m x || false); rw [Bool.or_false]) (by rw [hal0]; show bI (!nB0 m x) = bI (!nB0 m x && !false); simp)
  refine aw_aload_n hC dX2_isMadeAlike_0 rfl ?_
  refine aw_getR hC dX2_isMadeAlike_1 aF_X2_28 rfl (tg_33 hT) (pr_33_3 hR) ?_
  refine aw_getR hC dX2_isMadeAlike_4 aF_X2_65 rfl (tg_19 hT) (pr_19_7 hR) ?_
  refine aw_iload_n hC dX2_isMadeAlike_7 rfl ?_
  by_cases h69 : m 69 x = 0
  · show AW X 0 0 8 [some (.ref 33), some (.int (nI x)), none, none, none, none, none] [.int (nI x), .ref 25] T I J R
    refine aw_aaloadN_k (j := x) hC dX2_isMadeAlike_8 (tg_25 hT) (nI_clamp (by omega)) (vp_in_nI (by omega) (by decide)) (hE.no (by omega) h69) ?_
    refine aw_astore_nN (L2 := [some (.ref 33), some (.int (nI x)), some (.null), none, none, none, none]) hC dX2_isMadeAlike_9 rfl (by decide) rfl ?_
    refine aw_aload_nN hC dX2_isMadeAlike_10 rfl ?_
    refine aw_ifnullN (tgt := 21) hC dX2_isMadeAlike_11 (by decide) ?_
    refine aw_iconst (v := 1) hC dX2_isMadeAlike_21 (by decide) ?_
    refine aw_goto (tgt := 26) hC dX2_isMadeAlike_22 (by decide) ?_
    refine aw_istore_n (L2 := [some (.ref 33), some (.int (nI x)), some (.null), some (.int 1), none, none, none]) hC dX2_isMadeAlike_26 rfl (by decide) rfl ?_
    refine aw_iload_n hC dX2_isMadeAlike_27 rfl ?_
    refine aw_if_ne (tgt := 35) hC dX2_isMadeAlike_28 (by decide) (fun _ => ?_) (fun h4 => absurd h4 (by decide))
    show AW X 0 0 35 [some (.ref 33), some (.int (nI x)), some (.null), some (.int 1), none, none, none] [] T I J R
    refine aw_iconst (v := 0) hC dX2_isMadeAlike_35 (by decide) ?_
    refine aw_istore (L2 := [some (.ref 33), some (.int (nI x)), some (.null), some (.int 1), some (.int 0), none, none]) hC dX2_isMadeAlike_36 (by decide) rfl ?_
    refine aw_iconst (v := 0) hC dX2_isMadeAlike_38 (by decide) ?_
    refine aw_istore (L2 := [some (.ref 33), some (.int (nI x)), some (.null), some (.int 1), some (.int 0), some (.int 0), none]) hC dX2_isMadeAlike_39 (by decide) rfl ?_
    refine aw_forget 2 (L2 := [some (.ref 33), some (.int (nI x)), none, some (.int 1), some (.int 0), some (.int 0), none]) rfl ?_
    exact join41 1 0 (by rw [show nB0 m x = true from by simp only [nB0]; first | (rw [decide_eq_true h69]; rfl) | rw [decide_eq_true (show m 71 x ≠ 0 by assumption), Bool.or_true]]; rfl) (by rw [show nB0 m x = true from by simp only [nB0]; first | (rw [decide_eq_true h69]; rfl) | rw [decide_eq_true (show m 71 x ≠ 0 by assumption), Bool.or_true]]; rfl)
  · show AW X 0 0 8 [some (.ref 33), some (.int (nI x)), none, none, none, none, none] [.int (nI x), .ref 25] T I J R
    refine aw_aaloadR_k (j := x) hC dX2_isMadeAlike_8 (tg_25 hT) (nI_clamp (by omega)) (vp_in_nI (by omega) (by decide)) (hE.rf (by omega) h69) ?_
    refine aw_astore_n (L2 := [some (.ref 33), some (.int (nI x)), some (.ref (eq x)), none, none, none, none]) hC dX2_isMadeAlike_9 rfl (by decide) rfl ?_
    refine aw_aload_n hC dX2_isMadeAlike_10 rfl ?_
    refine aw_ifnull hC dX2_isMadeAlike_11 ?_
    refine aw_aload_n hC dX2_isMadeAlike_14 rfl ?_
    refine aw_getI hC dX2_isMadeAlike_15 aF_X2_99 rfl (hE.tg (by omega) h69) ?_
    rw [(hE.bd (by omega) h69)]
    refine aw_if_eq (tgt := 25) hC dX2_isMadeAlike_18 (by decide) (fun h5 => ?_) (fun h5 => ?_)
    · show AW X 0 0 25 [some (.ref 33), some (.int (nI x)), some (.ref (eq x)), none, none, none, none] [] T I J R
      refine aw_iconst (v := 0) hC dX2_isMadeAlike_25 (by decide) ?_
      refine aw_istore_n (L2 := [some (.ref 33), some (.int (nI x)), some (.ref (eq x)), some (.int 0), none, none, none]) hC dX2_isMadeAlike_26 rfl (by decide) rfl ?_
      refine aw_iload_n hC dX2_isMadeAlike_27 rfl ?_
      refine aw_if_ne (tgt := 35) hC dX2_isMadeAlike_28 (by decide) (fun h6 => absurd h6 (by decide)) (fun _ => ?_)
      show AW X 0 0 31 [some (.ref 33), some (.int (nI x)), some (.ref (eq x)), some (.int 0), none, none, none] [] T I J R
      refine aw_iconst (v := 1) hC dX2_isMadeAlike_31 (by decide) ?_
      refine aw_goto (tgt := 36) hC dX2_isMadeAlike_32 (by decide) ?_
      refine aw_istore (L2 := [some (.ref 33), some (.int (nI x)), some (.ref (eq x)), some (.int 0), some (.int 1), none, none]) hC dX2_isMadeAlike_36 (by decide) rfl ?_
      refine aw_iconst (v := 0) hC dX2_isMadeAlike_38 (by decide) ?_
      refine aw_istore (L2 := [some (.ref 33), some (.int (nI x)), some (.ref (eq x)), some (.int 0), some (.int 1), some (.int 0), none]) hC dX2_isMadeAlike_39 (by decide) rfl ?_
      refine aw_forget 2 (L2 := [some (.ref 33), some (.int (nI x)), none, some (.int 0), some (.int 1), some (.int 0), none]) rfl ?_
      exact join41 0 1 (by rw [show nB0 m x = false from by simp only [nB0]; rw [decide_eq_false h69, decide_eq_false (not_not_intro (by assumption))]; rfl]; rfl) (by rw [show nB0 m x = false from by simp only [nB0]; rw [decide_eq_false h69, decide_eq_false (not_not_intro (by assumption))]; rfl]; rfl)
    · show AW X 0 0 21 [some (.ref 33), some (.int (nI x)), some (.ref (eq x)), none, none, none, none] [] T I J R
      refine aw_iconst (v := 1) hC dX2_isMadeAlike_21 (by decide) ?_
      refine aw_goto (tgt := 26) hC dX2_isMadeAlike_22 (by decide) ?_
      refine aw_istore_n (L2 := [some (.ref 33), some (.int (nI x)), some (.ref (eq x)), some (.int 1), none, none, none]) hC dX2_isMadeAlike_26 rfl (by decide) rfl ?_
      refine aw_iload_n hC dX2_isMadeAlike_27 rfl ?_
      refine aw_if_ne (tgt := 35) hC dX2_isMadeAlike_28 (by decide) (fun _ => ?_) (fun h7 => absurd h7 (by decide))
      show AW X 0 0 35 [some (.ref 33), some (.int (nI x)), some (.ref (eq x)), some (.int 1), none, none, none] [] T I J R
      refine aw_iconst (v := 0) hC dX2_isMadeAlike_35 (by decide) ?_
      refine aw_istore (L2 := [some (.ref 33), some (.int (nI x)), some (.ref (eq x)), some (.int 1), some (.int 0), none, none]) hC dX2_isMadeAlike_36 (by decide) rfl ?_
      refine aw_iconst (v := 0) hC dX2_isMadeAlike_38 (by decide) ?_
      refine aw_istore (L2 := [some (.ref 33), some (.int (nI x)), some (.ref (eq x)), some (.int 1), some (.int 0), some (.int 0), none]) hC dX2_isMadeAlike_39 (by decide) rfl ?_
      refine aw_forget 2 (L2 := [some (.ref 33), some (.int (nI x)), none, some (.int 1), some (.int 0), some (.int 0), none]) rfl ?_
      exact join41 1 0 (by rw [show nB0 m x = true from by simp only [nB0]; first | (rw [decide_eq_true h69]; rfl) | rw [decide_eq_true (show m 71 x ≠ 0 by assumption), Bool.or_true]]; rfl) (by rw [show nB0 m x = true from by simp only [nB0]; first | (rw [decide_eq_true h69]; rfl) | rw [decide_eq_true (show m 71 x ≠ 0 by assumption), Bool.or_true]]; rfl)
