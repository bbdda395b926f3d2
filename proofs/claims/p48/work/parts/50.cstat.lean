/-! THE CLASS AGAINST A GHOST: m, mj are rows of the model (45 ..), as they are or as they would be; sq s is the thing that the statement s is -/
/-- the thing q is the statement s of m -/
abbrev StAt (T : List aT) (I : aI) (m : aI) (q s : Nat) : Prop := T[q]? = some (.inr 8) ∧ I q 0 = m 49 s ∧ I q 1 = m 50 s ∧ I q 2 = m 45 s ∧ I q 3 = m 46 s ∧ I q 4 = m 47 s ∧ I q 5 = m 48 s ∧ I q 6 = m 51 s ∧ I q 7 = m 52 s
def CSt (T : List aT) (I : aI) (R : aR) (m : aI) (n : Nat) (sq : Nat → Nat) : Prop := I 1 1 = nI n ∧ (∀ s, s < n → R 2 s = some (sq s) ∧ StAt T I m (sq s) s) ∧ ∀ s t, s < n → t < n → sq s = sq t → s = t
theorem CSt.cnt {T : List aT} {I : aI} {R : aR} {m : aI} {n : Nat} {sq : Nat → Nat} (h : CSt T I R m n sq) : I 1 1 = nI n := h.1
theorem CSt.rf {T : List aT} {I : aI} {R : aR} {m : aI} {n s : Nat} {sq : Nat → Nat} (h : CSt T I R m n sq) (hs : s < n) : R 2 s = some (sq s) := (h.2.1 s hs).1
theorem CSt.at {T : List aT} {I : aI} {R : aR} {m : aI} {n s : Nat} {sq : Nat → Nat} (h : CSt T I R m n sq) (hs : s < n) : StAt T I m (sq s) s := (h.2.1 s hs).2
/-- what is found out about the statements stands in their things -/
def CDr (I : aI) (R : aR) (m : aI) (n : Nat) (sq : Nat → Nat) : Prop := ∀ s, s < n → I (sq s) 8 = m 84 s ∧ I (sq s) 10 = m 86 s ∧ (m 84 s ≠ 0 → m 45 s < 7 → (m 85 s < 0 ∧ R (sq s) 11 = none) ∨ ∃ g, g < n ∧ m 85 s = nI g ∧ R (sq s) 11 = some (sq g))
theorem i_7 {x : Int32} : (x ≤ 6) ↔ x < 7 := by rw [i_le, i_lt, show (6 : Int32).toInt = 6 from rfl, show (7 : Int32).toInt = 7 from rfl]; omega
theorem con_n {m : aI} {S : Nat → Int64} {s : Nat} (h53 : m 44 53 = 0) (h : m 84 s = 0 ∨ ¬ m 45 s < 7 ∨ m 86 s ≠ 0 ∨ ¬ hOn m S s) : (0 : Int32) = bI (decide (cOn m S s)) := bI_no (fun q => q.elim (fun q => by
  rcases h with h | h | h | h
  · exact q.2.1 h
  · exact h q.2.2.1
  · exact h q.2.2.2.1
  · exact h q.2.2.2.2) (fun q => q.1 h53))
theorem con_y {m : aI} {S : Nat → Int64} {s : Nat} (h53 : m 44 53 = 0) (h1 : m 84 s ≠ 0) (h2 : m 45 s < 7) (h3 : m 86 s = 0) (h4 : hOn m S s) : (1 : Int32) = bI (decide (cOn m S s)) := bI_yes (Or.inl ⟨h53, h1, h2, h3, h4⟩)
theorem hOn_g {m : aI} {S : Nat → Int64} {n s g : Nat} (hS : SW m n) (hg : g < n) (h : m 85 s = nI g) : hOn m S s ↔ S (iN m 46 g) &&& (sBit (iN m 47 g) ^^^ (-1)) = 0 := by
  have hn := hS.n30
  have b := (hS.on g hg)
  have e : (m 85 s).toNatClampNeg = g := by rw [h]; exact nI_clamp (by omega)
  unfold hOn; rw [e]
  have e2 : (1 : Int64) <<< ((m 47 g).toInt64 &&& 63) = sBit (iN m 47 g) := by rw [b.1]; exact sBit_shl b.2
  rw [e2]
  exact ⟨fun q => q.resolve_left (by rw [h]; exact Int32.not_lt.mpr (nI_pos' (by omega))), Or.inr⟩
set_option maxRecDepth 100000 in
theorem m_X10_isCounting {T : List aT} {I : aI} {J : aJ} {R : aR} {m : aI} {n : Nat} {sq : Nat → Nat} (hSt : CSt T I R m n sq) (hD : CDr I R m n sq) (hS : SW m n) (h53 : m 44 53 = 0) {b a s : Nat} (hb : HSet T R b a) (hs : s < n) : MX10_isCounting 0 0 [.ref (sq s), .ref b] T I J R (aPure (some (.int (bI (decide (cOn m (J a) s))))) T I J R) := by
  refine a_met (by decide +kernel) a_le (fun X hC hq => ?_)
  show AW X 0 0 0 [some (.ref (sq s)), some (.ref b)] [] T I J R
  refine aw_aload_n hC dX10_isCounting_0 rfl ?_
  refine aw_getI hC dX10_isCounting_1 aF_X10_121 rfl (hSt.at hs).1 ?_
  refine aw_if_eq (tgt := 21) hC dX10_isCounting_4 (by decide) (fun h1 => ?_) (fun h1 => ?_)
  · show AW X 0 0 21 [some (.ref (sq s)), some (.ref b)] [] T I J R
    refine aw_iconst (v := 0) hC dX10_isCounting_21 (by decide) ?_
    exact aw_zreturn hC hq rfl (Or.inl rfl) dX10_isCounting_22 a_le a_le (aPure_i (con_n h53 (by first | exact Or.inl (by rw [← (hD s hs).1]; assumption) | exact Or.inr (Or.inl (fun q => absurd (i_7.mpr q) (by have h9 := bI_d0.mp (by assumption); rw [(hSt.at hs).2.2.2.1] at h9; exact h9))) | exact Or.inr (Or.inr (Or.inl (by rw [← (hD s hs).2.1]; assumption))))))
  · show AW X 0 0 7 [some (.ref (sq s)), some (.ref b)] [] T I J R
    refine aw_aload_n hC dX10_isCounting_7 rfl ?_
    refine kX10_124 hC rfl (m_X8_isNarrowing (hSt.at hs).1) dX10_isCounting_8 (hSt.at hs).1 rfl a_le a_le a_le a_le a_le rfl aPure_x (aPure_k ?_)
    show AW X 0 0 11 [some (.ref (sq s)), some (.ref b)] [.int (bI (decide (I (sq s) 2 ≤ 6)))] T I J R
    refine aw_if_eq (tgt := 21) hC dX10_isCounting_11 (by decide) (fun h2 => ?_) (fun h2 => ?_)
    · show AW X 0 0 21 [some (.ref (sq s)), some (.ref b)] [] T I J R
      refine aw_iconst (v := 0) hC dX10_isCounting_21 (by decide) ?_
      exact aw_zreturn hC hq rfl (Or.inl rfl) dX10_isCounting_22 a_le a_le (aPure_i (con_n h53 (by first | exact Or.inl (by rw [← (hD s hs).1]; assumption) | exact Or.inr (Or.inl (fun q => absurd (i_7.mpr q) (by have h9 := bI_d0.mp (by assumption); rw [(hSt.at hs).2.2.2.1] at h9; exact h9))) | exact Or.inr (Or.inr (Or.inl (by rw [← (hD s hs).2.1]; assumption))))))
    · show AW X 0 0 14 [some (.ref (sq s)), some (.ref b)] [] T I J R
      have hth : m 84 s ≠ 0 := by rw [← (hD s hs).1]; assumption
      have h45 : m 45 s < 7 := i_7.mp (by have h9 := bI_dn.mp (by assumption); rw [(hSt.at hs).2.2.2.1] at h9; exact h9)
      refine aw_aload_n hC dX10_isCounting_14 rfl ?_
      refine aw_getI hC dX10_isCounting_15 aF_X10_127 rfl (hSt.at hs).1 ?_
      refine aw_if_eq (tgt := 23) hC dX10_isCounting_18 (by decide) (fun h3 => ?_) (fun h3 => ?_)
      · show AW X 0 0 23 [some (.ref (sq s)), some (.ref b)] [] T I J R
        refine aw_aload_n hC dX10_isCounting_23 rfl ?_
        rcases (hD s hs).2.2 hth h45 with ⟨g1, g2⟩ | ⟨g, g1, g2, g3⟩
        · show AW X 0 0 24 [some (.ref (sq s)), some (.ref b)] [.ref (sq s)] T I J R
          refine aw_getN hC dX10_isCounting_24 aF_X10_130 rfl (hSt.at hs).1 g2 ?_
          refine aw_ifnullN (tgt := 51) hC dX10_isCounting_27 (by decide) ?_
          refine aw_iconst (v := 1) hC dX10_isCounting_51 (by decide) ?_
          refine aw_goto (tgt := 56) hC dX10_isCounting_52 (by decide) ?_
          exact aw_zreturn hC hq rfl (Or.inr rfl) dX10_isCounting_56 a_le a_le (aPure_i (con_y h53 hth h45 (by rw [← (hD s hs).2.1]; assumption) (Or.inl g1)))
        · show AW X 0 0 24 [some (.ref (sq s)), some (.ref b)] [.ref (sq s)] T I J R
          have hfg := (hS.fd g g1).2
          have hog := (hS.on g g1).2
          refine aw_getR hC dX10_isCounting_24 aF_X10_130 rfl (hSt.at hs).1 g3 ?_
          refine aw_ifnull hC dX10_isCounting_27 ?_
          refine aw_aload_n hC dX10_isCounting_30 rfl ?_
          refine aw_aload_n hC dX10_isCounting_31 rfl ?_
          refine aw_getR hC dX10_isCounting_32 aF_X10_130 rfl (hSt.at hs).1 g3 ?_
          refine aw_getI hC dX10_isCounting_35 aF_X10_134 rfl (hSt.at g1).1 ?_
          rw [(((hSt.at g1).2.2.2.2.1).trans (hS.fd g g1).1)]
          refine aw_aload_n hC dX10_isCounting_38 rfl ?_
          refine aw_getR hC dX10_isCounting_39 aF_X10_130 rfl (hSt.at hs).1 g3 ?_
          refine aw_getI hC dX10_isCounting_42 aF_X10_137 rfl (hSt.at g1).1 ?_
          rw [(((hSt.at g1).2.2.2.2.2.1).trans (hS.on g g1).1)]
          refine kX10_140 hC rfl (m_X7_hasNoneBut hb (f := (iN m 46 g)) (v := (iN m 47 g)) (by omega) (by omega)) dX10_isCounting_45 hb.1 rfl a_le a_le a_le a_le a_le rfl aPure_x (aPure_k ?_)
          show AW X 0 0 48 [some (.ref (sq s)), some (.ref b)] [.int (bI (decide (J a (iN m 46 g) &&& (sBit (iN m 47 g) ^^^ (-1)) = 0)))] T I J R
          refine aw_if_eq (tgt := 55) hC dX10_isCounting_48 (by decide) (fun h4 => ?_) (fun h4 => ?_)
          · show AW X 0 0 55 [some (.ref (sq s)), some (.ref b)] [] T I J R
            refine aw_iconst (v := 0) hC dX10_isCounting_55 (by decide) ?_
            exact aw_zreturn hC hq rfl (Or.inl rfl) dX10_isCounting_56 a_le a_le (aPure_i (con_n h53 (Or.inr (Or.inr (Or.inr (fun q => absurd ((hOn_g hS g1 g2).mp q) (bI_d0.mp (by assumption))))))))
          · show AW X 0 0 51 [some (.ref (sq s)), some (.ref b)] [] T I J R
            refine aw_iconst (v := 1) hC dX10_isCounting_51 (by decide) ?_
            refine aw_goto (tgt := 56) hC dX10_isCounting_52 (by decide) ?_
            exact aw_zreturn hC hq rfl (Or.inr rfl) dX10_isCounting_56 a_le a_le (aPure_i (con_y h53 hth h45 (by rw [← (hD s hs).2.1]; assumption) ((hOn_g hS g1 g2).mpr (bI_dn.mp (by assumption)))))
      · show AW X 0 0 21 [some (.ref (sq s)), some (.ref b)] [] T I J R
        refine aw_iconst (v := 0) hC dX10_isCounting_21 (by decide) ?_
        exact aw_zreturn hC hq rfl (Or.inl rfl) dX10_isCounting_22 a_le a_le (aPure_i (con_n h53 (by first | exact Or.inl (by rw [← (hD s hs).1]; assumption) | exact Or.inr (Or.inl (fun q => absurd (i_7.mpr q) (by have h9 := bI_d0.mp (by assumption); rw [(hSt.at hs).2.2.2.1] at h9; exact h9))) | exact Or.inr (Or.inr (Or.inl (by rw [← (hD s hs).2.1]; assumption))))))
set_option maxRecDepth 100000 in
theorem m_X7_narrow {T : List aT} {I : aI} {J : aJ} {R : aR} {m : aI} {n : Nat} {sq : Nat → Nat} (hSt : CSt T I R m n sq) (hS : SW m n) {b a s : Nat} (hb : HSet T R b a) (hs : s < n) : MX7_narrow 0 0 [.ref b, .ref (sq s)] T I J R (aPure (some (.int (bI (nCh m s (J a))))) T I (a_ur J a (nBy m s (J a))) R) := by
  refine a_met (by decide +kernel) a_le (fun X hC hq => ?_)
  show AW X 0 0 0 [some (.ref b), some (.ref (sq s)), none] [] T I J R
  refine aw_setJ (J2 := a_ur J a (J a)) (a_ur_id (fun _ => rfl)).symm ?_
  have hfd := (hS.fd s hs).2
  have hon := (hS.on s hs).2
  have hn9 := hS.n30
  refine aw_aload_n hC dX7_narrow_0 rfl ?_
  refine aw_getI hC dX7_narrow_1 aF_X7_47 rfl (hSt.at hs).1 ?_
  rw [(((hSt.at hs).2.2.2.2.1).trans (hS.fd s hs).1)]
  refine aw_istore_n (L2 := [some (.ref b), some (.ref (sq s)), some (.int (nI (iN m 46 s)))]) hC dX7_narrow_4 rfl (by decide) rfl ?_
  refine aw_aload_n hC dX7_narrow_5 rfl ?_
  refine aw_getI hC dX7_narrow_6 aF_X7_53 rfl (hSt.at hs).1 ?_
  rw [(((hSt.at hs).2.2.2.1).trans (hS.kd s hs).1)]
  have hkd := (hS.kd s hs).2
  rcases (show iN m 45 s = 0 ∨ iN m 45 s = 1 ∨ iN m 45 s = 2 ∨ iN m 45 s = 3 ∨ iN m 45 s = 5 ∨ iN m 45 s = 6 ∨ (iN m 45 s = 4 ∨ 7 ≤ iN m 45 s) by omega) with hk | hk | hk | hk | hk | hk | hk
  · rw [hk]
    refine aw_tableIn (off := 43) (tgt := 52) hC dX7_narrow_9 (by decide) (by decide) (by rfl) (by decide) ?_
    show AW X 0 0 52 [some (.ref b), some (.ref (sq s)), some (.int (nI (iN m 46 s)))] [] T I (a_ur J a (J a)) R
    refine aw_aload_n hC dX7_narrow_52 rfl ?_
    refine aw_iload_n hC dX7_narrow_53 rfl ?_
    refine aw_lconst (v := 1) hC dX7_narrow_54 (by decide) ?_
    refine aw_aload_n hC dX7_narrow_55 rfl ?_
    refine aw_getI hC dX7_narrow_56 aF_X7_56 rfl (hSt.at hs).1 ?_
    rw [(((hSt.at hs).2.2.2.2.2.1).trans (hS.on s hs).1)]
    refine aw_lshl hC dX7_narrow_59 ?_
    rw [show 1 <<< ((nI (iN m 47 s)).toInt64 &&& 63) = sBit (iN m 47 s) from sBit_shl (by omega)]
    refine kX7_59 hC rfl (m_X7_keep (J := a_ur J a (J a)) hb (f := (iN m 46 s)) (by omega) (sBit (iN m 47 s))) dX7_narrow_60 hb.1 rfl a_le a_le a_le a_le a_le rfl aPure_x (aPure_k ?_)
    rw [show a_ur (a_ur J a (J a)) a (sUpd ((a_ur J a (J a)) a) (iN m 46 s) (sBit (iN m 47 s))) = a_ur J a (sUpd (J a) (iN m 46 s) (sBit (iN m 47 s))) from by rw [a_ur_2, a_ur_self]]
    show AW X 0 0 63 [some (.ref b), some (.ref (sq s)), some (.int (nI (iN m 46 s)))] [.int (bI (decide ((a_ur J a (J a)) a (iN m 46 s) &&& (sBit (iN m 47 s)) ≠ (a_ur J a (J a)) a (iN m 46 s))))] T I (a_ur J a (sUpd (J a) (iN m 46 s) (sBit (iN m 47 s)))) R
    rw [show ((a_ur J a (J a)) a) = J a from a_ur_self]
    exact aw_zreturn hC hq rfl (bI_01 _) dX7_narrow_63 a_le a_le (by have e9 : nBy m s (J a) = (sUpd (J a) (iN m 46 s) (sBit (iN m 47 s))) := (by rw [nBy, if_pos (show m 45 s = 0 from (hS.kq hs (b := 0) (by omega)).mpr hk)]); exact aPure_e (nCh_1 e9) rfl (by rw [e9]) rfl)
  · rw [hk]
    refine aw_tableIn (off := 55) (tgt := 64) hC dX7_narrow_9 (by decide) (by decide) (by rfl) (by decide) ?_
    have htw := hS.tw s hs (Or.inl hk)
    show AW X 0 0 64 [some (.ref b), some (.ref (sq s)), some (.int (nI (iN m 46 s)))] [] T I (a_ur J a (J a)) R
    refine aw_aload_n hC dX7_narrow_64 rfl ?_
    refine aw_iload_n hC dX7_narrow_65 rfl ?_
    refine aw_aload_n hC dX7_narrow_66 rfl ?_
    refine aw_getI hC dX7_narrow_67 aF_X7_56 rfl (hSt.at hs).1 ?_
    rw [(((hSt.at hs).2.2.2.2.2.1).trans (hS.on s hs).1)]
    refine aw_aload_n hC dX7_narrow_70 rfl ?_
    refine aw_getI hC dX7_narrow_71 aF_X7_63 rfl (hSt.at hs).1 ?_
    rw [((hSt.at hs).2.2.2.2.2.2.1.trans htw.1)]
    refine kX7_66 hC rfl (m_X7_range (a := (iN m 47 s)) (b := (iN m 48 s)) (by omega) (by omega)) dX7_narrow_74 rfl a_le a_le a_le a_le a_le rfl aPure_x (aPure_k ?_)
    show AW X 0 0 77 [some (.ref b), some (.ref (sq s)), some (.int (nI (iN m 46 s)))] [.long (sRng (iN m 47 s) (nI (iN m 48 s))), .int (nI (iN m 46 s)), .ref b] T I (a_ur J a (J a)) R
    refine kX7_59 hC rfl (m_X7_keep (J := a_ur J a (J a)) hb (f := (iN m 46 s)) (by omega) (sRng (iN m 47 s) (nI (iN m 48 s)))) dX7_narrow_77 hb.1 rfl a_le a_le a_le a_le a_le rfl aPure_x (aPure_k ?_)
    rw [show a_ur (a_ur J a (J a)) a (sUpd ((a_ur J a (J a)) a) (iN m 46 s) (sRng (iN m 47 s) (nI (iN m 48 s)))) = a_ur J a (sUpd (J a) (iN m 46 s) (sRng (iN m 47 s) (nI (iN m 48 s)))) from by rw [a_ur_2, a_ur_self]]
    show AW X 0 0 80 [some (.ref b), some (.ref (sq s)), some (.int (nI (iN m 46 s)))] [.int (bI (decide ((a_ur J a (J a)) a (iN m 46 s) &&& (sRng (iN m 47 s) (nI (iN m 48 s))) ≠ (a_ur J a (J a)) a (iN m 46 s))))] T I (a_ur J a (sUpd (J a) (iN m 46 s) (sRng (iN m 47 s) (nI (iN m 48 s))))) R
    rw [show ((a_ur J a (J a)) a) = J a from a_ur_self]
    exact aw_zreturn hC hq rfl (bI_01 _) dX7_narrow_80 a_le a_le (by have e9 : nBy m s (J a) = (sUpd (J a) (iN m 46 s) (sRng (iN m 47 s) (nI (iN m 48 s)))) := (by rw [nBy, if_neg (show ¬ m 45 s = 0 from fun q9 => by have := (hS.kq hs (b := 0) (by omega)).mp q9; omega), if_pos (show m 45 s = 1 from (hS.kq hs (b := 1) (by omega)).mpr hk), ← htw.1]); exact aPure_e (nCh_1 e9) rfl (by rw [e9]) rfl)
  · rw [hk]
    refine aw_tableIn (off := 72) (tgt := 81) hC dX7_narrow_9 (by decide) (by decide) (by rfl) (by decide) ?_
    have htw := hS.tw s hs (Or.inr hk)
    show AW X 0 0 81 [some (.ref b), some (.ref (sq s)), some (.int (nI (iN m 46 s)))] [] T I (a_ur J a (J a)) R
    refine aw_aload_n hC dX7_narrow_81 rfl ?_
    refine aw_iload_n hC dX7_narrow_82 rfl ?_
    refine aw_lconst (v := 1) hC dX7_narrow_83 (by decide) ?_
    refine aw_aload_n hC dX7_narrow_84 rfl ?_
    refine aw_getI hC dX7_narrow_85 aF_X7_56 rfl (hSt.at hs).1 ?_
    rw [(((hSt.at hs).2.2.2.2.2.1).trans (hS.on s hs).1)]
    refine aw_lshl hC dX7_narrow_88 ?_
    rw [show 1 <<< ((nI (iN m 47 s)).toInt64 &&& 63) = sBit (iN m 47 s) from sBit_shl (by omega)]
    refine aw_lconst (v := 1) hC dX7_narrow_89 (by decide) ?_
    refine aw_aload_n hC dX7_narrow_90 rfl ?_
    refine aw_getI hC dX7_narrow_91 aF_X7_63 rfl (hSt.at hs).1 ?_
    rw [((hSt.at hs).2.2.2.2.2.2.1.trans htw.1)]
    refine aw_lshl hC dX7_narrow_94 ?_
    rw [show 1 <<< ((nI (iN m 48 s)).toInt64 &&& 63) = sBit (iN m 48 s) from sBit_shl (by omega)]
    refine aw_lor hC dX7_narrow_95 ?_
    refine kX7_59 hC rfl (m_X7_keep (J := a_ur J a (J a)) hb (f := (iN m 46 s)) (by omega) ((sBit (iN m 47 s)) ||| (sBit (iN m 48 s)))) dX7_narrow_96 hb.1 rfl a_le a_le a_le a_le a_le rfl aPure_x (aPure_k ?_)
    rw [show a_ur (a_ur J a (J a)) a (sUpd ((a_ur J a (J a)) a) (iN m 46 s) ((sBit (iN m 47 s)) ||| (sBit (iN m 48 s)))) = a_ur J a (sUpd (J a) (iN m 46 s) ((sBit (iN m 47 s)) ||| (sBit (iN m 48 s)))) from by rw [a_ur_2, a_ur_self]]
    show AW X 0 0 99 [some (.ref b), some (.ref (sq s)), some (.int (nI (iN m 46 s)))] [.int (bI (decide ((a_ur J a (J a)) a (iN m 46 s) &&& ((sBit (iN m 47 s)) ||| (sBit (iN m 48 s))) ≠ (a_ur J a (J a)) a (iN m 46 s))))] T I (a_ur J a (sUpd (J a) (iN m 46 s) ((sBit (iN m 47 s)) ||| (sBit (iN m 48 s))))) R
    rw [show ((a_ur J a (J a)) a) = J a from a_ur_self]
    exact aw_zreturn hC hq rfl (bI_01 _) dX7_narrow_99 a_le a_le (by have e9 : nBy m s (J a) = (sUpd (J a) (iN m 46 s) ((sBit (iN m 47 s)) ||| (sBit (iN m 48 s)))) := (by rw [nBy, if_neg (show ¬ m 45 s = 0 from fun q9 => by have := (hS.kq hs (b := 0) (by omega)).mp q9; omega), if_neg (show ¬ m 45 s = 1 from fun q9 => by have := (hS.kq hs (b := 1) (by omega)).mp q9; omega), if_pos (show m 45 s = 2 from (hS.kq hs (b := 2) (by omega)).mpr hk)]); exact aPure_e (nCh_1 e9) rfl (by rw [e9]) rfl)
  · rw [hk]
    refine aw_tableIn (off := 91) (tgt := 100) hC dX7_narrow_9 (by decide) (by decide) (by rfl) (by decide) ?_
    show AW X 0 0 100 [some (.ref b), some (.ref (sq s)), some (.int (nI (iN m 46 s)))] [] T I (a_ur J a (J a)) R
    refine aw_aload_n hC dX7_narrow_100 rfl ?_
    refine aw_iload_n hC dX7_narrow_101 rfl ?_
    refine aw_lconst (v := 1) hC dX7_narrow_102 (by decide) ?_
    refine aw_aload_n hC dX7_narrow_103 rfl ?_
    refine aw_getI hC dX7_narrow_104 aF_X7_56 rfl (hSt.at hs).1 ?_
    rw [(((hSt.at hs).2.2.2.2.2.1).trans (hS.on s hs).1)]
    refine aw_lshl hC dX7_narrow_107 ?_
    rw [show 1 <<< ((nI (iN m 47 s)).toInt64 &&& 63) = sBit (iN m 47 s) from sBit_shl (by omega)]
    refine aw_ldc2 (v := (-1)) hC dX7_narrow_108 gK_X7_15 ?_
    refine aw_lxor hC dX7_narrow_111 ?_
    refine kX7_59 hC rfl (m_X7_keep (J := a_ur J a (J a)) hb (f := (iN m 46 s)) (by omega) ((sBit (iN m 47 s)) ^^^ (-1))) dX7_narrow_112 hb.1 rfl a_le a_le a_le a_le a_le rfl aPure_x (aPure_k ?_)
    rw [show a_ur (a_ur J a (J a)) a (sUpd ((a_ur J a (J a)) a) (iN m 46 s) ((sBit (iN m 47 s)) ^^^ (-1))) = a_ur J a (sUpd (J a) (iN m 46 s) ((sBit (iN m 47 s)) ^^^ (-1))) from by rw [a_ur_2, a_ur_self]]
    show AW X 0 0 115 [some (.ref b), some (.ref (sq s)), some (.int (nI (iN m 46 s)))] [.int (bI (decide ((a_ur J a (J a)) a (iN m 46 s) &&& ((sBit (iN m 47 s)) ^^^ (-1)) ≠ (a_ur J a (J a)) a (iN m 46 s))))] T I (a_ur J a (sUpd (J a) (iN m 46 s) ((sBit (iN m 47 s)) ^^^ (-1)))) R
    rw [show ((a_ur J a (J a)) a) = J a from a_ur_self]
    exact aw_zreturn hC hq rfl (bI_01 _) dX7_narrow_115 a_le a_le (by have e9 : nBy m s (J a) = (sUpd (J a) (iN m 46 s) ((sBit (iN m 47 s)) ^^^ (-1))) := (by rw [nBy, if_neg (show ¬ m 45 s = 0 from fun q9 => by have := (hS.kq hs (b := 0) (by omega)).mp q9; omega), if_neg (show ¬ m 45 s = 1 from fun q9 => by have := (hS.kq hs (b := 1) (by omega)).mp q9; omega), if_neg (show ¬ m 45 s = 2 from fun q9 => by have := (hS.kq hs (b := 2) (by omega)).mp q9; omega), if_pos (show m 45 s = 3 from (hS.kq hs (b := 3) (by omega)).mpr hk)]); exact aPure_e (nCh_1 e9) rfl (by rw [e9]) rfl)
  · rw [hk]
    refine aw_tableIn (off := 107) (tgt := 116) hC dX7_narrow_9 (by decide) (by decide) (by rfl) (by decide) ?_
    have h56 := hS.k56 s hs (Or.inl hk)
    show AW X 0 0 116 [some (.ref b), some (.ref (sq s)), some (.int (nI (iN m 46 s)))] [] T I (a_ur J a (J a)) R
    refine aw_aload_n hC dX7_narrow_116 rfl ?_
    refine aw_iload_n hC dX7_narrow_117 rfl ?_
    refine aw_aload_n hC dX7_narrow_118 rfl ?_
    refine aw_getR hC dX7_narrow_119 aF_X7_9 rfl hb.1 hb.2.1 ?_
    refine aw_aload_n hC dX7_narrow_122 rfl ?_
    refine aw_getI hC dX7_narrow_123 aF_X7_56 rfl (hSt.at hs).1 ?_
    rw [(((hSt.at hs).2.2.2.2.2.1).trans (hS.on s hs).1)]
    refine aw_laload_k (j := (iN m 47 s)) hC dX7_narrow_126 hb.2.2 (nI_clamp (by omega)) (vp_in_nI (by omega) (by decide)) ?_
    rw [a_ur_self (f := J) (o := a) (g := J a)]
    refine aw_aload_n hC dX7_narrow_127 rfl ?_
    refine aw_getI hC dX7_narrow_128 aF_X7_63 rfl (hSt.at hs).1 ?_
    rw [((hSt.at hs).2.2.2.2.2.2.1)]
    refine kX7_70 hC rfl (m_X7_moved ((J a) (iN m 47 s)) (m 48 s)) dX7_narrow_131 rfl a_le a_le a_le a_le a_le rfl aPure_x (aPure_k ?_)
    show AW X 0 0 134 [some (.ref b), some (.ref (sq s)), some (.int (nI (iN m 46 s)))] [.long (sShift ((J a) (iN m 47 s)) (m 48 s)), .int (nI (iN m 46 s)), .ref b] T I (a_ur J a (J a)) R
    refine kX7_59 hC rfl (m_X7_keep (J := a_ur J a (J a)) hb (f := (iN m 46 s)) (by omega) (sShift ((J a) (iN m 47 s)) (m 48 s))) dX7_narrow_134 hb.1 rfl a_le a_le a_le a_le a_le rfl aPure_x (aPure_k ?_)
    rw [show a_ur (a_ur J a (J a)) a (sUpd ((a_ur J a (J a)) a) (iN m 46 s) (sShift ((J a) (iN m 47 s)) (m 48 s))) = a_ur J a (sUpd (J a) (iN m 46 s) (sShift ((J a) (iN m 47 s)) (m 48 s))) from by rw [a_ur_2, a_ur_self]]
    show AW X 0 0 137 [some (.ref b), some (.ref (sq s)), some (.int (nI (iN m 46 s)))] [.int (bI (decide ((a_ur J a (J a)) a (iN m 46 s) &&& (sShift ((J a) (iN m 47 s)) (m 48 s)) ≠ (a_ur J a (J a)) a (iN m 46 s))))] T I (a_ur J a (sUpd (J a) (iN m 46 s) (sShift ((J a) (iN m 47 s)) (m 48 s)))) R
    rw [show ((a_ur J a (J a)) a) = J a from a_ur_self]
    refine aw_aload_n hC dX7_narrow_137 rfl ?_
    refine aw_aload_n hC dX7_narrow_138 rfl ?_
    refine aw_getI hC dX7_narrow_139 aF_X7_56 rfl (hSt.at hs).1 ?_
    rw [(((hSt.at hs).2.2.2.2.2.1).trans (hS.on s hs).1)]
    refine aw_aload_n hC dX7_narrow_142 rfl ?_
    refine aw_getR hC dX7_narrow_143 aF_X7_9 rfl hb.1 hb.2.1 ?_
    refine aw_iload_n hC dX7_narrow_146 rfl ?_
    refine aw_laload_k (j := (iN m 46 s)) hC dX7_narrow_147 hb.2.2 (nI_clamp (by omega)) (vp_in_nI (by omega) (by decide)) ?_
    rw [a_ur_self (f := J) (o := a) (g := sUpd (J a) (iN m 46 s) (sShift ((J a) (iN m 47 s)) (m 48 s)))]
    refine aw_aload_n hC dX7_narrow_148 rfl ?_
    refine aw_getI hC dX7_narrow_149 aF_X7_63 rfl (hSt.at hs).1 ?_
    rw [((hSt.at hs).2.2.2.2.2.2.1)]
    refine aw_ineg hC dX7_narrow_152 ?_
    refine kX7_70 hC rfl (m_X7_moved ((sUpd (J a) (iN m 46 s) (sShift ((J a) (iN m 47 s)) (m 48 s))) (iN m 46 s)) (-(m 48 s))) dX7_narrow_153 rfl a_le a_le a_le a_le a_le rfl aPure_x (aPure_k ?_)
    show AW X 0 0 156 [some (.ref b), some (.ref (sq s)), some (.int (nI (iN m 46 s)))] [.long (sShift ((sUpd (J a) (iN m 46 s) (sShift ((J a) (iN m 47 s)) (m 48 s))) (iN m 46 s)) (-(m 48 s))), .int (nI (iN m 47 s)), .ref b, .int (bI (decide ((J a) (iN m 46 s) &&& (sShift ((J a) (iN m 47 s)) (m 48 s)) ≠ (J a) (iN m 46 s))))] T I (a_ur J a (sUpd (J a) (iN m 46 s) (sShift ((J a) (iN m 47 s)) (m 48 s)))) R
    refine kX7_59 hC rfl (m_X7_keep (J := a_ur J a (sUpd (J a) (iN m 46 s) (sShift ((J a) (iN m 47 s)) (m 48 s)))) hb (f := (iN m 47 s)) (by omega) (sShift ((sUpd (J a) (iN m 46 s) (sShift ((J a) (iN m 47 s)) (m 48 s))) (iN m 46 s)) (-(m 48 s)))) dX7_narrow_156 hb.1 rfl a_le a_le a_le a_le a_le rfl aPure_x (aPure_k ?_)
    rw [show a_ur (a_ur J a (sUpd (J a) (iN m 46 s) (sShift ((J a) (iN m 47 s)) (m 48 s)))) a (sUpd ((a_ur J a (sUpd (J a) (iN m 46 s) (sShift ((J a) (iN m 47 s)) (m 48 s)))) a) (iN m 47 s) (sShift ((sUpd (J a) (iN m 46 s) (sShift ((J a) (iN m 47 s)) (m 48 s))) (iN m 46 s)) (-(m 48 s)))) = a_ur J a (sUpd (sUpd (J a) (iN m 46 s) (sShift ((J a) (iN m 47 s)) (m 48 s))) (iN m 47 s) (sShift ((sUpd (J a) (iN m 46 s) (sShift ((J a) (iN m 47 s)) (m 48 s))) (iN m 46 s)) (-(m 48 s)))) from by rw [a_ur_2, a_ur_self]]
    show AW X 0 0 159 [some (.ref b), some (.ref (sq s)), some (.int (nI (iN m 46 s)))] [.int (bI (decide ((a_ur J a (sUpd (J a) (iN m 46 s) (sShift ((J a) (iN m 47 s)) (m 48 s)))) a (iN m 47 s) &&& (sShift ((sUpd (J a) (iN m 46 s) (sShift ((J a) (iN m 47 s)) (m 48 s))) (iN m 46 s)) (-(m 48 s))) ≠ (a_ur J a (sUpd (J a) (iN m 46 s) (sShift ((J a) (iN m 47 s)) (m 48 s)))) a (iN m 47 s)))), .int (bI (decide ((J a) (iN m 46 s) &&& (sShift ((J a) (iN m 47 s)) (m 48 s)) ≠ (J a) (iN m 46 s))))] T I (a_ur J a (sUpd (sUpd (J a) (iN m 46 s) (sShift ((J a) (iN m 47 s)) (m 48 s))) (iN m 47 s) (sShift ((sUpd (J a) (iN m 46 s) (sShift ((J a) (iN m 47 s)) (m 48 s))) (iN m 46 s)) (-(m 48 s))))) R
    rw [show ((a_ur J a (sUpd (J a) (iN m 46 s) (sShift ((J a) (iN m 47 s)) (m 48 s)))) a) = sUpd (J a) (iN m 46 s) (sShift ((J a) (iN m 47 s)) (m 48 s)) from a_ur_self]
    refine aw_ior hC dX7_narrow_159 ?_
    rw [bI_or]
    exact aw_zreturn hC hq rfl (bI_01 _) dX7_narrow_160 a_le a_le (by have e9 : nBy m s (J a) = (sUpd (sUpd (J a) (iN m 46 s) (sShift ((J a) (iN m 47 s)) (m 48 s))) (iN m 47 s) (sShift ((sUpd (J a) (iN m 46 s) (sShift ((J a) (iN m 47 s)) (m 48 s))) (iN m 46 s)) (-(m 48 s)))) := (by rw [nBy, if_neg (show ¬ m 45 s = 0 from fun q9 => by have := (hS.kq hs (b := 0) (by omega)).mp q9; omega), if_neg (show ¬ m 45 s = 1 from fun q9 => by have := (hS.kq hs (b := 1) (by omega)).mp q9; omega), if_neg (show ¬ m 45 s = 2 from fun q9 => by have := (hS.kq hs (b := 2) (by omega)).mp q9; omega), if_neg (show ¬ m 45 s = 3 from fun q9 => by have := (hS.kq hs (b := 3) (by omega)).mp q9; omega), if_pos (show m 45 s = 5 from (hS.kq hs (b := 5) (by omega)).mpr hk)]); exact aPure_e ((by rw [← bI_or]; exact nCh_2 e9)) rfl (by rw [e9]) rfl)
  · rw [hk]
    refine aw_tableIn (off := 152) (tgt := 161) hC dX7_narrow_9 (by decide) (by decide) (by rfl) (by decide) ?_
    have h56 := hS.k56 s hs (Or.inr hk)
    show AW X 0 0 161 [some (.ref b), some (.ref (sq s)), some (.int (nI (iN m 46 s)))] [] T I (a_ur J a (J a)) R
    refine aw_aload_n hC dX7_narrow_161 rfl ?_
    refine aw_iload_n hC dX7_narrow_162 rfl ?_
    refine aw_aload_n hC dX7_narrow_163 rfl ?_
    refine aw_getR hC dX7_narrow_164 aF_X7_9 rfl hb.1 hb.2.1 ?_
    refine aw_aload_n hC dX7_narrow_167 rfl ?_
    refine aw_getI hC dX7_narrow_168 aF_X7_56 rfl (hSt.at hs).1 ?_
    rw [(((hSt.at hs).2.2.2.2.2.1).trans (hS.on s hs).1)]
    refine aw_laload_k (j := (iN m 47 s)) hC dX7_narrow_171 hb.2.2 (nI_clamp (by omega)) (vp_in_nI (by omega) (by decide)) ?_
    rw [a_ur_self (f := J) (o := a) (g := J a)]
    refine kX7_74 hC rfl (m_X7_below ((J a) (iN m 47 s))) dX7_narrow_172 rfl a_le a_le a_le a_le a_le rfl aPure_x (aPure_k ?_)
    show AW X 0 0 175 [some (.ref b), some (.ref (sq s)), some (.int (nI (iN m 46 s)))] [.long (sBelow ((J a) (iN m 47 s))), .int (nI (iN m 46 s)), .ref b] T I (a_ur J a (J a)) R
    refine kX7_59 hC rfl (m_X7_keep (J := a_ur J a (J a)) hb (f := (iN m 46 s)) (by omega) (sBelow ((J a) (iN m 47 s)))) dX7_narrow_175 hb.1 rfl a_le a_le a_le a_le a_le rfl aPure_x (aPure_k ?_)
    rw [show a_ur (a_ur J a (J a)) a (sUpd ((a_ur J a (J a)) a) (iN m 46 s) (sBelow ((J a) (iN m 47 s)))) = a_ur J a (sUpd (J a) (iN m 46 s) (sBelow ((J a) (iN m 47 s)))) from by rw [a_ur_2, a_ur_self]]
    show AW X 0 0 178 [some (.ref b), some (.ref (sq s)), some (.int (nI (iN m 46 s)))] [.int (bI (decide ((a_ur J a (J a)) a (iN m 46 s) &&& (sBelow ((J a) (iN m 47 s))) ≠ (a_ur J a (J a)) a (iN m 46 s))))] T I (a_ur J a (sUpd (J a) (iN m 46 s) (sBelow ((J a) (iN m 47 s))))) R
    rw [show ((a_ur J a (J a)) a) = J a from a_ur_self]
    refine aw_aload_n hC dX7_narrow_178 rfl ?_
    refine aw_aload_n hC dX7_narrow_179 rfl ?_
    refine aw_getI hC dX7_narrow_180 aF_X7_56 rfl (hSt.at hs).1 ?_
    rw [(((hSt.at hs).2.2.2.2.2.1).trans (hS.on s hs).1)]
    refine aw_aload_n hC dX7_narrow_183 rfl ?_
    refine aw_getR hC dX7_narrow_184 aF_X7_9 rfl hb.1 hb.2.1 ?_
    refine aw_iload_n hC dX7_narrow_187 rfl ?_
    refine aw_laload_k (j := (iN m 46 s)) hC dX7_narrow_188 hb.2.2 (nI_clamp (by omega)) (vp_in_nI (by omega) (by decide)) ?_
    rw [a_ur_self (f := J) (o := a) (g := sUpd (J a) (iN m 46 s) (sBelow ((J a) (iN m 47 s))))]
    refine kX7_78 hC rfl (m_X7_above ((sUpd (J a) (iN m 46 s) (sBelow ((J a) (iN m 47 s)))) (iN m 46 s))) dX7_narrow_189 rfl a_le a_le a_le a_le a_le rfl aPure_x (aPure_k ?_)
    show AW X 0 0 192 [some (.ref b), some (.ref (sq s)), some (.int (nI (iN m 46 s)))] [.long (sAbove ((sUpd (J a) (iN m 46 s) (sBelow ((J a) (iN m 47 s)))) (iN m 46 s))), .int (nI (iN m 47 s)), .ref b, .int (bI (decide ((J a) (iN m 46 s) &&& (sBelow ((J a) (iN m 47 s))) ≠ (J a) (iN m 46 s))))] T I (a_ur J a (sUpd (J a) (iN m 46 s) (sBelow ((J a) (iN m 47 s))))) R
    refine kX7_59 hC rfl (m_X7_keep (J := a_ur J a (sUpd (J a) (iN m 46 s) (sBelow ((J a) (iN m 47 s))))) hb (f := (iN m 47 s)) (by omega) (sAbove ((sUpd (J a) (iN m 46 s) (sBelow ((J a) (iN m 47 s)))) (iN m 46 s)))) dX7_narrow_192 hb.1 rfl a_le a_le a_le a_le a_le rfl aPure_x (aPure_k ?_)
    rw [show a_ur (a_ur J a (sUpd (J a) (iN m 46 s) (sBelow ((J a) (iN m 47 s))))) a (sUpd ((a_ur J a (sUpd (J a) (iN m 46 s) (sBelow ((J a) (iN m 47 s))))) a) (iN m 47 s) (sAbove ((sUpd (J a) (iN m 46 s) (sBelow ((J a) (iN m 47 s)))) (iN m 46 s)))) = a_ur J a (sUpd (sUpd (J a) (iN m 46 s) (sBelow ((J a) (iN m 47 s)))) (iN m 47 s) (sAbove ((sUpd (J a) (iN m 46 s) (sBelow ((J a) (iN m 47 s)))) (iN m 46 s)))) from by rw [a_ur_2, a_ur_self]]
    show AW X 0 0 195 [some (.ref b), some (.ref (sq s)), some (.int (nI (iN m 46 s)))] [.int (bI (decide ((a_ur J a (sUpd (J a) (iN m 46 s) (sBelow ((J a) (iN m 47 s))))) a (iN m 47 s) &&& (sAbove ((sUpd (J a) (iN m 46 s) (sBelow ((J a) (iN m 47 s)))) (iN m 46 s))) ≠ (a_ur J a (sUpd (J a) (iN m 46 s) (sBelow ((J a) (iN m 47 s))))) a (iN m 47 s)))), .int (bI (decide ((J a) (iN m 46 s) &&& (sBelow ((J a) (iN m 47 s))) ≠ (J a) (iN m 46 s))))] T I (a_ur J a (sUpd (sUpd (J a) (iN m 46 s) (sBelow ((J a) (iN m 47 s)))) (iN m 47 s) (sAbove ((sUpd (J a) (iN m 46 s) (sBelow ((J a) (iN m 47 s)))) (iN m 46 s))))) R
    rw [show ((a_ur J a (sUpd (J a) (iN m 46 s) (sBelow ((J a) (iN m 47 s))))) a) = sUpd (J a) (iN m 46 s) (sBelow ((J a) (iN m 47 s))) from a_ur_self]
    refine aw_ior hC dX7_narrow_195 ?_
    rw [bI_or]
    exact aw_zreturn hC hq rfl (bI_01 _) dX7_narrow_196 a_le a_le (by have e9 : nBy m s (J a) = (sUpd (sUpd (J a) (iN m 46 s) (sBelow ((J a) (iN m 47 s)))) (iN m 47 s) (sAbove ((sUpd (J a) (iN m 46 s) (sBelow ((J a) (iN m 47 s)))) (iN m 46 s)))) := (by rw [nBy, if_neg (show ¬ m 45 s = 0 from fun q9 => by have := (hS.kq hs (b := 0) (by omega)).mp q9; omega), if_neg (show ¬ m 45 s = 1 from fun q9 => by have := (hS.kq hs (b := 1) (by omega)).mp q9; omega), if_neg (show ¬ m 45 s = 2 from fun q9 => by have := (hS.kq hs (b := 2) (by omega)).mp q9; omega), if_neg (show ¬ m 45 s = 3 from fun q9 => by have := (hS.kq hs (b := 3) (by omega)).mp q9; omega), if_neg (show ¬ m 45 s = 5 from fun q9 => by have := (hS.kq hs (b := 5) (by omega)).mp q9; omega), if_pos (show m 45 s = 6 from (hS.kq hs (b := 6) (by omega)).mpr hk)]); exact aPure_e ((by rw [← bI_or]; exact nCh_2 e9)) rfl (by rw [e9]) rfl)
  · rcases hk with hk | hk
    · rw [hk]
      refine aw_tableIn (off := 188) (tgt := 197) hC dX7_narrow_9 (by decide) (by decide) (by rfl) (by decide) ?_
      show AW X 0 0 197 [some (.ref b), some (.ref (sq s)), some (.int (nI (iN m 46 s)))] [] T I (a_ur J a (J a)) R
      refine aw_iconst (v := 0) hC dX7_narrow_197 (by decide) ?_
      exact aw_zreturn hC hq rfl (Or.inl rfl) dX7_narrow_198 a_le a_le (by have e9 : nBy m s (J a) = J a := (by rw [nBy, if_neg (show ¬ m 45 s = 0 from fun q9 => by have := (hS.kq hs (b := 0) (by omega)).mp q9; omega), if_neg (show ¬ m 45 s = 1 from fun q9 => by have := (hS.kq hs (b := 1) (by omega)).mp q9; omega), if_neg (show ¬ m 45 s = 2 from fun q9 => by have := (hS.kq hs (b := 2) (by omega)).mp q9; omega), if_neg (show ¬ m 45 s = 3 from fun q9 => by have := (hS.kq hs (b := 3) (by omega)).mp q9; omega), if_neg (show ¬ m 45 s = 5 from fun q9 => by have := (hS.kq hs (b := 5) (by omega)).mp q9; omega), if_neg (show ¬ m 45 s = 6 from fun q9 => by have := (hS.kq hs (b := 6) (by omega)).mp q9; omega)]); exact aPure_e (by rw [show nCh m s (J a) = false from by cases h9 : nCh m s (J a) with | false => rfl | true => exact absurd e9 (nCh_iff.mp h9)]; rfl) rfl (by rw [e9, a_ur_id (fun _ => rfl)]) rfl)
    · refine aw_tableOut (tgt := 197) hC dX7_narrow_9 (Or.inr (by rw [nI_toInt (by omega)]; omega)) (by decide) ?_
      show AW X 0 0 197 [some (.ref b), some (.ref (sq s)), some (.int (nI (iN m 46 s)))] [] T I (a_ur J a (J a)) R
      refine aw_iconst (v := 0) hC dX7_narrow_197 (by decide) ?_
      exact aw_zreturn hC hq rfl (Or.inl rfl) dX7_narrow_198 a_le a_le (by have e9 : nBy m s (J a) = J a := (by rw [nBy, if_neg (show ¬ m 45 s = 0 from fun q9 => by have := (hS.kq hs (b := 0) (by omega)).mp q9; omega), if_neg (show ¬ m 45 s = 1 from fun q9 => by have := (hS.kq hs (b := 1) (by omega)).mp q9; omega), if_neg (show ¬ m 45 s = 2 from fun q9 => by have := (hS.kq hs (b := 2) (by omega)).mp q9; omega), if_neg (show ¬ m 45 s = 3 from fun q9 => by have := (hS.kq hs (b := 3) (by omega)).mp q9; omega), if_neg (show ¬ m 45 s = 5 from fun q9 => by have := (hS.kq hs (b := 5) (by omega)).mp q9; omega), if_neg (show ¬ m 45 s = 6 from fun q9 => by have := (hS.kq hs (b := 6) (by omega)).mp q9; omega)]); exact aPure_e (by rw [show nCh m s (J a) = false from by cases h9 : nCh m s (J a) with | false => rfl | true => exact absurd e9 (nCh_iff.mp h9)]; rfl) rfl (by rw [e9, a_ur_id (fun _ => rfl)]) rfl)
