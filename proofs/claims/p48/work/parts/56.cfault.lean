theorem a_le13 : ∀ i, i < 32 → ¬ (1 ≤ i ∧ i ≤ 3) → bt 2 i = false ∧ bt 4 i = false ∧ bt 6 i = false ∧ bt 8 i = false ∧ bt 10 i = false ∧ bt 12 i = false ∧ bt 14 i = false := by decide +kernel
theorem ch_ext {x y : Int32} (h1 : bt x 1 = bt y 1) (h2 : bt x 2 = bt y 2) (h3 : bt x 3 = bt y 3) (hx : ∀ i, bt x i = true → 1 ≤ i ∧ i ≤ 3) (hy : ∀ i, i < 32 → ¬ (1 ≤ i ∧ i ≤ 3) → bt y i = false) : x = y := b_ext fun i hi => by
  by_cases c : 1 ≤ i ∧ i ≤ 3
  · rcases (show i = 1 ∨ i = 2 ∨ i = 3 by omega) with e | e | e
    · rw [e]; exact h1
    · rw [e]; exact h2
    · rw [e]; exact h3
  · rw [hy i hi c]
    cases e : bt x i with
    | false => rfl
    | true => exact absurd (hx i e) c
theorem ch_at {m : aI} {w : Nat → Int32} {p : Nat} : mCh (a_ur m 83 (wG w)) p 3 = if bt (w p) 3 = true then nI 2 + 1 else if bt (w p) 2 = true then nI 1 + 1 else if bt (w p) 1 = true then nI 0 + 1 else 0 := by
  have e3 := wG_at w (p := p) (v := 3) (by omega) (by omega)
  have e2 := wG_at w (p := p) (v := 2) (by omega) (by omega)
  have e1 := wG_at w (p := p) (v := 1) (by omega) (by omega)
  rw [show 3 * p + 3 - 1 = 3 * p + 2 by omega] at e3
  rw [show 3 * p + 2 - 1 = 3 * p + 1 by omega] at e2
  rw [show 3 * p + 1 - 1 = 3 * p + 0 by omega] at e1
  simp only [mCh, a_ur_self, e1, e2, e3, bI_e0]
  cases bt (w p) 3 <;> cases bt (w p) 2 <;> cases bt (w p) 1 <;> simp
theorem ch_case {w : Nat → Int32} {p : Nat} (h : LOW w) (hp : p < 3) : ∀ v, v < 4 → ((nI v = 31 - nI (32 - bl (un (w p)))) ↔ (0 < nI v ∧ nI v = if bt (w p) 3 = true then nI 2 + 1 else if bt (w p) 2 = true then nI 1 + 1 else if bt (w p) 1 = true then nI 0 + 1 else 0)) := by
  have hx := h p hp
  have d0 : ∀ v, v < 4 → ((nI v = 31 - nI (32 - bl (un 0))) ↔ (0 < nI v ∧ nI v = 0)) := by decide +kernel
  have d1 : ∀ v, v < 4 → ((nI v = 31 - nI (32 - bl (un 2))) ↔ (0 < nI v ∧ nI v = nI 0 + 1)) := by decide +kernel
  have d2 : ∀ v, v < 4 → (((nI v = 31 - nI (32 - bl (un 4))) ↔ (0 < nI v ∧ nI v = nI 1 + 1)) ∧ ((nI v = 31 - nI (32 - bl (un 6))) ↔ (0 < nI v ∧ nI v = nI 1 + 1))) := by decide +kernel
  have d3 : ∀ v, v < 4 → (((nI v = 31 - nI (32 - bl (un 8))) ↔ (0 < nI v ∧ nI v = nI 2 + 1)) ∧ ((nI v = 31 - nI (32 - bl (un 10))) ↔ (0 < nI v ∧ nI v = nI 2 + 1)) ∧ ((nI v = 31 - nI (32 - bl (un 12))) ↔ (0 < nI v ∧ nI v = nI 2 + 1)) ∧ ((nI v = 31 - nI (32 - bl (un 14))) ↔ (0 < nI v ∧ nI v = nI 2 + 1))) := by decide +kernel
  intro v hv
  cases e3 : bt (w p) 3 <;> cases e2 : bt (w p) 2 <;> cases e1 : bt (w p) 1 <;> simp only [if_true, if_false, Bool.false_eq_true]
  · rw [ch_ext (y := 0) (e1.trans (by decide +kernel)) (e2.trans (by decide +kernel)) (e3.trans (by decide +kernel)) hx (fun i _ _ => b_0 i)]; exact d0 v hv
  · rw [ch_ext (y := 2) (e1.trans (by decide +kernel)) (e2.trans (by decide +kernel)) (e3.trans (by decide +kernel)) hx (fun i a b => (a_le13 i a b).1)]; exact d1 v hv
  · rw [ch_ext (y := 4) (e1.trans (by decide +kernel)) (e2.trans (by decide +kernel)) (e3.trans (by decide +kernel)) hx (fun i a b => (a_le13 i a b).2.1)]; exact (d2 v hv).1
  · rw [ch_ext (y := 6) (e1.trans (by decide +kernel)) (e2.trans (by decide +kernel)) (e3.trans (by decide +kernel)) hx (fun i a b => (a_le13 i a b).2.2.1)]; exact (d2 v hv).2
  · rw [ch_ext (y := 8) (e1.trans (by decide +kernel)) (e2.trans (by decide +kernel)) (e3.trans (by decide +kernel)) hx (fun i a b => (a_le13 i a b).2.2.2.1)]; exact (d3 v hv).1
  · rw [ch_ext (y := 10) (e1.trans (by decide +kernel)) (e2.trans (by decide +kernel)) (e3.trans (by decide +kernel)) hx (fun i a b => (a_le13 i a b).2.2.2.2.1)]; exact (d3 v hv).2.1
  · rw [ch_ext (y := 12) (e1.trans (by decide +kernel)) (e2.trans (by decide +kernel)) (e3.trans (by decide +kernel)) hx (fun i a b => (a_le13 i a b).2.2.2.2.2.1)]; exact (d3 v hv).2.2.1
  · rw [ch_ext (y := 14) (e1.trans (by decide +kernel)) (e2.trans (by decide +kernel)) (e3.trans (by decide +kernel)) hx (fun i a b => (a_le13 i a b).2.2.2.2.2.2)]; exact (d3 v hv).2.2.2
set_option maxRecDepth 100000 in
theorem m_X1_chosenVersion {T : List aT} {I : aI} {J : aJ} {R : aR} (hT : aPT T) (hR : aPR R) {p : Nat} (hp : p < 3) : MX1_chosenVersion 0 0 [.ref 1, .int (nI p)] T I J R (aPure (some (.int (31 - nI (32 - bl (un (I 7 p)))))) T I J R) := by
  refine a_met (by decide +kernel) a_le (fun X hC hq => ?_)
  show AW X 0 0 0 [some (.ref 1), some (.int (nI p))] [] T I J R
  refine aw_bipush (v := 31) hC dX1_chosenVersion_0 (by decide) ?_
  refine aw_aload_n hC dX1_chosenVersion_2 rfl ?_
  refine aw_getR hC dX1_chosenVersion_3 aF_X1_30 rfl (tg_1 hT) (pr_1_7 hR) ?_
  refine aw_iload_n hC dX1_chosenVersion_6 rfl ?_
  refine aw_iaload_k (j := p) hC dX1_chosenVersion_7 (tg_7 hT) (nI_clamp (by omega)) (vp_in_nI (by omega) (by decide)) ?_
  refine kX1_111 hC rfl (m_nlz (I 7 p)) dX1_chosenVersion_8 rfl a_le a_le a_le a_le a_le rfl aPure_x (aPure_k ?_)
  show AW X 0 0 11 [some (.ref 1), some (.int (nI p))] [.int (nI (32 - bl (un (I 7 p)))), .int 31] T I J R
  refine aw_isub hC dX1_chosenVersion_11 ?_
  exact aw_ireturn hC hq rfl dX1_chosenVersion_12 a_le a_le (aPure_i (by rfl))
/-- which statements there are stands in their things -/
def CTh (I : aI) (m : aI) (n : Nat) (sq : Nat → Nat) : Prop := ∀ s, s < n → I (sq s) 8 = m 84 s
/-- statements that are there and of one package are of one version -/
def TgH (m : aI) (n : Nat) : Prop := ∀ s t, s < n → t < n → m 84 s ≠ 0 → m 84 t ≠ 0 → m 49 s = m 49 t → m 50 s = m 50 t → m 51 s = m 51 t
abbrev gP (m : aI) (s : Nat) : Nat → Bool := fun j => decide (m 84 j ≠ 0) && decide (mTog m s j)
def gV (m : aI) (sq : Nat → Nat) (s : Nat) : Value := if m 84 s ≠ 0 ∧ m 45 s < 7 ∧ 0 ≤ mGuard m s then .ref (sq (mGuard m s).toNatClampNeg) else .null
theorem gP_y {m : aI} {n s k : Nat} (hTg : TgH m n) (hs : s < n) (hk : k < n) (h1 : m 84 s ≠ 0) (h2 : m 84 k ≠ 0) (h : m 49 k = m 49 s ∧ m 50 k = m 50 s) : gP m s k = true := by
  simp only [gP, Bool.and_eq_true, decide_eq_true_eq]
  exact ⟨h2, h.1.symm, h.2.symm, hTg s k hs hk h1 h2 h.1.symm h.2.symm⟩
theorem gP_n {m : aI} {s k : Nat} (h : m 84 k = 0 ∨ ¬ (m 49 k = m 49 s ∧ m 50 k = m 50 s)) : gP m s k = false := by
  cases e : gP m s k with
  | false => rfl
  | true =>
    simp only [gP, Bool.and_eq_true, decide_eq_true_eq] at e
    rcases h with h | h
    · exact absurd h e.1
    · exact absurd ⟨e.2.1.symm, e.2.2.1.symm⟩ h
theorem gV_null {m : aI} {sq : Nat → Nat} {s : Nat} (h : m 84 s = 0 ∨ ¬ m 45 s < 7 ∨ mGuard m s = -1) : (.null : Value) = gV m sq s := by
  unfold gV
  rw [if_neg]
  rintro ⟨a, b, c⟩
  rcases h with h | h | h
  · exact a h
  · exact h b
  · rw [h] at c; exact absurd c (by decide)
theorem gV_ref {m : aI} {sq : Nat → Nat} {s k : Nat} (h1 : m 84 s ≠ 0) (h2 : m 45 s < 7) (hk : k < 30) (h : mGuard m s = nI k) : (.ref (sq k) : Value) = gV m sq s := by
  unfold gV
  rw [h, if_pos ⟨h1, h2, nI_pos' (by omega)⟩, nI_clamp (by omega)]
theorem mG_hit {m : aI} {s k : Nat} (hk : k < 30) (h : mLast (gP m s) s = nI k) : (m 45 k = 7 → mGuard m s = nI k) ∧ (¬ m 45 k = 7 → mGuard m s = -1) := by
  unfold mGuard
  rw [show mLast (fun j => decide (m 84 j ≠ 0) && decide (mTog m s j)) s = nI k from h]
  dsimp only
  rw [nI_clamp (by omega)]
  exact ⟨fun q => if_pos ⟨nI_pos' (by omega), q⟩, fun q => if_neg (fun z => q z.2)⟩
theorem mG_none {m : aI} {s : Nat} (h : mLast (gP m s) s = -1) : mGuard m s = -1 := by
  unfold mGuard
  rw [show mLast (fun j => decide (m 84 j ≠ 0) && decide (mTog m s j)) s = -1 from h]
  exact if_neg (fun z => absurd z.1 (by decide))
set_option maxRecDepth 100000 in
theorem m_X1_findGuard {T : List aT} {I : aI} {J : aJ} {R : aR} (hT : aPT T) (hR : aPR R) {m : aI} {n : Nat} {sq : Nat → Nat} (hSt : CSt T I R m n sq) (hS : SW m n) (hTh : CTh I m n sq) (hTg : TgH m n) {s : Nat} (hs : s < n) : MX1_findGuard 0 0 [.ref 1, .int (nI s)] T I J R (aPure (some (gV m sq s)) T I J R) := by
  refine a_met (by decide +kernel) a_le (fun X hC hq => ?_)
  show AW X 0 0 0 [some (.ref 1), some (.int (nI s)), none, none, none] [] T I J R
  have hn9 := hS.n30
  refine aw_aload_n hC dX1_findGuard_0 rfl ?_
  refine aw_getR hC dX1_findGuard_1 aF_X1_11 rfl (tg_1 hT) (pr_1_0 hR) ?_
  refine aw_iload_n hC dX1_findGuard_4 rfl ?_
  refine aw_aaloadR_k (j := s) hC dX1_findGuard_5 (tg_2 hT) (nI_clamp (by omega)) (vp_in_nI (by omega) (by decide)) (hSt.rf hs) ?_
  refine aw_astore_n (L2 := [some (.ref 1), some (.int (nI s)), some (.ref (sq s)), none, none]) hC dX1_findGuard_6 rfl (by decide) rfl ?_
  refine aw_aload_n hC dX1_findGuard_7 rfl ?_
  refine aw_getI hC dX1_findGuard_8 aF_X1_69 rfl (hSt.at hs).1 ?_
  refine aw_if_eq (tgt := 21) hC dX1_findGuard_11 (by decide) (fun h1 => ?_) (fun h1 => ?_)
  · show AW X 0 0 21 [some (.ref 1), some (.int (nI s)), some (.ref (sq s)), none, none] [] T I J R
    refine aw_null hC dX1_findGuard_21 ?_
    exact aw_areturnN hC hq rfl (by first | exact Or.inl ⟨_, rfl⟩ | exact Or.inr ⟨_, rfl⟩) dX1_findGuard_22 a_le a_le (aPure_a (gV_null (by first | exact Or.inl (by rw [← hTh s hs]; assumption) | exact Or.inr (Or.inl (fun q => absurd (i_7.mpr q) (by have h9 := bI_d0.mp (by assumption); rw [(hSt.at hs).2.2.2.1] at h9; exact h9))))))
  · show AW X 0 0 14 [some (.ref 1), some (.int (nI s)), some (.ref (sq s)), none, none] [] T I J R
    refine aw_aload_n hC dX1_findGuard_14 rfl ?_
    refine kX1_116 hC rfl (m_X8_isNarrowing (hSt.at hs).1) dX1_findGuard_15 (hSt.at hs).1 rfl a_le a_le a_le a_le a_le rfl aPure_x (aPure_k ?_)
    show AW X 0 0 18 [some (.ref 1), some (.int (nI s)), some (.ref (sq s)), none, none] [.int (bI (decide (I (sq s) 2 ≤ 6)))] T I J R
    refine aw_if_ne (tgt := 23) hC dX1_findGuard_18 (by decide) (fun h2 => ?_) (fun h2 => ?_)
    · show AW X 0 0 23 [some (.ref 1), some (.int (nI s)), some (.ref (sq s)), none, none] [] T I J R
      refine aw_iload_n hC dX1_findGuard_23 rfl ?_
      refine aw_iconst (v := 1) hC dX1_findGuard_24 (by decide) ?_
      refine aw_isub hC dX1_findGuard_25 ?_
      refine aw_istore_n (L2 := [some (.ref 1), some (.int (nI s)), some (.ref (sq s)), some (.int ((nI s) - 1)), none]) hC dX1_findGuard_26 rfl (by decide) rfl ?_
      have hth : m 84 s ≠ 0 := by rw [← hTh s hs]; assumption
      have h45 : m 45 s < 7 := i_7.mp (by have h9 := bI_dn.mp (by assumption); rw [(hSt.at hs).2.2.2.1] at h9; exact h9)
      rw [show nI s - 1 = nI s + (-1) from Int32.sub_eq_add_neg ..]
      have loopI : ∀ k, k ≤ s → mLast (gP m s) s = mLast (gP m s) k → AW X 0 0 27 [some (.ref 1), some (.int (nI s)), some (.ref (sq s)), some (.int (nI k + (-1))), none] [] T I J R := by
        intro k
        induction k with
        | zero =>
          intro _ hml
          rw [show nI 0 + (-1) = (-1 : Int32) from by decide]
          refine aw_iload_n hC dX1_findGuard_27 rfl ?_
          refine aw_if_lt (tgt := 79) hC dX1_findGuard_28 (by decide) (fun _ => ?_) (fun h3 => absurd h3 (by decide))
          show AW X 0 0 79 [some (.ref 1), some (.int (nI s)), some (.ref (sq s)), some (.int (-1)), none] [] T I J R
          refine aw_null hC dX1_findGuard_79 ?_
          exact aw_areturnN hC hq rfl (by first | exact Or.inl ⟨_, rfl⟩ | exact Or.inr ⟨_, rfl⟩) dX1_findGuard_80 a_le a_le (aPure_a (gV_null (Or.inr (Or.inr (mG_none hml)))))
        | succ k ih =>
          intro hk hml
          rw [pk_m1]
          refine aw_iload_n hC dX1_findGuard_27 rfl ?_
          refine aw_if_lt (tgt := 79) hC dX1_findGuard_28 (by decide) (fun h => absurd ((nI_ltI (a := k) (b := 0) (by omega) (by omega)).mp h) (by omega)) (fun _ => ?_)
          show AW X 0 0 31 [some (.ref 1), some (.int (nI s)), some (.ref (sq s)), some (.int (nI k)), none] [] T I J R
          refine aw_aload_n hC dX1_findGuard_31 rfl ?_
          refine aw_getR hC dX1_findGuard_32 aF_X1_11 rfl (tg_1 hT) (pr_1_0 hR) ?_
          refine aw_iload_n hC dX1_findGuard_35 rfl ?_
          refine aw_aaloadR_k (j := k) hC dX1_findGuard_36 (tg_2 hT) (nI_clamp (by omega)) (vp_in_nI (by omega) (by decide)) (hSt.rf (by omega)) ?_
          refine aw_astore (L2 := [some (.ref 1), some (.int (nI s)), some (.ref (sq s)), some (.int (nI k)), some (.ref (sq k))]) hC dX1_findGuard_37 (by decide) rfl ?_
          refine aw_aload hC dX1_findGuard_39 rfl ?_
          refine aw_getI hC dX1_findGuard_41 aF_X1_69 rfl (hSt.at (by omega)).1 ?_
          refine aw_if_eq (tgt := 73) hC dX1_findGuard_44 (by decide) (fun h4 => ?_) (fun h4 => ?_)
          · show AW X 0 0 73 [some (.ref 1), some (.int (nI s)), some (.ref (sq s)), some (.int (nI k)), some (.ref (sq k))] [] T I J R
            refine aw_iinc (v := nI k + (-1)) (L2 := [some (.ref 1), some (.int (nI s)), some (.ref (sq s)), some (.int (nI k + (-1))), some (.ref (sq k))]) hC dX1_findGuard_73 rfl rfl (by decide) rfl ?_
            refine aw_goto (tgt := 27) hC dX1_findGuard_76 (by decide) ?_
            refine aw_forget 4 (L2 := [some (.ref 1), some (.int (nI s)), some (.ref (sq s)), some (.int (nI k + (-1))), none]) rfl ?_
            exact ih (by omega) (hml.trans (by rw [mLast, if_neg (by rw [gP_n (by first | exact Or.inl (by rw [← hTh k (by omega)]; assumption) | exact Or.inr (bI_d0.mp (by assumption)))]; simp)]))
          · show AW X 0 0 47 [some (.ref 1), some (.int (nI s)), some (.ref (sq s)), some (.int (nI k)), some (.ref (sq k))] [] T I J R
            refine aw_aload hC dX1_findGuard_47 rfl ?_
            refine aw_aload_n hC dX1_findGuard_49 rfl ?_
            refine kX1_120 hC rfl (m_X8_isTogetherWith (hSt.at (by omega)).1 (hSt.at hs).1) dX1_findGuard_50 (hSt.at (by omega)).1 rfl a_le a_le a_le a_le a_le rfl aPure_x (aPure_k ?_)
            show AW X 0 0 53 [some (.ref 1), some (.int (nI s)), some (.ref (sq s)), some (.int (nI k)), some (.ref (sq k))] [.int (bI (decide (I (sq k) 0 = I (sq s) 0 ∧ I (sq k) 1 = I (sq s) 1)))] T I J R
            rw [show bI (decide (I (sq k) 0 = I (sq s) 0 ∧ I (sq k) 1 = I (sq s) 1)) = bI (decide (m 49 k = m 49 s ∧ m 50 k = m 50 s)) from by rw [(hSt.at (show k < n by omega)).2.1, (hSt.at (show k < n by omega)).2.2.1, (hSt.at hs).2.1, (hSt.at hs).2.2.1]]
            refine aw_if_eq (tgt := 73) hC dX1_findGuard_53 (by decide) (fun h5 => ?_) (fun h5 => ?_)
            · show AW X 0 0 73 [some (.ref 1), some (.int (nI s)), some (.ref (sq s)), some (.int (nI k)), some (.ref (sq k))] [] T I J R
              refine aw_iinc (v := nI k + (-1)) (L2 := [some (.ref 1), some (.int (nI s)), some (.ref (sq s)), some (.int (nI k + (-1))), some (.ref (sq k))]) hC dX1_findGuard_73 rfl rfl (by decide) rfl ?_
              refine aw_goto (tgt := 27) hC dX1_findGuard_76 (by decide) ?_
              refine aw_forget 4 (L2 := [some (.ref 1), some (.int (nI s)), some (.ref (sq s)), some (.int (nI k + (-1))), none]) rfl ?_
              exact ih (by omega) (hml.trans (by rw [mLast, if_neg (by rw [gP_n (by first | exact Or.inl (by rw [← hTh k (by omega)]; assumption) | exact Or.inr (bI_d0.mp (by assumption)))]; simp)]))
            · show AW X 0 0 56 [some (.ref 1), some (.int (nI s)), some (.ref (sq s)), some (.int (nI k)), some (.ref (sq k))] [] T I J R
              have hmk : mLast (gP m s) s = nI k := hml.trans (by rw [mLast, if_pos (gP_y hTg hs (by omega) hth (by rw [← hTh k (by omega)]; assumption) (bI_dn.mp (by assumption)))])
              have hkd9 := (hS.kd k (by omega)).2
              refine aw_aload hC dX1_findGuard_56 rfl ?_
              refine aw_getI hC dX1_findGuard_58 aF_X1_72 rfl (hSt.at (by omega)).1 ?_
              rw [(((hSt.at (show k < n by omega)).2.2.2.1).trans (hS.kd k (by omega)).1)]
              refine aw_bipush (v := 7) hC dX1_findGuard_61 (by decide) ?_
              refine aw_icmp_ne (tgt := 71) hC dX1_findGuard_63 (by decide) (fun h6 => ?_) (fun h6 => ?_)
              · show AW X 0 0 71 [some (.ref 1), some (.int (nI s)), some (.ref (sq s)), some (.int (nI k)), some (.ref (sq k))] [] T I J R
                have h6n : ¬ (iN m 45 k) = 7 := fun q9 => h6 ((nI_eq (a := (iN m 45 k)) (b := 7) (by omega) (by omega)).mpr q9)
                refine aw_null hC dX1_findGuard_71 ?_
                exact aw_areturnN hC hq rfl (by first | exact Or.inl ⟨_, rfl⟩ | exact Or.inr ⟨_, rfl⟩) dX1_findGuard_72 a_le a_le (aPure_a (gV_null (Or.inr (Or.inr ((mG_hit (by omega) hmk).2 (fun q => absurd ((hS.kq (by omega) (b := 7) (by omega)).mp q) (by omega)))))))
              · show AW X 0 0 66 [some (.ref 1), some (.int (nI s)), some (.ref (sq s)), some (.int (nI k)), some (.ref (sq k))] [] T I J R
                have h6n : (iN m 45 k) = 7 := (nI_eq (a := (iN m 45 k)) (b := 7) (by omega) (by omega)).mp h6
                refine aw_aload hC dX1_findGuard_66 rfl ?_
                refine aw_goto (tgt := 72) hC dX1_findGuard_68 (by decide) ?_
                exact aw_areturn hC hq rfl (by first | exact Or.inl ⟨_, rfl⟩ | exact Or.inr ⟨_, rfl⟩) dX1_findGuard_72 a_le a_le (aPure_a (gV_ref hth h45 (by omega) ((mG_hit (by omega) hmk).1 ((hS.kq (by omega) (b := 7) (by omega)).mpr (by omega)))))
      exact loopI s (Nat.le_refl _) rfl
    · show AW X 0 0 21 [some (.ref 1), some (.int (nI s)), some (.ref (sq s)), none, none] [] T I J R
      refine aw_null hC dX1_findGuard_21 ?_
      exact aw_areturnN hC hq rfl (by first | exact Or.inl ⟨_, rfl⟩ | exact Or.inr ⟨_, rfl⟩) dX1_findGuard_22 a_le a_le (aPure_a (gV_null (by first | exact Or.inl (by rw [← hTh s hs]; assumption) | exact Or.inr (Or.inl (fun q => absurd (i_7.mpr q) (by have h9 := bI_d0.mp (by assumption); rw [(hSt.at hs).2.2.2.1] at h9; exact h9))))))
abbrev hidP (m : aI) (s j : Nat) : Prop := m 84 j ≠ 0 ∧ m 45 j = 10 ∧ ¬ (m 49 j = m 49 s ∧ m 50 j = m 50 s) ∧ bt (tBoth m s) (iN m 46 j) = true
theorem hid_iff {m : aI} {n s : Nat} (hS : SW m n) (hs : s < n) : mHidden m n s ↔ ∃ j, j < n ∧ hidP m s j := by
  have hb : ∀ j, j < n → (bt (tBoth m s) (iN m 46 j) = true ↔ (m 46 j = m 46 s ∨ (mPair m s ∧ m 46 j = m 47 s))) := fun j hj => by
    have a := hS.fd j hj
    have b := hS.fd s hs
    have c := hS.on s hs
    rw [bt_both b.2 (fun q => hS.k56 s hs (isPr_n hS hs q)) (by omega), a.1, b.1, c.1, nI_eq (by omega) (by omega), nI_eq (by omega) (by omega)]
    simp only [Bool.or_eq_true, Bool.and_eq_true, decide_eq_true_eq]
  unfold mHidden mHid
  simp only [anyB_iff, Bool.and_eq_true, Bool.or_eq_true, decide_eq_true_eq]
  constructor
  · rintro (⟨j, h1, ⟨⟨a, b⟩, c⟩, d⟩ | ⟨p, j, h1, ⟨⟨a, b⟩, c⟩, d⟩)
    · exact ⟨j, h1, a, b, fun q => d.elim (fun z => z q.1) (fun z => z q.2), (hb j h1).mpr (Or.inl c)⟩
    · exact ⟨j, h1, a, b, fun q => d.elim (fun z => z q.1) (fun z => z q.2), (hb j h1).mpr (Or.inr ⟨p, c⟩)⟩
  · rintro ⟨j, h1, a, b, d, e⟩
    have d2 : ¬ m 49 j = m 49 s ∨ ¬ m 50 j = m 50 s := by
      by_cases q : m 49 j = m 49 s
      · exact Or.inr (fun z => d ⟨q, z⟩)
      · exact Or.inl q
    rcases (hb j h1).mp e with c | ⟨p, c⟩
    · exact Or.inl ⟨j, h1, ⟨⟨a, b⟩, c⟩, d2⟩
    · exact Or.inr ⟨p, j, h1, ⟨⟨a, b⟩, c⟩, d2⟩
set_option maxRecDepth 100000 in
theorem m_X1_isHiddenFrom {T : List aT} {I : aI} {J : aJ} {R : aR} (hT : aPT T) (hR : aPR R) {m : aI} {n : Nat} {sq : Nat → Nat} (hSt : CSt T I R m n sq) (hS : SW m n) (hTh : CTh I m n sq) {s : Nat} (hs : s < n) : MX1_isHiddenFrom 0 0 [.ref 1, .ref (sq s)] T I J R (aPure (some (.int (bI (decide (mHidden m n s))))) T I J R) := by
  refine a_met (by decide +kernel) a_le (fun X hC hq => ?_)
  show AW X 0 0 0 [some (.ref 1), some (.ref (sq s)), none, none] [] T I J R
  have hn9 := hS.n30
  refine aw_iconst (v := 0) hC dX1_isHiddenFrom_0 (by decide) ?_
  refine aw_istore_n (L2 := [some (.ref 1), some (.ref (sq s)), some (.int 0), none]) hC dX1_isHiddenFrom_1 rfl (by decide) rfl ?_
  have loop : ∀ k, k ≤ n → (∀ j, j < k → ¬ hidP m s j) → AW X 0 0 2 [some (.ref 1), some (.ref (sq s)), some (.int (nI k)), none] [] T I J R := by
    refine a_down n (fun k hkl ih => ?_)
    intro hno
    refine aw_iload_n hC dX1_isHiddenFrom_2 rfl ?_
    refine aw_aload_n hC dX1_isHiddenFrom_3 rfl ?_
    refine aw_getI hC dX1_isHiddenFrom_4 aF_X1_39 rfl (tg_1 hT) ?_
    rw [hSt.cnt]
    refine aw_icmp_ge (tgt := 63) hC dX1_isHiddenFrom_7 (by decide) (fun h1 => ?_) (fun h1 => ?_)
    · show AW X 0 0 63 [some (.ref 1), some (.ref (sq s)), some (.int (nI k)), none] [] T I J R
      have h1n : n ≤ k := (nI_leI (a := n) (b := k) (by omega) (by omega)).mp h1
      refine aw_iconst (v := 0) hC dX1_isHiddenFrom_63 (by decide) ?_
      exact aw_zreturn hC hq rfl (Or.inl rfl) dX1_isHiddenFrom_64 a_le a_le (aPure_i (bI_no (fun q => by obtain ⟨j, h1, h2⟩ := (hid_iff hS hs).mp q; exact hno j (by omega) h2)))
    · show AW X 0 0 10 [some (.ref 1), some (.ref (sq s)), some (.int (nI k)), none] [] T I J R
      have h1n : ¬ n ≤ k := fun q9 => h1 ((nI_leI (a := n) (b := k) (by omega) (by omega)).mpr q9)
      refine aw_aload_n hC dX1_isHiddenFrom_10 rfl ?_
      refine aw_getR hC dX1_isHiddenFrom_11 aF_X1_11 rfl (tg_1 hT) (pr_1_0 hR) ?_
      refine aw_iload_n hC dX1_isHiddenFrom_14 rfl ?_
      refine aw_aaloadR_k (j := k) hC dX1_isHiddenFrom_15 (tg_2 hT) (nI_clamp (by omega)) (vp_in_nI (by omega) (by decide)) (hSt.rf (by omega)) ?_
      refine aw_astore_n (L2 := [some (.ref 1), some (.ref (sq s)), some (.int (nI k)), some (.ref (sq k))]) hC dX1_isHiddenFrom_16 rfl (by decide) rfl ?_
      have hfd9 := (hS.fd k (by omega)).2
      have hkd9 := (hS.kd k (by omega)).2
      refine aw_aload_n hC dX1_isHiddenFrom_17 rfl ?_
      refine aw_getI hC dX1_isHiddenFrom_18 aF_X1_69 rfl (hSt.at (by omega)).1 ?_
      refine aw_if_eq (tgt := 57) hC dX1_isHiddenFrom_21 (by decide) (fun h2 => ?_) (fun h2 => ?_)
      · show AW X 0 0 57 [some (.ref 1), some (.ref (sq s)), some (.int (nI k)), some (.ref (sq k))] [] T I J R
        refine aw_iinc (v := nI (k + 1)) (L2 := [some (.ref 1), some (.ref (sq s)), some (.int (nI (k + 1))), some (.ref (sq k))]) hC dX1_isHiddenFrom_57 rfl (nI_inc _) (by decide) rfl ?_
        refine aw_goto (tgt := 2) hC dX1_isHiddenFrom_60 (by decide) ?_
        refine aw_forget 3 (L2 := [some (.ref 1), some (.ref (sq s)), some (.int (nI (k + 1))), none]) rfl ?_
        exact ih (by omega) (fun j hj q => by by_cases e : j = k; (rw [e] at q; first | exact absurd (by rw [← hTh k (by omega)]; assumption) q.1 | exact absurd ((hS.kq (by omega) (b := 10) (by omega)).mp q.2.1) (by assumption) | exact absurd (bI_dn.mp (by assumption)) q.2.2.1 | exact absurd ((bt_and (by omega)).mpr q.2.2.2) (not_not_intro (by assumption))); exact hno j (by omega) q)
      · show AW X 0 0 24 [some (.ref 1), some (.ref (sq s)), some (.int (nI k)), some (.ref (sq k))] [] T I J R
        refine aw_aload_n hC dX1_isHiddenFrom_24 rfl ?_
        refine aw_getI hC dX1_isHiddenFrom_25 aF_X1_72 rfl (hSt.at (by omega)).1 ?_
        rw [(((hSt.at (show k < n by omega)).2.2.2.1).trans (hS.kd k (by omega)).1)]
        refine aw_bipush (v := 10) hC dX1_isHiddenFrom_28 (by decide) ?_
        refine aw_icmp_ne (tgt := 57) hC dX1_isHiddenFrom_30 (by decide) (fun h3 => ?_) (fun h3 => ?_)
        · show AW X 0 0 57 [some (.ref 1), some (.ref (sq s)), some (.int (nI k)), some (.ref (sq k))] [] T I J R
          have h3n : ¬ (iN m 45 k) = 10 := fun q9 => h3 ((nI_eq (a := (iN m 45 k)) (b := 10) (by omega) (by omega)).mpr q9)
          refine aw_iinc (v := nI (k + 1)) (L2 := [some (.ref 1), some (.ref (sq s)), some (.int (nI (k + 1))), some (.ref (sq k))]) hC dX1_isHiddenFrom_57 rfl (nI_inc _) (by decide) rfl ?_
          refine aw_goto (tgt := 2) hC dX1_isHiddenFrom_60 (by decide) ?_
          refine aw_forget 3 (L2 := [some (.ref 1), some (.ref (sq s)), some (.int (nI (k + 1))), none]) rfl ?_
          exact ih (by omega) (fun j hj q => by by_cases e : j = k; (rw [e] at q; first | exact absurd (by rw [← hTh k (by omega)]; assumption) q.1 | exact absurd ((hS.kq (by omega) (b := 10) (by omega)).mp q.2.1) (by assumption) | exact absurd (bI_dn.mp (by assumption)) q.2.2.1 | exact absurd ((bt_and (by omega)).mpr q.2.2.2) (not_not_intro (by assumption))); exact hno j (by omega) q)
        · show AW X 0 0 33 [some (.ref 1), some (.ref (sq s)), some (.int (nI k)), some (.ref (sq k))] [] T I J R
          have h3n : (iN m 45 k) = 10 := (nI_eq (a := (iN m 45 k)) (b := 10) (by omega) (by omega)).mp h3
          refine aw_aload_n hC dX1_isHiddenFrom_33 rfl ?_
          refine aw_aload_n hC dX1_isHiddenFrom_34 rfl ?_
          refine kX1_120 hC rfl (m_X8_isTogetherWith (hSt.at (by omega)).1 (hSt.at hs).1) dX1_isHiddenFrom_35 (hSt.at (by omega)).1 rfl a_le a_le a_le a_le a_le rfl aPure_x (aPure_k ?_)
          show AW X 0 0 38 [some (.ref 1), some (.ref (sq s)), some (.int (nI k)), some (.ref (sq k))] [.int (bI (decide (I (sq k) 0 = I (sq s) 0 ∧ I (sq k) 1 = I (sq s) 1)))] T I J R
          rw [show bI (decide (I (sq k) 0 = I (sq s) 0 ∧ I (sq k) 1 = I (sq s) 1)) = bI (decide (m 49 k = m 49 s ∧ m 50 k = m 50 s)) from by rw [(hSt.at (show k < n by omega)).2.1, (hSt.at (show k < n by omega)).2.2.1, (hSt.at hs).2.1, (hSt.at hs).2.2.1]]
          refine aw_if_ne (tgt := 57) hC dX1_isHiddenFrom_38 (by decide) (fun h4 => ?_) (fun h4 => ?_)
          · show AW X 0 0 57 [some (.ref 1), some (.ref (sq s)), some (.int (nI k)), some (.ref (sq k))] [] T I J R
            refine aw_iinc (v := nI (k + 1)) (L2 := [some (.ref 1), some (.ref (sq s)), some (.int (nI (k + 1))), some (.ref (sq k))]) hC dX1_isHiddenFrom_57 rfl (nI_inc _) (by decide) rfl ?_
            refine aw_goto (tgt := 2) hC dX1_isHiddenFrom_60 (by decide) ?_
            refine aw_forget 3 (L2 := [some (.ref 1), some (.ref (sq s)), some (.int (nI (k + 1))), none]) rfl ?_
            exact ih (by omega) (fun j hj q => by by_cases e : j = k; (rw [e] at q; first | exact absurd (by rw [← hTh k (by omega)]; assumption) q.1 | exact absurd ((hS.kq (by omega) (b := 10) (by omega)).mp q.2.1) (by assumption) | exact absurd (bI_dn.mp (by assumption)) q.2.2.1 | exact absurd ((bt_and (by omega)).mpr q.2.2.2) (not_not_intro (by assumption))); exact hno j (by omega) q)
          · show AW X 0 0 41 [some (.ref 1), some (.ref (sq s)), some (.int (nI k)), some (.ref (sq k))] [] T I J R
            refine aw_aload_n hC dX1_isHiddenFrom_41 rfl ?_
            refine kX1_123 hC rfl (m_X8_fields (I := I) (hSt.at hs).1) dX1_isHiddenFrom_42 (hSt.at hs).1 rfl a_le a_le a_le a_le a_le rfl aPure_x (aPure_k ?_)
            show AW X 0 0 45 [some (.ref 1), some (.ref (sq s)), some (.int (nI k)), some (.ref (sq k))] [.int (iBit (I (sq s) 3) ||| (if I (sq s) 2 = 5 ∨ I (sq s) 2 = 6 then iBit (I (sq s) 4) else 0))] T I J R
            rw [st_flds (hSt.at hs) hS hs]
            refine aw_iconst (v := 1) hC dX1_isHiddenFrom_45 (by decide) ?_
            refine aw_aload_n hC dX1_isHiddenFrom_46 rfl ?_
            refine aw_getI hC dX1_isHiddenFrom_47 aF_X1_75 rfl (hSt.at (by omega)).1 ?_
            rw [(((hSt.at (show k < n by omega)).2.2.2.2.1).trans (hS.fd k (by omega)).1)]
            refine aw_ishl hC dX1_isHiddenFrom_50 ?_
            refine aw_iand hC dX1_isHiddenFrom_51 ?_
            refine aw_if_eq (tgt := 57) hC dX1_isHiddenFrom_52 (by decide) (fun h5 => ?_) (fun h5 => ?_)
            · show AW X 0 0 57 [some (.ref 1), some (.ref (sq s)), some (.int (nI k)), some (.ref (sq k))] [] T I J R
              refine aw_iinc (v := nI (k + 1)) (L2 := [some (.ref 1), some (.ref (sq s)), some (.int (nI (k + 1))), some (.ref (sq k))]) hC dX1_isHiddenFrom_57 rfl (nI_inc _) (by decide) rfl ?_
              refine aw_goto (tgt := 2) hC dX1_isHiddenFrom_60 (by decide) ?_
              refine aw_forget 3 (L2 := [some (.ref 1), some (.ref (sq s)), some (.int (nI (k + 1))), none]) rfl ?_
              exact ih (by omega) (fun j hj q => by by_cases e : j = k; (rw [e] at q; first | exact absurd (by rw [← hTh k (by omega)]; assumption) q.1 | exact absurd ((hS.kq (by omega) (b := 10) (by omega)).mp q.2.1) (by assumption) | exact absurd (bI_dn.mp (by assumption)) q.2.2.1 | exact absurd ((bt_and (by omega)).mpr q.2.2.2) (not_not_intro (by assumption))); exact hno j (by omega) q)
            · show AW X 0 0 55 [some (.ref 1), some (.ref (sq s)), some (.int (nI k)), some (.ref (sq k))] [] T I J R
              refine aw_iconst (v := 1) hC dX1_isHiddenFrom_55 (by decide) ?_
              exact aw_zreturn hC hq rfl (Or.inr rfl) dX1_isHiddenFrom_56 a_le a_le (aPure_i (bI_yes ((hid_iff hS hs).mpr ⟨k, by omega, by rw [← hTh k (by omega)]; assumption, (hS.kq (by omega) (b := 10) (by omega)).mpr (by assumption), bI_d0.mp (by assumption), (bt_and (by omega)).mp (by assumption)⟩)))
  exact loop 0 (Nat.zero_le _) (fun j hj => absurd hj (by omega))
/-- the book against the model's rows -/
def CBk (I : aI) (m : aI) : Prop := (∀ q, q < 6 → I 3 q = m 54 q) ∧ (∀ f, f < 10 → I 4 f = m 55 f - 1) ∧ (∀ j, j < 60 → I 5 j = m 56 j) ∧ (∀ p, p < 3 → I 6 p = m 53 p) ∧ I 1 6 = m 44 13
theorem CBk.ly {I m : aI} (h : CBk I m) : ∀ q, q < 6 → I 3 q = m 54 q := h.1
theorem CBk.lk {I m : aI} (h : CBk I m) {f : Nat} (hf : f < 10) : I 4 f = m 55 f - 1 := h.2.1 f hf
theorem CBk.lp {I m : aI} (h : CBk I m) {j : Nat} (hj : j < 60) : I 5 j = m 56 j := h.2.2.1 j hj
theorem CBk.vv {I m : aI} (h : CBk I m) : ∀ p, p < 3 → I 6 p = m 53 p := h.2.2.2.1
theorem CBk.td {I m : aI} (h : CBk I m) : I 1 6 = m 44 13 := h.2.2.2.2
theorem sub1_m1 {x : Int32} : (x - 1 = -1) ↔ x = 0 := by
  constructor
  · intro h
    have := congrArg (fun y => y + 1) h
    simpa [Int32.sub_add_cancel] using this
  · intro h; rw [h]; rfl
theorem may_f {m : aI} {n s q : Nat} (hS : SW m n) (hs : s < n) (hq : q < 6) (h : m 49 s = nI q) : mMay m s ↔ (m 55 (iN m 46 s) = 0 ∨ m 45 s = 4 ∨ m 54 q = m 55 (iN m 46 s) - 1 ∨ m 44 13 < m 56 (q * 10 + iN m 46 s)) := by
  have hf := hS.fd s hs
  have e1 : (m 46 s).toNatClampNeg = iN m 46 s := rfl
  have e2 : (10 * m 49 s + m 46 s : Int32).toNatClampNeg = q * 10 + iN m 46 s := by
    rw [h, hf.1, show (10 : Int32) = nI 10 from rfl, pk_mul, nI_add, nI_clamp (by omega)]
    omega
  have e3 : (m 49 s).toNatClampNeg = q := by rw [h, nI_clamp (by omega)]
  have e4 : (0 : Int32) ≤ m 49 s := by rw [h]; exact nI_pos' (by omega)
  unfold mMay
  rw [e1, e2, e3]
  exact ⟨fun z => z.imp id (fun z => z.imp id (fun z => z.2)), fun z => z.imp id (fun z => z.imp id (fun z => ⟨e4, z⟩))⟩
theorem may_n {m : aI} {s : Nat} (h : m 49 s = -1) : mMay m s ↔ (m 55 (iN m 46 s) = 0 ∨ m 45 s = 4) := by
  unfold mMay
  rw [h]
  exact ⟨fun z => z.imp id (fun z => z.elim id (fun z => absurd z.1 (by decide))), fun z => z.imp id Or.inl⟩
set_option maxRecDepth 100000 in
theorem m_X1_isLockedFor {T : List aT} {I : aI} {J : aJ} {R : aR} (hT : aPT T) (hR : aPR R) {m : aI} {n : Nat} {sq : Nat → Nat} (hSt : CSt T I R m n sq) (hS : SW m n) (hB : CBk I m) {s : Nat} (hs : s < n) : MX1_isLockedFor 0 0 [.ref 1, .ref (sq s)] T I J R (aPure (some (.int (bI (decide (¬ mMay m s))))) T I J R) := by
  refine a_met (by decide +kernel) a_le (fun X hC hq => ?_)
  show AW X 0 0 0 [some (.ref 1), some (.ref (sq s)), none] [] T I J R
  have hfd9 := (hS.fd s hs).2
  have hkd9 := (hS.kd s hs).2
  refine aw_aload_n hC dX1_isLockedFor_0 rfl ?_
  refine aw_getR hC dX1_isLockedFor_1 aF_X1_21 rfl (tg_1 hT) (pr_1_3 hR) ?_
  refine aw_aload_n hC dX1_isLockedFor_4 rfl ?_
  refine aw_getI hC dX1_isLockedFor_5 aF_X1_75 rfl (hSt.at hs).1 ?_
  rw [(((hSt.at hs).2.2.2.2.1).trans (hS.fd s hs).1)]
  refine aw_iaload_k (j := (iN m 46 s)) hC dX1_isLockedFor_8 (tg_4 hT) (nI_clamp (by omega)) (vp_in_nI (by omega) (by decide)) ?_
  rw [(hB.lk (by omega))]
  refine aw_istore_n (L2 := [some (.ref 1), some (.ref (sq s)), some (.int (m 55 (iN m 46 s) - 1))]) hC dX1_isLockedFor_9 rfl (by decide) rfl ?_
  refine aw_iload_n hC dX1_isLockedFor_10 rfl ?_
  refine aw_iconst (v := (-1)) hC dX1_isLockedFor_11 (by decide) ?_
  refine aw_icmp_eq (tgt := 23) hC dX1_isLockedFor_12 (by decide) (fun h1 => ?_) (fun h1 => ?_)
  · show AW X 0 0 23 [some (.ref 1), some (.ref (sq s)), some (.int (m 55 (iN m 46 s) - 1))] [] T I J R
    refine aw_iconst (v := 0) hC dX1_isLockedFor_23 (by decide) ?_
    exact aw_zreturn hC hq rfl (Or.inl rfl) dX1_isLockedFor_24 a_le a_le (aPure_i (bI_no (fun z => z (by first | exact Or.inl (sub1_m1.mp (by assumption)) | exact Or.inr (Or.inl ((hS.kq hs (b := 4) (by omega)).mpr (by assumption)))))))
  · show AW X 0 0 15 [some (.ref 1), some (.ref (sq s)), some (.int (m 55 (iN m 46 s) - 1))] [] T I J R
    refine aw_aload_n hC dX1_isLockedFor_15 rfl ?_
    refine aw_getI hC dX1_isLockedFor_16 aF_X1_72 rfl (hSt.at hs).1 ?_
    rw [(((hSt.at hs).2.2.2.1).trans (hS.kd s hs).1)]
    refine aw_iconst (v := 4) hC dX1_isLockedFor_19 (by decide) ?_
    refine aw_icmp_ne (tgt := 25) hC dX1_isLockedFor_20 (by decide) (fun h2 => ?_) (fun h2 => ?_)
    · show AW X 0 0 25 [some (.ref 1), some (.ref (sq s)), some (.int (m 55 (iN m 46 s) - 1))] [] T I J R
      have h2n : ¬ (iN m 45 s) = 4 := fun q9 => h2 ((nI_eq (a := (iN m 45 s)) (b := 4) (by omega) (by omega)).mpr q9)
      refine aw_aload_n hC dX1_isLockedFor_25 rfl ?_
      refine aw_getI hC dX1_isLockedFor_26 aF_X1_59 rfl (hSt.at hs).1 ?_
      rw [((hSt.at hs).2.1)]
      refine aw_iconst (v := (-1)) hC dX1_isLockedFor_29 (by decide) ?_
      refine aw_icmp_ne (tgt := 35) hC dX1_isLockedFor_30 (by decide) (fun h3 => ?_) (fun h3 => ?_)
      · show AW X 0 0 35 [some (.ref 1), some (.ref (sq s)), some (.int (m 55 (iN m 46 s) - 1))] [] T I J R
        obtain ⟨hfq, hfq6⟩ := vp_eq (hS.fl6 hs ((hS.fl s hs).resolve_left (by assumption)).1).1 (by decide)
        obtain ⟨q, hq9⟩ : ∃ q, q = (m 49 s).toNatClampNeg := ⟨_, rfl⟩
        rw [← hq9] at hfq hfq6
        refine aw_aload_n hC dX1_isLockedFor_35 rfl ?_
        refine aw_getR hC dX1_isLockedFor_36 aF_X1_17 rfl (tg_1 hT) (pr_1_2 hR) ?_
        refine aw_aload_n hC dX1_isLockedFor_39 rfl ?_
        refine aw_getI hC dX1_isLockedFor_40 aF_X1_59 rfl (hSt.at hs).1 ?_
        rw [((hSt.at hs).2.1)]
        rw [hfq]
        refine aw_iaload_k (j := q) hC dX1_isLockedFor_43 (tg_3 hT) (nI_clamp (by omega)) (vp_in_nI (by omega) (by decide)) ?_
        rw [(hB.ly q (by omega))]
        refine aw_iload_n hC dX1_isLockedFor_44 rfl ?_
        refine aw_icmp_eq (tgt := 76) hC dX1_isLockedFor_45 (by decide) (fun h4 => ?_) (fun h4 => ?_)
        · show AW X 0 0 76 [some (.ref 1), some (.ref (sq s)), some (.int (m 55 (iN m 46 s) - 1))] [] T I J R
          refine aw_iconst (v := 0) hC dX1_isLockedFor_76 (by decide) ?_
          exact aw_zreturn hC hq rfl (Or.inl rfl) dX1_isLockedFor_77 a_le a_le (aPure_i (bI_no (fun z => z ((may_f hS hs hfq6 hfq).mpr (by first | exact Or.inr (Or.inr (Or.inl (by assumption))) | exact Or.inr (Or.inr (Or.inr (by assumption))))))))
        · show AW X 0 0 48 [some (.ref 1), some (.ref (sq s)), some (.int (m 55 (iN m 46 s) - 1))] [] T I J R
          refine aw_aload_n hC dX1_isLockedFor_48 rfl ?_
          refine aw_getI hC dX1_isLockedFor_49 aF_X1_133 rfl (tg_1 hT) ?_
          rw [hB.td]
          refine aw_aload_n hC dX1_isLockedFor_52 rfl ?_
          refine aw_getR hC dX1_isLockedFor_53 aF_X1_24 rfl (tg_1 hT) (pr_1_4 hR) ?_
          refine aw_aload_n hC dX1_isLockedFor_56 rfl ?_
          refine aw_getI hC dX1_isLockedFor_57 aF_X1_59 rfl (hSt.at hs).1 ?_
          rw [((hSt.at hs).2.1)]
          rw [hfq]
          refine aw_bipush (v := 10) hC dX1_isLockedFor_60 (by decide) ?_
          refine aw_imul hC dX1_isLockedFor_62 ?_
          rw [show (nI q) * 10 = nI (q * 10) from pk_mul q 10]
          refine aw_aload_n hC dX1_isLockedFor_63 rfl ?_
          refine aw_getI hC dX1_isLockedFor_64 aF_X1_75 rfl (hSt.at hs).1 ?_
          rw [(((hSt.at hs).2.2.2.2.1).trans (hS.fd s hs).1)]
          refine aw_iadd hC dX1_isLockedFor_67 ?_
          rw [show (nI (q * 10)) + (nI (iN m 46 s)) = nI ((q * 10) + (iN m 46 s)) from nI_add (q * 10) (iN m 46 s)]
          refine aw_iaload_k (j := ((q * 10) + (iN m 46 s))) hC dX1_isLockedFor_68 (tg_5 hT) (nI_clamp (by omega)) (vp_in_nI (by omega) (by decide)) ?_
          rw [(hB.lp (by omega))]
          refine aw_icmp_lt (tgt := 76) hC dX1_isLockedFor_69 (by decide) (fun h5 => ?_) (fun h5 => ?_)
          · show AW X 0 0 76 [some (.ref 1), some (.ref (sq s)), some (.int (m 55 (iN m 46 s) - 1))] [] T I J R
            refine aw_iconst (v := 0) hC dX1_isLockedFor_76 (by decide) ?_
            exact aw_zreturn hC hq rfl (Or.inl rfl) dX1_isLockedFor_77 a_le a_le (aPure_i (bI_no (fun z => z ((may_f hS hs hfq6 hfq).mpr (by first | exact Or.inr (Or.inr (Or.inl (by assumption))) | exact Or.inr (Or.inr (Or.inr (by assumption))))))))
          · show AW X 0 0 72 [some (.ref 1), some (.ref (sq s)), some (.int (m 55 (iN m 46 s) - 1))] [] T I J R
            refine aw_iconst (v := 1) hC dX1_isLockedFor_72 (by decide) ?_
            refine aw_goto (tgt := 77) hC dX1_isLockedFor_73 (by decide) ?_
            exact aw_zreturn hC hq rfl (Or.inr rfl) dX1_isLockedFor_77 a_le a_le (aPure_i (bI_yes (fun z => by rcases (may_f hS hs hfq6 hfq).mp z with z | z | z | z; (exact absurd (sub1_m1.mpr z) (by assumption)); (exact absurd ((hS.kq hs (b := 4) (by omega)).mp z) (by assumption)); (exact absurd z (by assumption)); (exact absurd z (by assumption)))))
      · show AW X 0 0 33 [some (.ref 1), some (.ref (sq s)), some (.int (m 55 (iN m 46 s) - 1))] [] T I J R
        refine aw_iconst (v := 1) hC dX1_isLockedFor_33 (by decide) ?_
        exact aw_zreturn hC hq rfl (Or.inr rfl) dX1_isLockedFor_34 a_le a_le (aPure_i (bI_yes (fun z => by rcases (may_n (by assumption)).mp z with z | z; (exact absurd (sub1_m1.mpr z) (by assumption)); (exact absurd ((hS.kq hs (b := 4) (by omega)).mp z) (by assumption)))))
    · show AW X 0 0 23 [some (.ref 1), some (.ref (sq s)), some (.int (m 55 (iN m 46 s) - 1))] [] T I J R
      have h2n : (iN m 45 s) = 4 := (nI_eq (a := (iN m 45 s)) (b := 4) (by omega) (by omega)).mp h2
      refine aw_iconst (v := 0) hC dX1_isLockedFor_23 (by decide) ?_
      exact aw_zreturn hC hq rfl (Or.inl rfl) dX1_isLockedFor_24 a_le a_le (aPure_i (bI_no (fun z => z (by first | exact Or.inl (sub1_m1.mp (by assumption)) | exact Or.inr (Or.inl ((hS.kq hs (b := 4) (by omega)).mpr (by assumption)))))))
abbrev fV (m : aI) (n s : Nat) : Int32 := if m 84 s ≠ 0 ∧ m 45 s < 7 then mFault m n s else 0
theorem fV_0 {m : aI} {n s : Nat} (h : m 84 s = 0 ∨ ¬ m 45 s < 7) : 0 = fV m n s := (if_neg (fun q => h.elim (fun z => q.1 z) (fun z => z q.2))).symm
theorem fV_1 {m : aI} {n s : Nat} (h1 : m 84 s ≠ 0) (h2 : m 45 s < 7) (h : mNotListed m n s) : 1 = fV m n s := by unfold fV mFault; rw [if_pos ⟨h1, h2⟩, if_pos h]
theorem fV_2 {m : aI} {n s : Nat} (h1 : m 84 s ≠ 0) (h2 : m 45 s < 7) (h : ¬ mNotListed m n s) (g : mHidden m n s) : 2 = fV m n s := by unfold fV mFault; rw [if_pos ⟨h1, h2⟩, if_neg h, if_pos g]
theorem fV_3 {m : aI} {n s : Nat} (h1 : m 84 s ≠ 0) (h2 : m 45 s < 7) (h : ¬ mNotListed m n s) (g : ¬ mHidden m n s) : (mMay m s → 0 = fV m n s) ∧ (¬ mMay m s → 3 = fV m n s) := by
  unfold fV mFault; rw [if_pos ⟨h1, h2⟩, if_neg h, if_neg g]
  exact ⟨fun q => (if_pos q).symm, fun q => (if_neg q).symm⟩
/-- what is listed and whether lists are closed stands in the book -/
def CLi (I : aI) (m : aI) (n : Nat) : Prop := I 1 8 = bI (mTold m n 9 (-1)) ∧ ∀ i, i < 10 → bt (I 1 9) i = mTold m n 8 (nI i)
theorem b_not {l : Int32} {i : Nat} (h : i < 32) : bt (l ^^^ (-1)) i = !bt l i := by rw [b_xor, b_m1 i h, Bool.xor_true]
theorem nl_iff {I m : aI} {n s : Nat} (hS : SW m n) (hs : s < n) (h : CLi I m n) : mNotListed m n s ↔ (I 1 8 ≠ 0 ∧ tBoth m s &&& (I 1 9 ^^^ (-1)) ≠ 0) := by
  have hf := hS.fd s hs
  have ho := hS.on s hs
  have hp : isPr m s → iN m 47 s < 10 := fun q => hS.k56 s hs (isPr_n hS hs q)
  rw [Int32.and_comm, both_hit hf.2 hp, b_not (by omega), h.1, h.2 _ hf.2]
  have e : (isPr m s ∧ bt (I 1 9 ^^^ (-1)) (iN m 47 s) = true) ↔ (isPr m s ∧ mTold m n 8 (m 47 s) = false) := ⟨fun q => ⟨q.1, by
    have z := q.2
    rw [b_not (by have := hp q.1; omega), h.2 _ (hp q.1), ← ho.1] at z
    simpa using z⟩, fun q => ⟨q.1, by rw [b_not (by have := hp q.1; omega), h.2 _ (hp q.1), ← ho.1, q.2]; rfl⟩⟩
  rw [e, ← hf.1]
  unfold mNotListed
  rw [Ne, bI_n0, Bool.not_eq_true']
set_option maxRecDepth 100000 in
theorem m_X1_findFault {T : List aT} {I : aI} {J : aJ} {R : aR} (hT : aPT T) (hR : aPR R) {m : aI} {n : Nat} {sq : Nat → Nat} (hSt : CSt T I R m n sq) (hS : SW m n) (hTh : CTh I m n sq) (hB : CBk I m) (hLi : CLi I m n) {s : Nat} (hs : s < n) : MX1_findFault 0 0 [.ref 1, .ref (sq s)] T I J R (aPure (some (.int (fV m n s))) T I J R) := by
  refine a_met (by decide +kernel) a_le (fun X hC hq => ?_)
  show AW X 0 0 0 [some (.ref 1), some (.ref (sq s))] [] T I J R
  refine aw_aload_n hC dX1_findFault_0 rfl ?_
  refine aw_getI hC dX1_findFault_1 aF_X1_69 rfl (hSt.at hs).1 ?_
  refine aw_if_eq (tgt := 14) hC dX1_findFault_4 (by decide) (fun h1 => ?_) (fun h1 => ?_)
  · show AW X 0 0 14 [some (.ref 1), some (.ref (sq s))] [] T I J R
    refine aw_iconst (v := 0) hC dX1_findFault_14 (by decide) ?_
    exact aw_ireturn hC hq rfl dX1_findFault_15 a_le a_le (aPure_i (fV_0 (by first | exact Or.inl (by rw [← hTh s hs]; assumption) | exact Or.inr (fun q => absurd (i_7.mpr q) (by have h9 := bI_d0.mp (by assumption); rw [(hSt.at hs).2.2.2.1] at h9; exact h9)))))
  · show AW X 0 0 7 [some (.ref 1), some (.ref (sq s))] [] T I J R
    refine aw_aload_n hC dX1_findFault_7 rfl ?_
    refine kX1_116 hC rfl (m_X8_isNarrowing (hSt.at hs).1) dX1_findFault_8 (hSt.at hs).1 rfl a_le a_le a_le a_le a_le rfl aPure_x (aPure_k ?_)
    show AW X 0 0 11 [some (.ref 1), some (.ref (sq s))] [.int (bI (decide (I (sq s) 2 ≤ 6)))] T I J R
    refine aw_if_ne (tgt := 16) hC dX1_findFault_11 (by decide) (fun h2 => ?_) (fun h2 => ?_)
    · show AW X 0 0 16 [some (.ref 1), some (.ref (sq s))] [] T I J R
      have hth : m 84 s ≠ 0 := by rw [← hTh s hs]; assumption
      have h45 : m 45 s < 7 := i_7.mp (by have h9 := bI_dn.mp (by assumption); rw [(hSt.at hs).2.2.2.1] at h9; exact h9)
      refine aw_aload_n hC dX1_findFault_16 rfl ?_
      refine aw_getI hC dX1_findFault_17 aF_X1_52 rfl (tg_1 hT) ?_
      refine aw_if_eq (tgt := 39) hC dX1_findFault_20 (by decide) (fun h3 => ?_) (fun h3 => ?_)
      · show AW X 0 0 39 [some (.ref 1), some (.ref (sq s))] [] T I J R
        have hnl : ¬ mNotListed m n s := fun q => by have z := (nl_iff hS hs hLi).mp q; first | exact absurd (by assumption) z.1 | exact absurd (by assumption) z.2
        refine aw_aload_n hC dX1_findFault_39 rfl ?_
        refine aw_aload_n hC dX1_findFault_40 rfl ?_
        refine kX1_127 hC rfl (m_X1_isHiddenFrom (I := I) hT hR hSt hS hTh (s := s) hs) dX1_findFault_41 (tg_1 hT) rfl a_le a_le a_le a_le a_le rfl aPure_x (aPure_k ?_)
        show AW X 0 0 44 [some (.ref 1), some (.ref (sq s))] [.int (bI (decide (mHidden m n s)))] T I J R
        refine aw_if_eq (tgt := 49) hC dX1_findFault_44 (by decide) (fun h4 => ?_) (fun h4 => ?_)
        · show AW X 0 0 49 [some (.ref 1), some (.ref (sq s))] [] T I J R
          have hnh : ¬ mHidden m n s := bI_d0.mp (by assumption)
          refine aw_aload_n hC dX1_findFault_49 rfl ?_
          refine aw_aload_n hC dX1_findFault_50 rfl ?_
          refine kX1_130 hC rfl (m_X1_isLockedFor (I := I) hT hR hSt hS hB (s := s) hs) dX1_findFault_51 (tg_1 hT) rfl a_le a_le a_le a_le a_le rfl aPure_x (aPure_k ?_)
          show AW X 0 0 54 [some (.ref 1), some (.ref (sq s))] [.int (bI (decide (¬ mMay m s)))] T I J R
          refine aw_if_eq (tgt := 61) hC dX1_findFault_54 (by decide) (fun h5 => ?_) (fun h5 => ?_)
          · show AW X 0 0 61 [some (.ref 1), some (.ref (sq s))] [] T I J R
            refine aw_iconst (v := 0) hC dX1_findFault_61 (by decide) ?_
            exact aw_ireturn hC hq rfl dX1_findFault_62 a_le a_le (aPure_i ((fV_3 hth h45 hnl hnh).1 (Classical.not_not.mp (bI_d0.mp (by assumption)))))
          · show AW X 0 0 57 [some (.ref 1), some (.ref (sq s))] [] T I J R
            refine aw_iconst (v := 3) hC dX1_findFault_57 (by decide) ?_
            refine aw_goto (tgt := 62) hC dX1_findFault_58 (by decide) ?_
            exact aw_ireturn hC hq rfl dX1_findFault_62 a_le a_le (aPure_i ((fV_3 hth h45 hnl hnh).2 (bI_dn.mp (by assumption))))
        · show AW X 0 0 47 [some (.ref 1), some (.ref (sq s))] [] T I J R
          refine aw_iconst (v := 2) hC dX1_findFault_47 (by decide) ?_
          exact aw_ireturn hC hq rfl dX1_findFault_48 a_le a_le (aPure_i (fV_2 hth h45 hnl (bI_dn.mp (by assumption))))
      · show AW X 0 0 23 [some (.ref 1), some (.ref (sq s))] [] T I J R
        refine aw_aload_n hC dX1_findFault_23 rfl ?_
        refine kX1_123 hC rfl (m_X8_fields (I := I) (hSt.at hs).1) dX1_findFault_24 (hSt.at hs).1 rfl a_le a_le a_le a_le a_le rfl aPure_x (aPure_k ?_)
        show AW X 0 0 27 [some (.ref 1), some (.ref (sq s))] [.int (iBit (I (sq s) 3) ||| (if I (sq s) 2 = 5 ∨ I (sq s) 2 = 6 then iBit (I (sq s) 4) else 0))] T I J R
        rw [st_flds (hSt.at hs) hS hs]
        refine aw_aload_n hC dX1_findFault_27 rfl ?_
        refine aw_getI hC dX1_findFault_28 aF_X1_56 rfl (tg_1 hT) ?_
        refine aw_iconst (v := (-1)) hC dX1_findFault_31 (by decide) ?_
        refine aw_ixor hC dX1_findFault_32 ?_
        refine aw_iand hC dX1_findFault_33 ?_
        refine aw_if_eq (tgt := 39) hC dX1_findFault_34 (by decide) (fun h6 => ?_) (fun h6 => ?_)
        · show AW X 0 0 39 [some (.ref 1), some (.ref (sq s))] [] T I J R
          have hnl : ¬ mNotListed m n s := fun q => by have z := (nl_iff hS hs hLi).mp q; first | exact absurd (by assumption) z.1 | exact absurd (by assumption) z.2
          refine aw_aload_n hC dX1_findFault_39 rfl ?_
          refine aw_aload_n hC dX1_findFault_40 rfl ?_
          refine kX1_127 hC rfl (m_X1_isHiddenFrom (I := I) hT hR hSt hS hTh (s := s) hs) dX1_findFault_41 (tg_1 hT) rfl a_le a_le a_le a_le a_le rfl aPure_x (aPure_k ?_)
          show AW X 0 0 44 [some (.ref 1), some (.ref (sq s))] [.int (bI (decide (mHidden m n s)))] T I J R
          refine aw_if_eq (tgt := 49) hC dX1_findFault_44 (by decide) (fun h7 => ?_) (fun h7 => ?_)
          · show AW X 0 0 49 [some (.ref 1), some (.ref (sq s))] [] T I J R
            have hnh : ¬ mHidden m n s := bI_d0.mp (by assumption)
            refine aw_aload_n hC dX1_findFault_49 rfl ?_
            refine aw_aload_n hC dX1_findFault_50 rfl ?_
            refine kX1_130 hC rfl (m_X1_isLockedFor (I := I) hT hR hSt hS hB (s := s) hs) dX1_findFault_51 (tg_1 hT) rfl a_le a_le a_le a_le a_le rfl aPure_x (aPure_k ?_)
            show AW X 0 0 54 [some (.ref 1), some (.ref (sq s))] [.int (bI (decide (¬ mMay m s)))] T I J R
            refine aw_if_eq (tgt := 61) hC dX1_findFault_54 (by decide) (fun h8 => ?_) (fun h8 => ?_)
            · show AW X 0 0 61 [some (.ref 1), some (.ref (sq s))] [] T I J R
              refine aw_iconst (v := 0) hC dX1_findFault_61 (by decide) ?_
              exact aw_ireturn hC hq rfl dX1_findFault_62 a_le a_le (aPure_i ((fV_3 hth h45 hnl hnh).1 (Classical.not_not.mp (bI_d0.mp (by assumption)))))
            · show AW X 0 0 57 [some (.ref 1), some (.ref (sq s))] [] T I J R
              refine aw_iconst (v := 3) hC dX1_findFault_57 (by decide) ?_
              refine aw_goto (tgt := 62) hC dX1_findFault_58 (by decide) ?_
              exact aw_ireturn hC hq rfl dX1_findFault_62 a_le a_le (aPure_i ((fV_3 hth h45 hnl hnh).2 (bI_dn.mp (by assumption))))
          · show AW X 0 0 47 [some (.ref 1), some (.ref (sq s))] [] T I J R
            refine aw_iconst (v := 2) hC dX1_findFault_47 (by decide) ?_
            exact aw_ireturn hC hq rfl dX1_findFault_48 a_le a_le (aPure_i (fV_2 hth h45 hnl (bI_dn.mp (by assumption))))
        · show AW X 0 0 37 [some (.ref 1), some (.ref (sq s))] [] T I J R
          refine aw_iconst (v := 1) hC dX1_findFault_37 (by decide) ?_
          exact aw_ireturn hC hq rfl dX1_findFault_38 a_le a_le (aPure_i (fV_1 hth h45 ((nl_iff hS hs hLi).mpr ⟨by assumption, by assumption⟩)))
    · show AW X 0 0 14 [some (.ref 1), some (.ref (sq s))] [] T I J R
      refine aw_iconst (v := 0) hC dX1_findFault_14 (by decide) ?_
      exact aw_ireturn hC hq rfl dX1_findFault_15 a_le a_le (aPure_i (fV_0 (by first | exact Or.inl (by rw [← hTh s hs]; assumption) | exact Or.inr (fun q => absurd (i_7.mpr q) (by have h9 := bI_d0.mp (by assumption); rw [(hSt.at hs).2.2.2.1] at h9; exact h9)))))
