theorem cntT_y {p : Nat → Bool} {k : Nat} (h : p k = true) : cntT p k + 1 = cntT p (k + 1) := by rw [cntT, if_pos h]
theorem cntT_n {p : Nat → Bool} {k : Nat} (h : p k = false) : cntT p k = cntT p (k + 1) := by rw [cntT, if_neg (by rw [h]; simp)]; rfl
abbrev thB (m : aI) : Nat → Bool := fun s => decide (m 84 s ≠ 0)
abbrev CFl (I : aI) (m : aI) (n : Nat) (sq : Nat → Nat) : Prop := ∀ s, s < n → I (sq s) 10 = m 86 s
theorem CDr.th {I : aI} {R : aR} {m : aI} {n : Nat} {sq : Nat → Nat} (h : CDr I R m n sq) : CTh I m n sq := fun s hs => (h s hs).1
theorem CDr.ft {I : aI} {R : aR} {m : aI} {n : Nat} {sq : Nat → Nat} (h : CDr I R m n sq) : CFl I m n sq := fun s hs => (h s hs).2.1
set_option maxRecDepth 100000 in
theorem m_X1_countThere {T : List aT} {I : aI} {J : aJ} {R : aR} (hT : aPT T) (hR : aPR R) {m : aI} {n : Nat} {sq : Nat → Nat} (hSt : CSt T I R m n sq) (hS : SW m n) (hTh : CTh I m n sq) : MX1_countThere 0 0 [.ref 1] T I J R (aPure (some (.int (nI (cntT (thB m) n)))) T I J R) := by
  refine a_met (by decide +kernel) a_le (fun X hC hq => ?_)
  show AW X 0 0 0 [some (.ref 1), none, none] [] T I J R
  refine aw_iconst (v := 0) hC dX1_countThere_0 (by decide) ?_
  refine aw_istore_n (L2 := [some (.ref 1), some (.int 0), none]) hC dX1_countThere_1 rfl (by decide) rfl ?_
  refine aw_iconst (v := 0) hC dX1_countThere_2 (by decide) ?_
  refine aw_istore_n (L2 := [some (.ref 1), some (.int 0), some (.int 0)]) hC dX1_countThere_3 rfl (by decide) rfl ?_
  have loop : ∀ k, k ≤ n → AW X 0 0 4 [some (.ref 1), some (.int (nI (cntT (thB m) k))), some (.int (nI k))] [] T I J R := by
    refine a_down n (fun k hk_k ih_k => ?_)
    have hn9 := hS.n30
    refine aw_iload_n hC dX1_countThere_4 rfl ?_
    refine aw_aload_n hC dX1_countThere_5 rfl ?_
    refine aw_getI hC dX1_countThere_6 aF_X1_39 rfl (tg_1 hT) ?_
    rw [hSt.cnt]
    refine aw_icmp_ge (tgt := 33) hC dX1_countThere_9 (by decide) (fun h1 => ?_) (fun h1 => ?_)
    · show AW X 0 0 33 [some (.ref 1), some (.int (nI (cntT (thB m) k))), some (.int (nI k))] [] T I J R
      have h1n : n ≤ k := (nI_leI (a := n) (b := k) (by omega) (by omega)).mp h1
      refine aw_iload_n hC dX1_countThere_33 rfl ?_
      exact aw_ireturn hC hq rfl dX1_countThere_34 a_le a_le (aPure_i (by rw [show k = n by omega]))
    · show AW X 0 0 12 [some (.ref 1), some (.int (nI (cntT (thB m) k))), some (.int (nI k))] [] T I J R
      have h1n : ¬ n ≤ k := fun q9 => h1 ((nI_leI (a := n) (b := k) (by omega) (by omega)).mpr q9)
      refine aw_aload_n hC dX1_countThere_12 rfl ?_
      refine aw_getR hC dX1_countThere_13 aF_X1_11 rfl (tg_1 hT) (pr_1_0 hR) ?_
      refine aw_iload_n hC dX1_countThere_16 rfl ?_
      refine aw_aaloadR_k (j := k) hC dX1_countThere_17 (tg_2 hT) (nI_clamp (by omega)) (vp_in_nI (by omega) (by decide)) (hSt.rf (by omega)) ?_
      refine aw_getI hC dX1_countThere_18 aF_X1_69 rfl (hSt.at (by omega)).1 ?_
      refine aw_if_eq (tgt := 27) hC dX1_countThere_21 (by decide) (fun h2 => ?_) (fun h2 => ?_)
      · show AW X 0 0 27 [some (.ref 1), some (.int (nI (cntT (thB m) k))), some (.int (nI k))] [] T I J R
        refine aw_iinc (v := nI (k + 1)) (L2 := [some (.ref 1), some (.int (nI (cntT (thB m) k))), some (.int (nI (k + 1)))]) hC dX1_countThere_27 rfl (nI_inc _) (by decide) rfl ?_
        refine aw_goto (tgt := 4) hC dX1_countThere_30 (by decide) ?_
        rw [cntT_n (p := thB m) (k := k) (decide_eq_false (by rw [← hTh k (by omega)]; exact not_not_intro (by assumption)))]
        exact ih_k (by omega)
      · show AW X 0 0 24 [some (.ref 1), some (.int (nI (cntT (thB m) k))), some (.int (nI k))] [] T I J R
        refine aw_iinc (v := nI ((cntT (thB m) k) + 1)) (L2 := [some (.ref 1), some (.int (nI ((cntT (thB m) k) + 1))), some (.int (nI k))]) hC dX1_countThere_24 rfl (nI_inc _) (by decide) rfl ?_
        refine aw_iinc (v := nI (k + 1)) (L2 := [some (.ref 1), some (.int (nI ((cntT (thB m) k) + 1))), some (.int (nI (k + 1)))]) hC dX1_countThere_27 rfl (nI_inc _) (by decide) rfl ?_
        refine aw_goto (tgt := 4) hC dX1_countThere_30 (by decide) ?_
        rw [cntT_y (p := thB m) (decide_eq_true (by rw [← hTh k (by omega)]; assumption))]
        exact ih_k (by omega)
  exact loop 0 (Nat.zero_le _) 
set_option maxRecDepth 100000 in
theorem m_X1_hasFault {T : List aT} {I : aI} {J : aJ} {R : aR} (hT : aPT T) (hR : aPR R) {m : aI} {n : Nat} {sq : Nat → Nat} (hSt : CSt T I R m n sq) (hS : SW m n) (hFl : CFl I m n sq) : MX1_hasFault 0 0 [.ref 1] T I J R (aPure (some (.int (bI (!allB (cF m) n)))) T I J R) := by
  refine a_met (by decide +kernel) a_le (fun X hC hq => ?_)
  show AW X 0 0 0 [some (.ref 1), none] [] T I J R
  refine aw_iconst (v := 0) hC dX1_hasFault_0 (by decide) ?_
  refine aw_istore_n (L2 := [some (.ref 1), some (.int 0)]) hC dX1_hasFault_1 rfl (by decide) rfl ?_
  have loop : ∀ k, k ≤ n → (∀ j, j < k → m 86 j = 0) → AW X 0 0 2 [some (.ref 1), some (.int (nI k))] [] T I J R := by
    refine a_down n (fun k hk_k ih_k => ?_)
    intro hno
    have hn9 := hS.n30
    refine aw_iload_n hC dX1_hasFault_2 rfl ?_
    refine aw_aload_n hC dX1_hasFault_3 rfl ?_
    refine aw_getI hC dX1_hasFault_4 aF_X1_39 rfl (tg_1 hT) ?_
    rw [hSt.cnt]
    refine aw_icmp_ge (tgt := 30) hC dX1_hasFault_7 (by decide) (fun h1 => ?_) (fun h1 => ?_)
    · show AW X 0 0 30 [some (.ref 1), some (.int (nI k))] [] T I J R
      have h1n : n ≤ k := (nI_leI (a := n) (b := k) (by omega) (by omega)).mp h1
      refine aw_iconst (v := 0) hC dX1_hasFault_30 (by decide) ?_
      exact aw_zreturn hC hq rfl (Or.inl rfl) dX1_hasFault_31 a_le a_le (aPure_i (by rw [show allB (cF m) n = true from allB_iff.mpr (fun j hj => decide_eq_true (hno j (by omega)))]; rfl))
    · show AW X 0 0 10 [some (.ref 1), some (.int (nI k))] [] T I J R
      have h1n : ¬ n ≤ k := fun q9 => h1 ((nI_leI (a := n) (b := k) (by omega) (by omega)).mpr q9)
      refine aw_aload_n hC dX1_hasFault_10 rfl ?_
      refine aw_getR hC dX1_hasFault_11 aF_X1_11 rfl (tg_1 hT) (pr_1_0 hR) ?_
      refine aw_iload_n hC dX1_hasFault_14 rfl ?_
      refine aw_aaloadR_k (j := k) hC dX1_hasFault_15 (tg_2 hT) (nI_clamp (by omega)) (vp_in_nI (by omega) (by decide)) (hSt.rf (by omega)) ?_
      refine aw_getI hC dX1_hasFault_16 aF_X1_90 rfl (hSt.at (by omega)).1 ?_
      refine aw_if_eq (tgt := 24) hC dX1_hasFault_19 (by decide) (fun h2 => ?_) (fun h2 => ?_)
      · show AW X 0 0 24 [some (.ref 1), some (.int (nI k))] [] T I J R
        refine aw_iinc (v := nI (k + 1)) (L2 := [some (.ref 1), some (.int (nI (k + 1)))]) hC dX1_hasFault_24 rfl (nI_inc _) (by decide) rfl ?_
        refine aw_goto (tgt := 2) hC dX1_hasFault_27 (by decide) ?_
        exact ih_k (by omega) (fun j hj => by by_cases e : j = k; (rw [e, ← hFl k (by omega)]; assumption); exact hno j (by omega))
      · show AW X 0 0 22 [some (.ref 1), some (.int (nI k))] [] T I J R
        refine aw_iconst (v := 1) hC dX1_hasFault_22 (by decide) ?_
        exact aw_zreturn hC hq rfl (Or.inr rfl) dX1_hasFault_23 a_le a_le (aPure_i (by rw [show allB (cF m) n = false from by cases e : allB (cF m) n with | false => rfl | true => exact absurd (of_decide_eq_true (allB_iff.mp e k (by omega))) (by rw [← hFl k (by omega)]; assumption)]; rfl))
  exact loop 0 (Nat.zero_le _) (fun j hj => absurd hj (by omega))
set_option maxRecDepth 100000 in
theorem m_X10_forget {T : List aT} {I : aI} {J : aJ} {R : aR} (hT : aPT T) (hR : aPR R) : MX10_forget 0 0 [.ref 8] T I J R (aPure none T (a_u I 8 11 0) J R) := by
  refine a_met (by decide +kernel) a_le (fun X hC hq => ?_)
  show AW X 0 0 0 [some (.ref 8)] [] T I J R
  refine aw_aload_n hC dX10_forget_0 rfl ?_
  refine aw_iconst (v := 0) hC dX10_forget_1 (by decide) ?_
  refine aw_putZ hC dX10_forget_2 aF_X10_44 rfl rfl (tg_8 hT) (Or.inl rfl) ?_
  exact aw_return hC hq rfl dX10_forget_5 a_le a_le aPure_v
abbrev cdV (m : aI) (p : Nat) (v : Int32) (s : Nat) : Int32 := if m 50 s = nI p ∧ m 51 s = 0 then v else m 51 s
/-- closing a draft, as far as k -/
def CDI (I : aI) (m : aI) (n : Nat) (sq : Nat → Nat) (p : Nat) (v : Int32) (k : Nat) (I2 : aI) : Prop := (∀ a q, ¬ (a = 6 ∧ q = p) → ¬ (q = 6 ∧ ∃ s, s < n ∧ a = sq s) → I2 a q = I a q) ∧ I2 6 p = v ∧ ∀ s, s < n → I2 (sq s) 6 = if s < k then cdV m p v s else m 51 s
theorem CDI.no {I : aI} {m : aI} {n p k : Nat} {sq : Nat → Nat} {v : Int32} {I2 : aI} (h : CDI I m n sq p v k I2) (e : cdV m p v k = m 51 k) : CDI I m n sq p v (k + 1) I2 := ⟨h.1, h.2.1, fun s hs => by
  rw [h.2.2 s hs]
  by_cases c : s < k
  · rw [if_pos c, if_pos (by omega)]
  · rw [if_neg c]
    by_cases d : s = k
    · rw [if_pos (by omega), d]; exact e.symm
    · rw [if_neg (by omega)]⟩
theorem CDI.ys {T : List aT} {R : aR} {I0 I : aI} {m : aI} {n p k : Nat} {sq : Nat → Nat} {v : Int32} {I2 : aI} (hT : aPT T) (hSt : CSt T I0 R m n sq) (hk : k < n) (h : CDI I m n sq p v k I2) (e : cdV m p v k = v) : CDI I m n sq p v (k + 1) (a_u I2 (sq k) 6 v) := by
  have h95 := hSt.ge hT hk
  refine ⟨fun a q h1 h2 => ?_, ?_, fun s hs => ?_⟩
  · rw [a_u_ne (fun z => h2 ⟨z.2, k, hk, z.1⟩)]; exact h.1 a q h1 h2
  · rw [a_u_row (by omega)]; exact h.2.1
  · by_cases d : s = k
    · rw [d, a_u_self, if_pos (by omega)]; exact e.symm
    · rw [a_u_row (fun z => d (hSt.inj hs hk z)), h.2.2 s hs]
      by_cases c : s < k
      · rw [if_pos c, if_pos (by omega)]
      · rw [if_neg c, if_neg (by omega)]
set_option maxRecDepth 100000 in
theorem m_X1_closeDraft {T : List aT} {I : aI} {J : aJ} {R : aR} (hT : aPT T) (hR : aPR R) {m : aI} {n : Nat} {sq : Nat → Nat} (hSt : CSt T I R m n sq) (hS : SW m n) {p : Nat} (hp : p < 3) : MX1_closeDraft 0 0 [.ref 1, .int (nI p)] T I J R (aRelV (fun v I2 J2 => v = some (.int (I 6 p + 1)) ∧ J2 = J ∧ CDI I m n sq p (I 6 p + 1) n I2) T R) := by
  refine a_met (by decide +kernel) a_le (fun X hC hq => ?_)
  show AW X 0 0 0 [some (.ref 1), some (.int (nI p)), none, none] [] T I J R
  refine aw_aload_n hC dX1_closeDraft_0 rfl ?_
  refine aw_getR hC dX1_closeDraft_1 aF_X1_27 rfl (tg_1 hT) (pr_1_5 hR) ?_
  refine aw_iload_n hC dX1_closeDraft_4 rfl ?_
  refine aw_dup2 hC dX1_closeDraft_5 rfl rfl ?_
  refine aw_iaload_k (j := p) hC dX1_closeDraft_6 (tg_6 hT) (nI_clamp (by omega)) (vp_in_nI (by omega) (by decide)) ?_
  refine aw_iconst (v := 1) hC dX1_closeDraft_7 (by decide) ?_
  refine aw_iadd hC dX1_closeDraft_8 ?_
  refine aw_iastore_k (j := p) hC dX1_closeDraft_9 (tg_6 hT) (nI_clamp (by omega)) (vp_in_nI (by omega) (by decide)) ?_
  refine aw_iconst (v := 0) hC dX1_closeDraft_10 (by decide) ?_
  refine aw_istore_n (L2 := [some (.ref 1), some (.int (nI p)), some (.int 0), none]) hC dX1_closeDraft_11 rfl (by decide) rfl ?_
  have loop : ∀ k, k ≤ n → ∀ I2 : aI, CDI I m n sq p (I 6 p + 1) k I2 → AW X 0 0 12 [some (.ref 1), some (.int (nI p)), some (.int (nI k)), none] [] T I2 J R := by
    refine a_down n (fun k hk_k ih_k => ?_)
    intro I2 hI
    have hn9 := hS.n30
    have hz9 : ∀ s, s < n → 44 ≤ sq s := fun s hs => hSt.ge hT hs
    have h11 : I2 1 1 = nI n := (hI.1 1 1 (fun q => absurd q.1 (by decide)) (fun q => absurd q.1 (by decide))).trans hSt.cnt
    have hpk9 : ∀ s, s < n → I2 (sq s) 1 = m 50 s := fun s hs => (hI.1 (sq s) 1 (fun q => absurd q.2 (by have := hz9 s hs; omega)) (fun q => absurd q.1 (by decide))).trans (hSt.at hs).2.2.1
    have hvs9 : ∀ s, s < n → k ≤ s → I2 (sq s) 6 = m 51 s := fun s hs hk => by rw [hI.2.2 s hs, if_neg (by omega)]
    refine aw_iload_n hC dX1_closeDraft_12 rfl ?_
    refine aw_aload_n hC dX1_closeDraft_13 rfl ?_
    refine aw_getI hC dX1_closeDraft_14 aF_X1_39 rfl (tg_1 hT) ?_
    rw [h11]
    refine aw_icmp_ge (tgt := 58) hC dX1_closeDraft_17 (by decide) (fun h1 => ?_) (fun h1 => ?_)
    · show AW X 0 0 58 [some (.ref 1), some (.int (nI p)), some (.int (nI k)), none] [] T I2 J R
      have h1n : n ≤ k := (nI_leI (a := n) (b := k) (by omega) (by omega)).mp h1
      refine aw_aload_n hC dX1_closeDraft_58 rfl ?_
      refine aw_getR hC dX1_closeDraft_59 aF_X1_27 rfl (tg_1 hT) (pr_1_5 hR) ?_
      refine aw_iload_n hC dX1_closeDraft_62 rfl ?_
      refine aw_iaload_k (j := p) hC dX1_closeDraft_63 (tg_6 hT) (nI_clamp (by omega)) (vp_in_nI (by omega) (by decide)) ?_
      rw [hI.2.1]
      exact aw_ireturn hC hq rfl dX1_closeDraft_64 a_le a_le ⟨_, rfl, rfl, rfl, rfl, rfl, by have e : k = n := (by omega); rw [e] at hI; exact hI⟩
    · show AW X 0 0 20 [some (.ref 1), some (.int (nI p)), some (.int (nI k)), none] [] T I2 J R
      have h1n : ¬ n ≤ k := fun q9 => h1 ((nI_leI (a := n) (b := k) (by omega) (by omega)).mpr q9)
      refine aw_aload_n hC dX1_closeDraft_20 rfl ?_
      refine aw_getR hC dX1_closeDraft_21 aF_X1_11 rfl (tg_1 hT) (pr_1_0 hR) ?_
      refine aw_iload_n hC dX1_closeDraft_24 rfl ?_
      refine aw_aaloadR_k (j := k) hC dX1_closeDraft_25 (tg_2 hT) (nI_clamp (by omega)) (vp_in_nI (by omega) (by decide)) (hSt.rf (by omega)) ?_
      refine aw_astore_n (L2 := [some (.ref 1), some (.int (nI p)), some (.int (nI k)), some (.ref (sq k))]) hC dX1_closeDraft_26 rfl (by decide) rfl ?_
      refine aw_aload_n hC dX1_closeDraft_27 rfl ?_
      refine aw_getI hC dX1_closeDraft_28 aF_X1_43 rfl (hSt.at (by omega)).1 ?_
      rw [(hpk9 k (by omega))]
      refine aw_iload_n hC dX1_closeDraft_31 rfl ?_
      refine aw_icmp_ne (tgt := 52) hC dX1_closeDraft_32 (by decide) (fun h2 => ?_) (fun h2 => ?_)
      · show AW X 0 0 52 [some (.ref 1), some (.int (nI p)), some (.int (nI k)), some (.ref (sq k))] [] T I2 J R
        refine aw_iinc (v := nI (k + 1)) (L2 := [some (.ref 1), some (.int (nI p)), some (.int (nI (k + 1))), some (.ref (sq k))]) hC dX1_closeDraft_52 rfl (nI_inc _) (by decide) rfl ?_
        refine aw_goto (tgt := 12) hC dX1_closeDraft_55 (by decide) ?_
        refine aw_forget 3 (L2 := [some (.ref 1), some (.int (nI p)), some (.int (nI (k + 1))), none]) rfl ?_
        exact ih_k (by omega) I2 (hI.no (by unfold cdV; rw [if_neg (fun q => by first | exact absurd q.1 (by assumption) | exact absurd q.2 (by assumption))]))
      · show AW X 0 0 35 [some (.ref 1), some (.int (nI p)), some (.int (nI k)), some (.ref (sq k))] [] T I2 J R
        refine aw_aload_n hC dX1_closeDraft_35 rfl ?_
        refine aw_getI hC dX1_closeDraft_36 aF_X1_46 rfl (hSt.at (by omega)).1 ?_
        rw [(hvs9 k (by omega) (by omega))]
        refine aw_if_ne (tgt := 52) hC dX1_closeDraft_39 (by decide) (fun h3 => ?_) (fun h3 => ?_)
        · show AW X 0 0 52 [some (.ref 1), some (.int (nI p)), some (.int (nI k)), some (.ref (sq k))] [] T I2 J R
          refine aw_iinc (v := nI (k + 1)) (L2 := [some (.ref 1), some (.int (nI p)), some (.int (nI (k + 1))), some (.ref (sq k))]) hC dX1_closeDraft_52 rfl (nI_inc _) (by decide) rfl ?_
          refine aw_goto (tgt := 12) hC dX1_closeDraft_55 (by decide) ?_
          refine aw_forget 3 (L2 := [some (.ref 1), some (.int (nI p)), some (.int (nI (k + 1))), none]) rfl ?_
          exact ih_k (by omega) I2 (hI.no (by unfold cdV; rw [if_neg (fun q => by first | exact absurd q.1 (by assumption) | exact absurd q.2 (by assumption))]))
        · show AW X 0 0 42 [some (.ref 1), some (.int (nI p)), some (.int (nI k)), some (.ref (sq k))] [] T I2 J R
          refine aw_aload_n hC dX1_closeDraft_42 rfl ?_
          refine aw_aload_n hC dX1_closeDraft_43 rfl ?_
          refine aw_getR hC dX1_closeDraft_44 aF_X1_27 rfl (tg_1 hT) (pr_1_5 hR) ?_
          refine aw_iload_n hC dX1_closeDraft_47 rfl ?_
          refine aw_iaload_k (j := p) hC dX1_closeDraft_48 (tg_6 hT) (nI_clamp (by omega)) (vp_in_nI (by omega) (by decide)) ?_
          rw [hI.2.1]
          refine aw_putI hC dX1_closeDraft_49 aF_X1_46 rfl rfl (hSt.at (by omega)).1 ?_
          refine aw_iinc (v := nI (k + 1)) (L2 := [some (.ref 1), some (.int (nI p)), some (.int (nI (k + 1))), some (.ref (sq k))]) hC dX1_closeDraft_52 rfl (nI_inc _) (by decide) rfl ?_
          refine aw_goto (tgt := 12) hC dX1_closeDraft_55 (by decide) ?_
          refine aw_forget 3 (L2 := [some (.ref 1), some (.int (nI p)), some (.int (nI (k + 1))), none]) rfl ?_
          exact ih_k (by omega) _ (hI.ys hT hSt (by omega) (by unfold cdV; rw [if_pos ⟨by assumption, by assumption⟩]))
  exact loop 0 (Nat.zero_le _) _ ⟨fun a q h1 h2 => by rw [a_u_ne h1], a_u_self, fun s hs => by rw [a_u_row (by have := hSt.ge hT hs; omega), if_neg (by omega)]; exact (hSt.at hs).2.2.2.2.2.2.2.1⟩
