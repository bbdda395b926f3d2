theorem FixA_z {m : aI} {n : Nat} {q : Nat → Bool} {S : Nat → Int64} (h : FixA m n q full S) : ∀ j, 10 ≤ j → S j = 0 := fun j hj => sLe_z (by have e := h.1 j; rwa [full_z j hj] at e)
theorem G3j.step {m : aI} {n k j : Nat} {l : Nat → Nat} (h : G3j m n l k j) (g : G3i m n l k j j) : G3j m n l k (j + 1) := fun j' hj => by
  by_cases e : j' = j
  · rw [e]; exact g
  · exact h j' (by omega)
theorem G3.step {m : aI} {n k : Nat} {l : Nat → Nat} (h : G3 m n l k) (g : G3j m n l k k) : G3 m n l (k + 1) := fun k' hk => by
  by_cases e : k' = k
  · rw [e]; exact g
  · exact h k' (by omega)
theorem G3i.step {m : aI} {n k j i : Nat} {l : Nat → Nat} (h : G3i m n l k j i) (g : FS m n (q3 (l i) (l j) (l k))) : G3i m n l k j (i + 1) := fun i' hi => by
  by_cases e : i' = i
  · rw [e]; exact g
  · exact h i' (by omega)
theorem G2i.step {m : aI} {n j i : Nat} {l : Nat → Nat} (h : G2i m n l j i) (g : FS m n (q3 (l i) (l j) (l j))) : G2i m n l j (i + 1) := fun i' hi => by
  by_cases e : i' = i
  · rw [e]; exact g
  · exact h i' (by omega)
theorem G2.step {m : aI} {n j : Nat} {l : Nat → Nat} (h : G2 m n l j) (g : G2i m n l j j) : G2 m n l (j + 1) := fun j' hj => by
  by_cases e : j' = j
  · rw [e]; exact g
  · exact h j' (by omega)
theorem G1.step {m : aI} {n i : Nat} {l : Nat → Nat} (h : G1 m n l i) (g : FS m n (q3 (l i) (l i) (l i))) : G1 m n l (i + 1) := fun i' hi => by
  by_cases e : i' = i
  · rw [e]; exact g
  · exact h i' (by omega)
theorem SUS.rf {I : aI} {R : aR} {m : aI} {P : Nat → Int64} {n c : Nat} {sq l : Nat → Nat} (h : SUS I R m P n sq n c l) : ∀ i, i < c → l i < n ∧ R 16 i = some (sq (l i)) := fun i hi => ⟨(h.2.2.1 i hi).1, (h.2.2.1 i hi).2.2.1⟩
theorem SUS.bt {I : aI} {R : aR} {m : aI} {P : Nat → Int64} {n c i : Nat} {sq l : Nat → Nat} (h : SUS I R m P n sq n c l) (hi : i < c) : I 17 i = iBit (nI (l i)) := (h.2.2.1 i hi).2.2.2.1
theorem SUS.tb {I : aI} {R : aR} {m : aI} {P : Nat → Int64} {n c i : Nat} {sq l : Nat → Nat} (h : SUS I R m P n sq n c l) (hi : i < c) : I 18 i = tBoth m (l i) := (h.2.2.1 i hi).2.2.2.2
set_option maxRecDepth 100000 in
theorem m_X10_seekTriple {T : List aT} {I : aI} {J : aJ} {R : aR} (hT : aPT T) (hR : aPR R) {m : aI} {n : Nat} {sq : Nat → Nat} {P : Nat → Int64} {c : Nat} {l : Nat → Nat} (hStU : CSt T I R m n sq) (hS : SW m n) (hU : SUS I R m P n sq n c l) (hz : ∀ j, 10 ≤ j → J 15 j = 0) (g1 : G1 m n l c) (g2 : G2 m n l c) : MX10_seekTriple 0 0 [.ref 8] T I J R (aRelV (fun v9 I2 J2 => I2 = I ∧ ∃ K, (∀ j, 10 ≤ j → K j = 0) ∧ J2 = a_ur J 15 K ∧ v9 = some (.int (cfV (NN m P n) n))) T R) := by
  refine a_met (by decide +kernel) a_le (fun X hC hq => ?_)
  show AW X 0 0 0 [some (.ref 8), none, none, none] [] T I J R
  have hn9 := hS.n30
  have hcn : c ≤ n := hU.2.1
  refine aw_iconst (v := 0) hC dX10_seekTriple_0 (by decide) ?_
  refine aw_istore_n (L2 := [some (.ref 8), some (.int 0), none, none]) hC dX10_seekTriple_1 rfl (by decide) rfl ?_
  refine aw_setJ (J2 := a_ur J 15 (J 15)) (a_ur_id (fun _ => rfl)).symm ?_
  have loopK : ∀ k, k ≤ c → ∀ K : Nat → Int64, (∀ j, 10 ≤ j → K j = 0) → G3 m n l k → AW X 0 0 2 [some (.ref 8), some (.int (nI k)), none, none] [] T I (a_ur J 15 K) R := by
    refine a_down c (fun k hk_k ihK => ?_)
    intro K hK g3
    refine aw_iload_n hC dX10_seekTriple_2 rfl ?_
    refine aw_aload_n hC dX10_seekTriple_3 rfl ?_
    refine aw_getI hC dX10_seekTriple_4 aF_X10_180 rfl (tg_8 hT) ?_
    rw [hU.1]
    refine aw_icmp_ge (tgt := 83) hC dX10_seekTriple_7 (by decide) (fun h1 => ?_) (fun h1 => ?_)
    · show AW X 0 0 83 [some (.ref 8), some (.int (nI k)), none, none] [] T I (a_ur J 15 K) R
      have h1n : c ≤ k := (nI_leI (a := c) (b := k) (by omega) (by omega)).mp h1
      refine aw_iconst (v := (-1)) hC dX10_seekTriple_83 (by decide) ?_
      exact aw_ireturn hC hq rfl dX10_seekTriple_84 a_le a_le ⟨_, rfl, rfl, rfl, rfl, K, hK, rfl, congrArg (fun z => some (Value.int z)) (cf_n hn9 hU.l g1 g2 (by have e9 : k = c := (by omega); rw [e9] at g3; exact g3)).symm⟩
    · show AW X 0 0 10 [some (.ref 8), some (.int (nI k)), none, none] [] T I (a_ur J 15 K) R
      have h1n : ¬ c ≤ k := fun q9 => h1 ((nI_leI (a := c) (b := k) (by omega) (by omega)).mpr q9)
      refine aw_iconst (v := 0) hC dX10_seekTriple_10 (by decide) ?_
      refine aw_istore_n (L2 := [some (.ref 8), some (.int (nI k)), some (.int 0), none]) hC dX10_seekTriple_11 rfl (by decide) rfl ?_
      have loopJ : ∀ j, j ≤ k → ∀ K : Nat → Int64, (∀ j, 10 ≤ j → K j = 0) → G3j m n l k j → AW X 0 0 12 [some (.ref 8), some (.int (nI k)), some (.int (nI j)), none] [] T I (a_ur J 15 K) R := by
        refine a_down k (fun j hk_j ihJ => ?_)
        intro K hK g3j
        refine aw_iload_n hC dX10_seekTriple_12 rfl ?_
        refine aw_iload_n hC dX10_seekTriple_13 rfl ?_
        refine aw_icmp_ge (tgt := 77) hC dX10_seekTriple_14 (by decide) (fun h2 => ?_) (fun h2 => ?_)
        · show AW X 0 0 77 [some (.ref 8), some (.int (nI k)), some (.int (nI j)), none] [] T I (a_ur J 15 K) R
          have h2n : k ≤ j := (nI_leI (a := k) (b := j) (by omega) (by omega)).mp h2
          refine aw_iinc (v := nI (k + 1)) (L2 := [some (.ref 8), some (.int (nI (k + 1))), some (.int (nI j)), none]) hC dX10_seekTriple_77 rfl (nI_inc _) (by decide) rfl ?_
          refine aw_goto (tgt := 2) hC dX10_seekTriple_80 (by decide) ?_
          refine aw_forget 2 (L2 := [some (.ref 8), some (.int (nI (k + 1))), none, none]) rfl ?_
          exact ihK (by omega) K hK (g3.step (by have e9 : j = k := (by omega); rw [e9] at g3j; exact g3j))
        · show AW X 0 0 17 [some (.ref 8), some (.int (nI k)), some (.int (nI j)), none] [] T I (a_ur J 15 K) R
          have h2n : ¬ k ≤ j := fun q9 => h2 ((nI_leI (a := k) (b := j) (by omega) (by omega)).mpr q9)
          refine aw_iconst (v := 0) hC dX10_seekTriple_17 (by decide) ?_
          refine aw_istore_n (L2 := [some (.ref 8), some (.int (nI k)), some (.int (nI j)), some (.int 0)]) hC dX10_seekTriple_18 rfl (by decide) rfl ?_
          have loopI : ∀ i, i ≤ j → ∀ K : Nat → Int64, (∀ j, 10 ≤ j → K j = 0) → G3i m n l k j i → AW X 0 0 19 [some (.ref 8), some (.int (nI k)), some (.int (nI j)), some (.int (nI i))] [] T I (a_ur J 15 K) R := by
            refine a_down j (fun i hk_i ihI => ?_)
            intro K hK g3i
            refine aw_iload_n hC dX10_seekTriple_19 rfl ?_
            refine aw_iload_n hC dX10_seekTriple_20 rfl ?_
            refine aw_icmp_ge (tgt := 71) hC dX10_seekTriple_21 (by decide) (fun h3 => ?_) (fun h3 => ?_)
            · show AW X 0 0 71 [some (.ref 8), some (.int (nI k)), some (.int (nI j)), some (.int (nI i))] [] T I (a_ur J 15 K) R
              have h3n : j ≤ i := (nI_leI (a := j) (b := i) (by omega) (by omega)).mp h3
              refine aw_iinc (v := nI (j + 1)) (L2 := [some (.ref 8), some (.int (nI k)), some (.int (nI (j + 1))), some (.int (nI i))]) hC dX10_seekTriple_71 rfl (nI_inc _) (by decide) rfl ?_
              refine aw_goto (tgt := 12) hC dX10_seekTriple_74 (by decide) ?_
              refine aw_forget 3 (L2 := [some (.ref 8), some (.int (nI k)), some (.int (nI (j + 1))), none]) rfl ?_
              exact ihJ (by omega) K hK (g3j.step (by have e9 : i = j := (by omega); rw [e9] at g3i; exact g3i))
            · show AW X 0 0 24 [some (.ref 8), some (.int (nI k)), some (.int (nI j)), some (.int (nI i))] [] T I (a_ur J 15 K) R
              have h3n : ¬ j ≤ i := fun q9 => h3 ((nI_leI (a := j) (b := i) (by omega) (by omega)).mpr q9)
              refine aw_aload_n hC dX10_seekTriple_24 rfl ?_
              refine aw_iload_n hC dX10_seekTriple_25 rfl ?_
              refine aw_iload_n hC dX10_seekTriple_26 rfl ?_
              refine aw_iload_n hC dX10_seekTriple_27 rfl ?_
              refine kX10_193 hC rfl (m_X10_isChain (I := I) hT hR (i := i) (j := j) (k := k) (by omega) (by omega) (by omega)) dX10_seekTriple_28 (tg_8 hT) rfl a_le a_le a_le a_le a_le rfl aPure_x (aPure_k ?_)
              show AW X 0 0 31 [some (.ref 8), some (.int (nI k)), some (.int (nI j)), some (.int (nI i))] [.int (bI (decide (chn I i j k)))] T I (a_ur J 15 K) R
              refine aw_if_eq (tgt := 65) hC dX10_seekTriple_31 (by decide) (fun h4 => ?_) (fun h4 => ?_)
              · show AW X 0 0 65 [some (.ref 8), some (.int (nI k)), some (.int (nI j)), some (.int (nI i))] [] T I (a_ur J 15 K) R
                refine aw_iinc (v := nI (i + 1)) (L2 := [some (.ref 8), some (.int (nI k)), some (.int (nI j)), some (.int (nI (i + 1)))]) hC dX10_seekTriple_65 rfl (nI_inc _) (by decide) rfl ?_
                refine aw_goto (tgt := 19) hC dX10_seekTriple_68 (by decide) ?_
                exact ihI (by omega) K hK (g3i.step (FS_chn hS hU (by omega) (by omega) (by omega) g1 g2 (bI_d0.mp (by assumption))))
              · show AW X 0 0 34 [some (.ref 8), some (.int (nI k)), some (.int (nI j)), some (.int (nI i))] [] T I (a_ur J 15 K) R
                refine aw_aload_n hC dX10_seekTriple_34 rfl ?_
                refine aw_iload_n hC dX10_seekTriple_35 rfl ?_
                refine aw_iload_n hC dX10_seekTriple_36 rfl ?_
                refine aw_iload_n hC dX10_seekTriple_37 rfl ?_
                refine kX10_183 hC rfl (m_X10_isClash (I := I) (J := a_ur J 15 K) hT hR hStU hS hU.rf (by rw [a_ur_self]; exact hK) (i := i) (j := j) (k := k) (by omega) (by omega) (by omega) hcn) dX10_seekTriple_38 (tg_8 hT) rfl a_le a_le a_le a_le a_le rfl aRelV_x (aRelV_k (fun v9 I9 J9 hQ => ?_))
                obtain ⟨e9, S, eJ9, hA, ev9⟩ := hQ
                rw [ev9, e9, eJ9, show a_ur (a_ur J 15 K) 15 S = a_ur J 15 S from a_ur_2]
                show AW X 0 0 41 [some (.ref 8), some (.int (nI k)), some (.int (nI j)), some (.int (nI i))] [.int (bI (anyB (fun j => decide (S j = 0)) 10))] T I (a_ur J 15 S) R
                refine aw_if_eq (tgt := 65) hC dX10_seekTriple_41 (by decide) (fun h5 => ?_) (fun h5 => ?_)
                · show AW X 0 0 65 [some (.ref 8), some (.int (nI k)), some (.int (nI j)), some (.int (nI i))] [] T I (a_ur J 15 S) R
                  refine aw_iinc (v := nI (i + 1)) (L2 := [some (.ref 8), some (.int (nI k)), some (.int (nI j)), some (.int (nI (i + 1)))]) hC dX10_seekTriple_65 rfl (nI_inc _) (by decide) rfl ?_
                  refine aw_goto (tgt := 19) hC dX10_seekTriple_68 (by decide) ?_
                  exact ihI (by omega) S (FixA_z hA) (g3i.step ⟨S, hA, bI_e0.mp (by assumption)⟩)
                · show AW X 0 0 44 [some (.ref 8), some (.int (nI k)), some (.int (nI j)), some (.int (nI i))] [] T I (a_ur J 15 S) R
                  refine aw_aload_n hC dX10_seekTriple_44 rfl ?_
                  refine aw_getR hC dX10_seekTriple_45 aF_X10_34 rfl (tg_8 hT) (pr_8_8 hR) ?_
                  refine aw_iload_n hC dX10_seekTriple_48 rfl ?_
                  refine aw_iaload_k (j := i) hC dX10_seekTriple_49 (tg_17 hT) (nI_clamp (by omega)) (vp_in_nI (by omega) (by decide)) ?_
                  rw [(hU.bt (by omega))]
                  refine aw_aload_n hC dX10_seekTriple_50 rfl ?_
                  refine aw_getR hC dX10_seekTriple_51 aF_X10_34 rfl (tg_8 hT) (pr_8_8 hR) ?_
                  refine aw_iload_n hC dX10_seekTriple_54 rfl ?_
                  refine aw_iaload_k (j := j) hC dX10_seekTriple_55 (tg_17 hT) (nI_clamp (by omega)) (vp_in_nI (by omega) (by decide)) ?_
                  rw [(hU.bt (by omega))]
                  refine aw_ior hC dX10_seekTriple_56 ?_
                  refine aw_aload_n hC dX10_seekTriple_57 rfl ?_
                  refine aw_getR hC dX10_seekTriple_58 aF_X10_34 rfl (tg_8 hT) (pr_8_8 hR) ?_
                  refine aw_iload_n hC dX10_seekTriple_61 rfl ?_
                  refine aw_iaload_k (j := k) hC dX10_seekTriple_62 (tg_17 hT) (nI_clamp (by omega)) (vp_in_nI (by omega) (by decide)) ?_
                  rw [(hU.bt (by omega))]
                  refine aw_ior hC dX10_seekTriple_63 ?_
                  exact aw_ireturn hC hq rfl dX10_seekTriple_64 a_le a_le ⟨_, rfl, rfl, rfl, rfl, S, FixA_z hA, rfl, congrArg (fun z => some (Value.int z)) (cf_3 hn9 hU.l (by omega) (by omega) (by omega) g1 g2 g3 g3j g3i (by rw [← cfl_eq hA]; exact bI_n0.mp (by assumption))).symm⟩
          exact loopI 0 (Nat.zero_le _) K hK (fun i hi => absurd hi (by omega))
      exact loopJ 0 (Nat.zero_le _) K hK (fun j hj => absurd hj (by omega))
  exact loopK 0 (Nat.zero_le _) (J 15) hz (fun k hk => absurd hk (by omega))
set_option maxRecDepth 100000 in
theorem m_X10_seekConflict {T : List aT} {I : aI} {J : aJ} {R : aR} (hT : aPT T) (hR : aPR R) {m : aI} {n : Nat} {sq : Nat → Nat} (hSt : CSt T I R m n sq) (hS : SW m n) {P : Nat → Int64} (hCn : CCn I m P n sq) (hz : ∀ j, 10 ≤ j → J 15 j = 0) : MX10_seekConflict 0 0 [.ref 8] T I J R (aRelT (fun v9 T2 I2 J2 R2 => v9 = some (.int (cfV (NN m P n) n)) ∧ T2 = T ∧ SUF I I2 ∧ (∀ a p, a ≠ 16 → R2 a p = R a p) ∧ aPR R2 ∧ ∃ K, (∀ j, 10 ≤ j → K j = 0) ∧ J2 = a_ur J 15 K)) := by
  refine a_met (by decide +kernel) a_le (fun X hC hq => ?_)
  show AW X 0 0 0 [some (.ref 8), none, none] [] T I J R
  refine aw_aload_n hC dX10_seekConflict_0 rfl ?_
  refine kX10_177 hC rfl (m_X10_findSuspects (I := I) (J := J) hT hR hSt hS hCn) dX10_seekConflict_1 (tg_8 hT) rfl a_le a_le a_le a_le a_le rfl aRelT_x (aRelT_k (fun v9 T9 I1 J9 R1 hp9 hQ => ?_))
  obtain ⟨ev9, eT9, eJ9, c, l, hU, hF, hFR, hR1⟩ := hQ
  rw [ev9, eT9, eJ9]
  have hz9 : ∀ s, s < n → 44 ≤ sq s := fun s hs => hSt.ge hT hs
  have hn9 := hS.n30
  have hcn : c ≤ n := hU.2.1
  have hStU : CSt T I1 R1 m n sq := (hSt.cg (hF 1 1 (by decide) (by decide) (fun q => absurd q.1 (by decide))) (fun s hs p _ => hF (sq s) p (by have := hz9 s hs; omega) (by have := hz9 s hs; omega) (fun q => by have := hz9 s hs; omega))).cgR (fun s hs => hFR 2 s (by decide))
  show AW X 0 0 4 [some (.ref 8), none, none] [] T I1 J R1
  refine aw_iconst (v := 0) hC dX10_seekConflict_4 (by decide) ?_
  refine aw_istore_n (L2 := [some (.ref 8), some (.int 0), none]) hC dX10_seekConflict_5 rfl (by decide) rfl ?_
  refine aw_setJ (J2 := a_ur J 15 (J 15)) (a_ur_id (fun _ => rfl)).symm ?_
  have loop1 : ∀ i, i ≤ c → ∀ K : Nat → Int64, (∀ j, 10 ≤ j → K j = 0) → G1 m n l i → AW X 0 0 6 [some (.ref 8), some (.int (nI i)), none] [] T I1 (a_ur J 15 K) R1 := by
    refine a_down c (fun i hk_i ih1 => ?_)
    intro K hK g1
    refine aw_iload_n hC dX10_seekConflict_6 rfl ?_
    refine aw_aload_n hC dX10_seekConflict_7 rfl ?_
    refine aw_getI hC dX10_seekConflict_8 aF_X10_180 rfl (tg_8 hT) ?_
    rw [hU.1]
    refine aw_icmp_ge (tgt := 37) hC dX10_seekConflict_11 (by decide) (fun h1 => ?_) (fun h1 => ?_)
    · show AW X 0 0 37 [some (.ref 8), some (.int (nI i)), none] [] T I1 (a_ur J 15 K) R1
      have h1n : c ≤ i := (nI_leI (a := c) (b := i) (by omega) (by omega)).mp h1
      refine aw_iconst (v := 0) hC dX10_seekConflict_37 (by decide) ?_
      refine aw_istore_n (L2 := [some (.ref 8), some (.int 0), none]) hC dX10_seekConflict_38 rfl (by decide) rfl ?_
      have e9 : i = c := by omega
      rw [e9] at g1
      have loop2 : ∀ j, j ≤ c → ∀ K : Nat → Int64, (∀ j, 10 ≤ j → K j = 0) → G2 m n l j → AW X 0 0 39 [some (.ref 8), some (.int (nI j)), none] [] T I1 (a_ur J 15 K) R1 := by
        refine a_down c (fun j hk_j ih2 => ?_)
        intro K hK g2
        refine aw_iload_n hC dX10_seekConflict_39 rfl ?_
        refine aw_aload_n hC dX10_seekConflict_40 rfl ?_
        refine aw_getI hC dX10_seekConflict_41 aF_X10_180 rfl (tg_8 hT) ?_
        rw [hU.1]
        refine aw_icmp_ge (tgt := 99) hC dX10_seekConflict_44 (by decide) (fun h2 => ?_) (fun h2 => ?_)
        · show AW X 0 0 99 [some (.ref 8), some (.int (nI j)), none] [] T I1 (a_ur J 15 K) R1
          have h2n : c ≤ j := (nI_leI (a := c) (b := j) (by omega) (by omega)).mp h2
          refine aw_aload_n hC dX10_seekConflict_99 rfl ?_
          refine kX10_190 hC rfl (m_X10_seekTriple (I := I1) (J := a_ur J 15 K) hT hR1 hStU hS hU (by rw [a_ur_self]; exact hK) g1 (by have e9 : j = c := (by omega); rw [e9] at g2; exact g2)) dX10_seekConflict_100 (tg_8 hT) rfl a_le a_le a_le a_le a_le rfl aRelV_x (aRelV_k (fun v9 I9 J9 hQ => ?_))
          obtain ⟨e9, K9, hK9, eJ9, ev9⟩ := hQ
          rw [ev9, e9, eJ9, show a_ur (a_ur J 15 K) 15 K9 = a_ur J 15 K9 from a_ur_2]
          show AW X 0 0 103 [some (.ref 8), some (.int (nI j)), none] [.int (cfV (NN m P n) n)] T I1 (a_ur J 15 K9) R1
          exact aw_ireturn hC hq rfl dX10_seekConflict_103 a_le a_le ⟨_, rfl, rfl, rfl, hF, hFR, hR1, K9, hK9, rfl⟩
        · show AW X 0 0 47 [some (.ref 8), some (.int (nI j)), none] [] T I1 (a_ur J 15 K) R1
          have h2n : ¬ c ≤ j := fun q9 => h2 ((nI_leI (a := c) (b := j) (by omega) (by omega)).mpr q9)
          refine aw_iconst (v := 0) hC dX10_seekConflict_47 (by decide) ?_
          refine aw_istore_n (L2 := [some (.ref 8), some (.int (nI j)), some (.int 0)]) hC dX10_seekConflict_48 rfl (by decide) rfl ?_
          have loopI : ∀ i2, i2 ≤ j → ∀ K : Nat → Int64, (∀ j, 10 ≤ j → K j = 0) → G2i m n l j i2 → AW X 0 0 49 [some (.ref 8), some (.int (nI j)), some (.int (nI i2))] [] T I1 (a_ur J 15 K) R1 := by
            refine a_down j (fun i2 hk_i ihI => ?_)
            intro K hK g2i
            refine aw_iload_n hC dX10_seekConflict_49 rfl ?_
            refine aw_iload_n hC dX10_seekConflict_50 rfl ?_
            refine aw_icmp_ge (tgt := 93) hC dX10_seekConflict_51 (by decide) (fun h3 => ?_) (fun h3 => ?_)
            · show AW X 0 0 93 [some (.ref 8), some (.int (nI j)), some (.int (nI i2))] [] T I1 (a_ur J 15 K) R1
              have h3n : j ≤ i2 := (nI_leI (a := j) (b := i2) (by omega) (by omega)).mp h3
              refine aw_iinc (v := nI (j + 1)) (L2 := [some (.ref 8), some (.int (nI (j + 1))), some (.int (nI i2))]) hC dX10_seekConflict_93 rfl (nI_inc _) (by decide) rfl ?_
              refine aw_goto (tgt := 39) hC dX10_seekConflict_96 (by decide) ?_
              refine aw_forget 2 (L2 := [some (.ref 8), some (.int (nI (j + 1))), none]) rfl ?_
              exact ih2 (by omega) K hK (g2.step (by have e9 : i2 = j := (by omega); rw [e9] at g2i; exact g2i))
            · show AW X 0 0 54 [some (.ref 8), some (.int (nI j)), some (.int (nI i2))] [] T I1 (a_ur J 15 K) R1
              have h3n : ¬ j ≤ i2 := fun q9 => h3 ((nI_leI (a := j) (b := i2) (by omega) (by omega)).mpr q9)
              refine aw_aload_n hC dX10_seekConflict_54 rfl ?_
              refine aw_iload_n hC dX10_seekConflict_55 rfl ?_
              refine aw_iload_n hC dX10_seekConflict_56 rfl ?_
              refine kX10_187 hC rfl (m_X10_isJoined (I := I1) hT hR1 (i := i2) (j := j) (by omega) (by omega)) dX10_seekConflict_57 (tg_8 hT) rfl a_le a_le a_le a_le a_le rfl aPure_x (aPure_k ?_)
              show AW X 0 0 60 [some (.ref 8), some (.int (nI j)), some (.int (nI i2))] [.int (bI (decide (I1 18 i2 &&& I1 18 j ≠ 0)))] T I1 (a_ur J 15 K) R1
              refine aw_if_eq (tgt := 87) hC dX10_seekConflict_60 (by decide) (fun h4 => ?_) (fun h4 => ?_)
              · show AW X 0 0 87 [some (.ref 8), some (.int (nI j)), some (.int (nI i2))] [] T I1 (a_ur J 15 K) R1
                refine aw_iinc (v := nI (i2 + 1)) (L2 := [some (.ref 8), some (.int (nI j)), some (.int (nI (i2 + 1)))]) hC dX10_seekConflict_87 rfl (nI_inc _) (by decide) rfl ?_
                refine aw_goto (tgt := 49) hC dX10_seekConflict_90 (by decide) ?_
                exact ihI (by omega) K hK (g2i.step (FS_pair hS (hU.rf i2 (by omega)).1 (hU.rf j (by omega)).1 (by rw [← hU.tb (i := i2) (by omega), ← hU.tb (i := j) (by omega)]; exact Classical.not_not.mp (bI_d0.mp (by assumption))) (g1 i2 (by omega)) (g1 j (by omega))))
              · show AW X 0 0 63 [some (.ref 8), some (.int (nI j)), some (.int (nI i2))] [] T I1 (a_ur J 15 K) R1
                refine aw_aload_n hC dX10_seekConflict_63 rfl ?_
                refine aw_iload_n hC dX10_seekConflict_64 rfl ?_
                refine aw_iload_n hC dX10_seekConflict_65 rfl ?_
                refine aw_iload_n hC dX10_seekConflict_66 rfl ?_
                refine kX10_183 hC rfl (m_X10_isClash (I := I1) (J := a_ur J 15 K) hT hR1 hStU hS hU.rf (by rw [a_ur_self]; exact hK) (i := i2) (j := j) (k := j) (by omega) (by omega) (by omega) hcn) dX10_seekConflict_67 (tg_8 hT) rfl a_le a_le a_le a_le a_le rfl aRelV_x (aRelV_k (fun v9 I9 J9 hQ => ?_))
                obtain ⟨e9, S, eJ9, hA, ev9⟩ := hQ
                rw [ev9, e9, eJ9, show a_ur (a_ur J 15 K) 15 S = a_ur J 15 S from a_ur_2]
                show AW X 0 0 70 [some (.ref 8), some (.int (nI j)), some (.int (nI i2))] [.int (bI (anyB (fun j => decide (S j = 0)) 10))] T I1 (a_ur J 15 S) R1
                refine aw_if_eq (tgt := 87) hC dX10_seekConflict_70 (by decide) (fun h5 => ?_) (fun h5 => ?_)
                · show AW X 0 0 87 [some (.ref 8), some (.int (nI j)), some (.int (nI i2))] [] T I1 (a_ur J 15 S) R1
                  refine aw_iinc (v := nI (i2 + 1)) (L2 := [some (.ref 8), some (.int (nI j)), some (.int (nI (i2 + 1)))]) hC dX10_seekConflict_87 rfl (nI_inc _) (by decide) rfl ?_
                  refine aw_goto (tgt := 49) hC dX10_seekConflict_90 (by decide) ?_
                  exact ihI (by omega) S (FixA_z hA) (g2i.step ⟨S, hA, bI_e0.mp (by assumption)⟩)
                · show AW X 0 0 73 [some (.ref 8), some (.int (nI j)), some (.int (nI i2))] [] T I1 (a_ur J 15 S) R1
                  refine aw_aload_n hC dX10_seekConflict_73 rfl ?_
                  refine aw_getR hC dX10_seekConflict_74 aF_X10_34 rfl (tg_8 hT) (pr_8_8 hR1) ?_
                  refine aw_iload_n hC dX10_seekConflict_77 rfl ?_
                  refine aw_iaload_k (j := i2) hC dX10_seekConflict_78 (tg_17 hT) (nI_clamp (by omega)) (vp_in_nI (by omega) (by decide)) ?_
                  rw [(hU.bt (by omega))]
                  refine aw_aload_n hC dX10_seekConflict_79 rfl ?_
                  refine aw_getR hC dX10_seekConflict_80 aF_X10_34 rfl (tg_8 hT) (pr_8_8 hR1) ?_
                  refine aw_iload_n hC dX10_seekConflict_83 rfl ?_
                  refine aw_iaload_k (j := j) hC dX10_seekConflict_84 (tg_17 hT) (nI_clamp (by omega)) (vp_in_nI (by omega) (by decide)) ?_
                  rw [(hU.bt (by omega))]
                  refine aw_ior hC dX10_seekConflict_85 ?_
                  exact aw_ireturn hC hq rfl dX10_seekConflict_86 a_le a_le ⟨_, rfl, congrArg (fun z => some (Value.int z)) (cf_2 hn9 hU.l (by omega) (by omega) g1 g2 g2i (by rw [← cfl_eq hA]; exact bI_n0.mp (by assumption))).symm, rfl, hF, hFR, hR1, S, FixA_z hA, rfl⟩
          exact loopI 0 (Nat.zero_le _) K hK (fun i hi => absurd hi (by omega))
      exact loop2 0 (Nat.zero_le _) K hK (fun j hj => absurd hj (by omega))
    · show AW X 0 0 14 [some (.ref 8), some (.int (nI i)), none] [] T I1 (a_ur J 15 K) R1
      have h1n : ¬ c ≤ i := fun q9 => h1 ((nI_leI (a := c) (b := i) (by omega) (by omega)).mpr q9)
      refine aw_aload_n hC dX10_seekConflict_14 rfl ?_
      refine aw_iload_n hC dX10_seekConflict_15 rfl ?_
      refine aw_iload_n hC dX10_seekConflict_16 rfl ?_
      refine aw_iload_n hC dX10_seekConflict_17 rfl ?_
      refine kX10_183 hC rfl (m_X10_isClash (I := I1) (J := a_ur J 15 K) hT hR1 hStU hS hU.rf (by rw [a_ur_self]; exact hK) (i := i) (j := i) (k := i) (by omega) (by omega) (by omega) hcn) dX10_seekConflict_18 (tg_8 hT) rfl a_le a_le a_le a_le a_le rfl aRelV_x (aRelV_k (fun v9 I9 J9 hQ => ?_))
      obtain ⟨e9, S, eJ9, hA, ev9⟩ := hQ
      rw [ev9, e9, eJ9, show a_ur (a_ur J 15 K) 15 S = a_ur J 15 S from a_ur_2]
      show AW X 0 0 21 [some (.ref 8), some (.int (nI i)), none] [.int (bI (anyB (fun j => decide (S j = 0)) 10))] T I1 (a_ur J 15 S) R1
      refine aw_if_eq (tgt := 31) hC dX10_seekConflict_21 (by decide) (fun h6 => ?_) (fun h6 => ?_)
      · show AW X 0 0 31 [some (.ref 8), some (.int (nI i)), none] [] T I1 (a_ur J 15 S) R1
        refine aw_iinc (v := nI (i + 1)) (L2 := [some (.ref 8), some (.int (nI (i + 1))), none]) hC dX10_seekConflict_31 rfl (nI_inc _) (by decide) rfl ?_
        refine aw_goto (tgt := 6) hC dX10_seekConflict_34 (by decide) ?_
        exact ih1 (by omega) S (FixA_z hA) (g1.step ⟨S, hA, bI_e0.mp (by assumption)⟩)
      · show AW X 0 0 24 [some (.ref 8), some (.int (nI i)), none] [] T I1 (a_ur J 15 S) R1
        refine aw_aload_n hC dX10_seekConflict_24 rfl ?_
        refine aw_getR hC dX10_seekConflict_25 aF_X10_34 rfl (tg_8 hT) (pr_8_8 hR1) ?_
        refine aw_iload_n hC dX10_seekConflict_28 rfl ?_
        refine aw_iaload_k (j := i) hC dX10_seekConflict_29 (tg_17 hT) (nI_clamp (by omega)) (vp_in_nI (by omega) (by decide)) ?_
        rw [(hU.bt (by omega))]
        exact aw_ireturn hC hq rfl dX10_seekConflict_30 a_le a_le ⟨_, rfl, congrArg (fun z => some (Value.int z)) (cf_1 hn9 hU.l (by omega) g1 (by rw [← cfl_eq hA]; exact bI_n0.mp (by assumption))).symm, rfl, hF, hFR, hR1, S, FixA_z hA, rfl⟩
  exact loop1 0 (Nat.zero_le _) (J 15) hz (fun i hi => absurd hi (by omega))
