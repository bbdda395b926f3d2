abbrev LCF (I I2 : aI) : Prop := ∀ a p, a ≠ 17 → a ≠ 18 → ¬ (a = 8 ∧ (p = 10 ∨ p = 12 ∨ p = 13)) → I2 a p = I a p
set_option maxRecDepth 100000 in
theorem m_X10_leastConflict {T : List aT} {I : aI} {J : aJ} {R : aR} (hT : aPT T) (hR : aPR R) {m : aI} {n : Nat} {sq : Nat → Nat} (hSt : CSt T I R m n sq) (hS : SW m n) {P : Nat → Int64} (hCn : CCn I m P n sq) (hz : ∀ j, 10 ≤ j → J 15 j = 0) (h2c : I 8 2 = m 44 57) (hcf : I 8 12 = 0 ∨ (I 8 12 = 1 ∧ I 8 13 = cfA m P n)) : MX10_leastConflict 0 0 [.ref 8] T I J R (aRelT (fun v9 T2 I2 J2 R2 => v9 = some (.int (cfA m P n)) ∧ T2 = T ∧ LCF I I2 ∧ (∀ a p, a ≠ 16 → R2 a p = R a p) ∧ aPR R2 ∧ ∃ K, (∀ j, 10 ≤ j → K j = 0) ∧ J2 = a_ur J 15 K ∧ I2 8 12 = 1 ∧ I2 8 13 = cfA m P n)) := by
  refine a_met (by decide +kernel) a_le (fun X hC hq => ?_)
  show AW X 0 0 0 [some (.ref 8)] [] T I J R
  refine aw_aload_n hC dX10_leastConflict_0 rfl ?_
  refine aw_getI hC dX10_leastConflict_1 aF_X10_94 rfl (tg_8 hT) ?_
  refine aw_if_ne (tgt := 31) hC dX10_leastConflict_4 (by decide) (fun h1 => ?_) (fun h1 => ?_)
  · show AW X 0 0 31 [some (.ref 8)] [] T I J R
    refine aw_aload_n hC dX10_leastConflict_31 rfl ?_
    refine aw_getI hC dX10_leastConflict_32 aF_X10_174 rfl (tg_8 hT) ?_
    exact aw_ireturn hC hq rfl dX10_leastConflict_35 a_le a_le (by rcases hcf with q | q; (exact absurd q (by assumption)); exact ⟨_, rfl, by rw [q.2], rfl, fun _ _ _ _ _ => rfl, fun _ _ _ => rfl, hR, J 15, hz, (a_ur_id (fun _ => rfl)).symm, q.1, q.2⟩)
  · show AW X 0 0 7 [some (.ref 8)] [] T I J R
    refine aw_aload_n hC dX10_leastConflict_7 rfl ?_
    refine aw_aload_n hC dX10_leastConflict_8 rfl ?_
    refine aw_getI hC dX10_leastConflict_9 aF_X10_78 rfl (tg_8 hT) ?_
    rw [h2c]
    refine aw_if_eq (tgt := 22) hC dX10_leastConflict_12 (by decide) (fun h2 => ?_) (fun h2 => ?_)
    · show AW X 0 0 22 [some (.ref 8)] [.ref 8] T I J R
      refine aw_iconst (v := 0) hC dX10_leastConflict_22 (by decide) ?_
      refine aw_putI hC dX10_leastConflict_23 aF_X10_174 rfl rfl (tg_8 hT) ?_
      refine aw_aload_n hC dX10_leastConflict_26 rfl ?_
      refine aw_iconst (v := 1) hC dX10_leastConflict_27 (by decide) ?_
      refine aw_putZ hC dX10_leastConflict_28 aF_X10_94 rfl rfl (tg_8 hT) (Or.inr rfl) ?_
      refine aw_aload_n hC dX10_leastConflict_31 rfl ?_
      refine aw_getI hC dX10_leastConflict_32 aF_X10_174 rfl (tg_8 hT) ?_
      rw [a_u_ne (f := a_u I 8 13 0) (o := 8) (k := 12) (a := 8) (b := 13) (v := 1) (fun q => absurd q.2 (by decide))]
      rw [a_u_self (f := I) (o := 8) (k := 13) (v := 0)]
      exact aw_ireturn hC hq rfl dX10_leastConflict_35 a_le a_le ⟨_, rfl, congrArg (fun z => some (Value.int z)) (show cfA m P n = 0 from by unfold cfA; rw [if_pos (by assumption)]).symm, rfl, fun a p h1 h2 h3 => by rw [a_u_ne (fun q => h3 (by omega)), a_u_ne (fun q => h3 (by omega))], fun _ _ _ => rfl, hR, J 15, hz, (a_ur_id (fun _ => rfl)).symm, by rw [a_u_self], by rw [a_u_ne (by decide), a_u_self]; exact (show cfA m P n = 0 from by unfold cfA; rw [if_pos (by assumption)]).symm⟩
    · show AW X 0 0 15 [some (.ref 8)] [.ref 8] T I J R
      refine aw_aload_n hC dX10_leastConflict_15 rfl ?_
      refine kX10_171 hC rfl (m_X10_seekConflict (I := I) (J := J) hT hR hSt hS hCn hz) dX10_leastConflict_16 (tg_8 hT) rfl a_le a_le a_le a_le a_le rfl aRelT_x (aRelT_k (fun v9 T9 I1 J9 R1 hp9 hQ => ?_))
      obtain ⟨ev9, eT9, hF, hFR, hR1, K, hK, eJ9⟩ := hQ
      rw [ev9, eT9, eJ9]
      show AW X 0 0 19 [some (.ref 8)] [.int (cfV (NN m P n) n), .ref 8] T I1 (a_ur J 15 K) R1
      refine aw_goto (tgt := 23) hC dX10_leastConflict_19 (by decide) ?_
      refine aw_putI hC dX10_leastConflict_23 aF_X10_174 rfl rfl (tg_8 hT) ?_
      refine aw_aload_n hC dX10_leastConflict_26 rfl ?_
      refine aw_iconst (v := 1) hC dX10_leastConflict_27 (by decide) ?_
      refine aw_putZ hC dX10_leastConflict_28 aF_X10_94 rfl rfl (tg_8 hT) (Or.inr rfl) ?_
      refine aw_aload_n hC dX10_leastConflict_31 rfl ?_
      refine aw_getI hC dX10_leastConflict_32 aF_X10_174 rfl (tg_8 hT) ?_
      rw [a_u_ne (f := a_u I1 8 13 (cfV (NN m P n) n)) (o := 8) (k := 12) (a := 8) (b := 13) (v := 1) (fun q => absurd q.2 (by decide))]
      rw [a_u_self (f := I1) (o := 8) (k := 13) (v := cfV (NN m P n) n)]
      exact aw_ireturn hC hq rfl dX10_leastConflict_35 a_le a_le ⟨_, rfl, congrArg (fun z => some (Value.int z)) (show cfA m P n = cfV (NN m P n) n from by unfold cfA; rw [if_neg (by assumption)]).symm, rfl, fun a p h1 h2 h3 => by rw [a_u_ne (fun q => h3 (by omega)), a_u_ne (fun q => h3 (by omega))]; exact hF a p h1 h2 (fun q => h3 (by omega)), hFR, hR1, K, hK, rfl, by rw [a_u_self], by rw [a_u_ne (by decide), a_u_self]; exact (show cfA m P n = cfV (NN m P n) n from by unfold cfA; rw [if_neg (by assumption)]).symm⟩
