theorem GI.hT {T : List aT} {I : aI} {J : aJ} {R : aR} {m : aI} {c : Nat} (h : GI T I J R m c) : aPT T := by
  obtain ⟨n, sq, g, gq, eq, r, p, pq, k, h⟩ := h; exact h.hT
theorem GI.hR {T : List aT} {I : aI} {J : aJ} {R : aR} {m : aI} {c : Nat} (h : GI T I J R m c) : aPR R := by
  obtain ⟨n, sq, g, gq, eq, r, p, pq, k, h⟩ := h; exact h.hR
/-- what a wrapper leaves: k, and in the law's row the answer -/
def LwP (I : aI) (J : aJ) (c : Nat) (Sp : Nat → Int32 → aI → Prop) : aP := fun o T2 I2 J2 R2 => ∃ k v m2, o = .inl (some (.int (nI k))) ∧ k ≤ 3 ∧ Sp k v m2 ∧ GI T2 I2 J2 R2 m2 (c + 1) ∧ (∀ o, 44 ≤ o → o < 95 → I2 o = I o) ∧ (∀ o, 44 ≤ o → o < 94 → J2 o = J o) ∧ (k = 0 → J2 94 0 = v.toInt64)
theorem LwP.th {I I2 : aI} {J J2 : aJ} {m : aI} {c k : Nat} {Sp : Nat → Int32 → aI → Prop} {T2 : List aT} {R2 : aR} {v : Int32} (hv : v = nI (k + 1)) (hk : k < 3) (hf : MFr I I2 J J2) (hs : Sp (k + 1) 0 m) (hg : GI T2 I2 J2 R2 m (c + 1)) : LwP I J c Sp (.inl (some (.int v))) T2 I2 J2 R2 := ⟨k + 1, 0, m, by rw [hv], by omega, hs, hg, fun o a b => (hf o a b).1, fun o a b => (hf o a (by omega)).2, fun z => absurd z (by omega)⟩
theorem LwP.ok {I I2 : aI} {J J2 : aJ} {m2 : aI} {c : Nat} {Sp : Nat → Int32 → aI → Prop} {T2 : List aT} {R2 : aR} {v : Int32} {l : Int64} (hf : MFr I I2 J J2) (hs : Sp 0 v m2) (hg : GI T2 I2 J2 R2 m2 (c + 1)) (hl : l = v.toInt64) : LwP I J c Sp (.inl (some (.int 0))) T2 I2 (a_u J2 94 0 l) R2 := ⟨0, v, m2, rfl, by omega, hs, hg.fr (List.prefix_refl _) (fun _ _ _ => rfl) (fun o a => a_u_row (by omega)) (fun _ _ _ => rfl) hg.hR, fun o a b => (hf o a b).1, fun o a b => by rw [a_u_row (by omega)]; exact (hf o a (by omega)).2, fun _ => by rw [a_u_self]; exact hl⟩
/-- the same where nothing is answered -/
def CPv (ex : List String) (I : aI) (J : aJ) (m : aI) (c : Nat) (Sp : Nat → Int32 → aI → Prop) : aP := fun o T2 I2 J2 R2 => MFr I I2 J J2 ∧ ((∃ m2, o = .inl none ∧ Sp 0 0 m2 ∧ GI T2 I2 J2 R2 m2 (c + 1)) ∨ (∃ j E, ex[j]? = some E ∧ o = .inr E ∧ Sp (j + 1) 0 m ∧ GI T2 I2 J2 R2 m (c + 1)))
def LwPv (I : aI) (J : aJ) (c : Nat) (Sp : Nat → Int32 → aI → Prop) : aP := fun o T2 I2 J2 R2 => ∃ k m2, o = .inl (some (.int (nI k))) ∧ k ≤ 3 ∧ Sp k 0 m2 ∧ GI T2 I2 J2 R2 m2 (c + 1) ∧ (∀ o, 44 ≤ o → o < 95 → I2 o = I o) ∧ ∀ o, 44 ≤ o → o < 94 → J2 o = J o
set_option maxRecDepth 100000 in
theorem m_L_action {T : List aT} {I : aI} {J : aJ} {R : aR} {m : aI} {c : Nat} (hT : aPT T) (x0 x1 : Int32) {Sp : Nat → Int32 → aI → Prop} (hM : MX11_action 3 200 [.ref 0, .int x0, .int x1] T I J R (CP [exI] I J m c Sp)) : ML_action 3 200 [.ref 0, .int x0, .int x1, .ref 94] T I J R (LwP I J c Sp) := by
  refine a_metW (by decide +kernel) a_le (fun X hC hq => ?_)
  show AW X 0 0 0 [some (.ref 0), some (.int x0), some (.int x1), some (.ref 94), none] [] T I J R
  refine aw_aload_n hC dL_action_0 rfl ?_
  refine aw_iconst (v := 0) hC dL_action_1 (by decide) ?_
  refine aw_aload_n hC dL_action_2 rfl ?_
  refine aw_iload_n hC dL_action_3 rfl ?_
  refine aw_iload_n hC dL_action_4 rfl ?_
  refine kL_86 hC rfl hM dL_action_5 (tg_0 hT) rfl a_le a_le a_le a_le a_le rfl (fun E9 T9 I9 J9 R9 hp9 hQ => ?_) (fun v9 T9 I9 J9 R9 hp9 hQ => ?_)
  · rcases hQ with ⟨hf, ⟨v, m2, e1, hs, hg⟩ | ⟨j, E, hj, e1, hs, hg⟩⟩
    · cases e1
    · cases e1
      rcases j with _ | j
      · cases hj
        refine ae_catch hC [] ⟨0, 10, 13, 13⟩ [] rfl (by simp) (fun z hz => nomatch hz) (by decide) (by decide) gW_L_13 (i := 4) (len := 2) (L2 := [some (.ref 0), some (.int x0), some (.int x1), some (.ref 94), none]) (Or.inl ⟨dL_action_13, rfl⟩) (by decide) rfl ?_
        show AW X (0 + 3) (0 + 200) 15 [some (.ref 0), some (.int x0), some (.int x1), some (.ref 94), none] [] T9 I9 J9 R9
        refine aw_iconst (v := 1) hC dL_action_15 (by decide) ?_
        exact aw_ireturn hC hq rfl dL_action_16 a_le a_le (LwP.th (k := 0) (by decide) (by decide) hf hs hg)
      · cases hj
  · rcases hQ with ⟨hf, ⟨v, m2, e1, hs, hg⟩ | ⟨j, E, hj, e1, hs, hg⟩⟩
    · cases e1
      have hR9 := hg.hR
      show AW X (0 + 3) (0 + 200) 8 [some (.ref 0), some (.int x0), some (.int x1), some (.ref 94), none] [.int v, .int 0, .ref 94] T9 I9 J9 R9
      refine aw_i2l hC dL_action_8 ?_
      refine aw_lastore_k (j := 0) hC dL_action_9 (tg_94 (hT.next hp9)) (by decide) (by unfold vp_in; decide) ?_
      refine aw_goto (tgt := 17) hC dL_action_10 (by decide) ?_
      refine aw_iconst (v := 0) hC dL_action_17 (by decide) ?_
      exact aw_ireturn hC hq rfl dL_action_18 a_le a_le (LwP.ok hf hs hg rfl)
    · cases e1
set_option maxRecDepth 100000 in
theorem m_L_apply {T : List aT} {I : aI} {J : aJ} {R : aR} {m : aI} {c : Nat} (hT : aPT T) (x0 : Int32) {Sp : Nat → Int32 → aI → Prop} (hM : MX11_apply 3 200 [.ref 0, .int x0] T I J R (CP [exI, exS] I J m c Sp)) : ML_apply 3 200 [.ref 0, .int x0, .ref 94] T I J R (LwP I J c Sp) := by
  refine a_metW (by decide +kernel) a_le (fun X hC hq => ?_)
  show AW X 0 0 0 [some (.ref 0), some (.int x0), some (.ref 94), none] [] T I J R
  refine aw_aload_n hC dL_apply_0 rfl ?_
  refine aw_iconst (v := 0) hC dL_apply_1 (by decide) ?_
  refine aw_aload_n hC dL_apply_2 rfl ?_
  refine aw_iload_n hC dL_apply_3 rfl ?_
  refine kL_100 hC rfl hM dL_apply_4 (tg_0 hT) rfl a_le a_le a_le a_le a_le rfl (fun E9 T9 I9 J9 R9 hp9 hQ => ?_) (fun v9 T9 I9 J9 R9 hp9 hQ => ?_)
  · rcases hQ with ⟨hf, ⟨v, m2, e1, hs, hg⟩ | ⟨j, E, hj, e1, hs, hg⟩⟩
    · cases e1
    · cases e1
      rcases j with _ | _ | j
      · cases hj
        refine ae_catch hC [] ⟨0, 9, 12, 13⟩ [⟨0, 9, 15, 17⟩] rfl (by simp) (fun z hz => nomatch hz) (by decide) (by decide) gW_L_13 (i := 3) (len := 1) (L2 := [some (.ref 0), some (.int x0), some (.ref 94), none]) (Or.inr ⟨3, dL_apply_12, rfl, rfl⟩) (by decide) rfl ?_
        show AW X (0 + 3) (0 + 200) 13 [some (.ref 0), some (.int x0), some (.ref 94), none] [] T9 I9 J9 R9
        refine aw_iconst (v := 1) hC dL_apply_13 (by decide) ?_
        exact aw_ireturn hC hq rfl dL_apply_14 a_le a_le (LwP.th (k := 0) (by decide) (by decide) hf hs hg)
      · cases hj
        refine ae_catch hC [⟨0, 9, 12, 13⟩] ⟨0, 9, 15, 17⟩ [] rfl (by simp) (fun z hz => by simp only [List.mem_cons, List.not_mem_nil, or_false] at hz; rcases hz with rfl; exact Or.inr ⟨by decide, exI, by simp, by decide, gW_L_13⟩) (by decide) (by decide) gW_L_17 (i := 3) (len := 1) (L2 := [some (.ref 0), some (.int x0), some (.ref 94), none]) (Or.inr ⟨3, dL_apply_15, rfl, rfl⟩) (by decide) rfl ?_
        show AW X (0 + 3) (0 + 200) 16 [some (.ref 0), some (.int x0), some (.ref 94), none] [] T9 I9 J9 R9
        refine aw_iconst (v := 2) hC dL_apply_16 (by decide) ?_
        exact aw_ireturn hC hq rfl dL_apply_17 a_le a_le (LwP.th (k := 1) (by decide) (by decide) hf hs hg)
      · cases hj
  · rcases hQ with ⟨hf, ⟨v, m2, e1, hs, hg⟩ | ⟨j, E, hj, e1, hs, hg⟩⟩
    · cases e1
      have hR9 := hg.hR
      show AW X (0 + 3) (0 + 200) 7 [some (.ref 0), some (.int x0), some (.ref 94), none] [.int v, .int 0, .ref 94] T9 I9 J9 R9
      refine aw_i2l hC dL_apply_7 ?_
      refine aw_lastore_k (j := 0) hC dL_apply_8 (tg_94 (hT.next hp9)) (by decide) (by unfold vp_in; decide) ?_
      refine aw_goto (tgt := 18) hC dL_apply_9 (by decide) ?_
      refine aw_iconst (v := 0) hC dL_apply_18 (by decide) ?_
      exact aw_ireturn hC hq rfl dL_apply_19 a_le a_le (LwP.ok hf hs hg rfl)
    · cases e1
set_option maxRecDepth 100000 in
theorem m_L_approve {T : List aT} {I : aI} {J : aJ} {R : aR} {m : aI} {c : Nat} (hT : aPT T) (x0 x1 : Int32) {Sp : Nat → Int32 → aI → Prop} (hb : ∀ v m2, Sp 0 v m2 → v = 0 ∨ v = 1) (hM : MX11_approve 3 200 [.ref 0, .int x0, .int x1] T I J R (CP [exI, exS] I J m c Sp)) : ML_approve 3 200 [.ref 0, .int x0, .int x1, .ref 94] T I J R (LwP I J c Sp) := by
  refine a_metW (by decide +kernel) a_le (fun X hC hq => ?_)
  show AW X 0 0 0 [some (.ref 0), some (.int x0), some (.int x1), some (.ref 94), none] [] T I J R
  refine aw_aload_n hC dL_approve_0 rfl ?_
  refine aw_iconst (v := 0) hC dL_approve_1 (by decide) ?_
  refine aw_aload_n hC dL_approve_2 rfl ?_
  refine aw_iload_n hC dL_approve_3 rfl ?_
  refine aw_iload_n hC dL_approve_4 rfl ?_
  refine kL_89 hC rfl hM dL_approve_5 (tg_0 hT) rfl a_le a_le a_le a_le a_le rfl (fun E9 T9 I9 J9 R9 hp9 hQ => ?_) (fun v9 T9 I9 J9 R9 hp9 hQ => ?_)
  · rcases hQ with ⟨hf, ⟨v, m2, e1, hs, hg⟩ | ⟨j, E, hj, e1, hs, hg⟩⟩
    · cases e1
    · cases e1
      rcases j with _ | _ | j
      · cases hj
        refine ae_catch hC [] ⟨0, 17, 20, 13⟩ [⟨0, 17, 24, 17⟩] rfl (by simp) (fun z hz => nomatch hz) (by decide) (by decide) gW_L_13 (i := 4) (len := 2) (L2 := [some (.ref 0), some (.int x0), some (.int x1), some (.ref 94), none]) (Or.inl ⟨dL_approve_20, rfl⟩) (by decide) rfl ?_
        show AW X (0 + 3) (0 + 200) 22 [some (.ref 0), some (.int x0), some (.int x1), some (.ref 94), none] [] T9 I9 J9 R9
        refine aw_iconst (v := 1) hC dL_approve_22 (by decide) ?_
        exact aw_ireturn hC hq rfl dL_approve_23 a_le a_le (LwP.th (k := 0) (by decide) (by decide) hf hs hg)
      · cases hj
        refine ae_catch hC [⟨0, 17, 20, 13⟩] ⟨0, 17, 24, 17⟩ [] rfl (by simp) (fun z hz => by simp only [List.mem_cons, List.not_mem_nil, or_false] at hz; rcases hz with rfl; exact Or.inr ⟨by decide, exI, by simp, by decide, gW_L_13⟩) (by decide) (by decide) gW_L_17 (i := 4) (len := 2) (L2 := [some (.ref 0), some (.int x0), some (.int x1), some (.ref 94), none]) (Or.inl ⟨dL_approve_24, rfl⟩) (by decide) rfl ?_
        show AW X (0 + 3) (0 + 200) 26 [some (.ref 0), some (.int x0), some (.int x1), some (.ref 94), none] [] T9 I9 J9 R9
        refine aw_iconst (v := 2) hC dL_approve_26 (by decide) ?_
        exact aw_ireturn hC hq rfl dL_approve_27 a_le a_le (LwP.th (k := 1) (by decide) (by decide) hf hs hg)
      · cases hj
  · rcases hQ with ⟨hf, ⟨v, m2, e1, hs, hg⟩ | ⟨j, E, hj, e1, hs, hg⟩⟩
    · cases e1
      have hR9 := hg.hR
      have hb9 := hb v m2 hs
      show AW X (0 + 3) (0 + 200) 8 [some (.ref 0), some (.int x0), some (.int x1), some (.ref 94), none] [.int v, .int 0, .ref 94] T9 I9 J9 R9
      refine aw_if_eq (tgt := 15) hC dL_approve_8 (by decide) (fun h1 => ?_) (fun h1 => ?_)
      · show AW X (0 + 3) (0 + 200) 15 [some (.ref 0), some (.int x0), some (.int x1), some (.ref 94), none] [.int 0, .ref 94] T9 I9 J9 R9
        refine aw_lconst (v := 0) hC dL_approve_15 (by decide) ?_
        refine aw_lastore_k (j := 0) hC dL_approve_16 (tg_94 (hT.next hp9)) (by decide) (by unfold vp_in; decide) ?_
        refine aw_goto (tgt := 28) hC dL_approve_17 (by decide) ?_
        refine aw_iconst (v := 0) hC dL_approve_28 (by decide) ?_
        exact aw_ireturn hC hq rfl dL_approve_29 a_le a_le (LwP.ok hf hs hg (by rcases hb9 with e | e <;> first | (rw [e]; rfl) | (exfalso; contradiction) | exact absurd ((show v = 0 by assumption).symm.trans e) (by decide)))
      · show AW X (0 + 3) (0 + 200) 11 [some (.ref 0), some (.int x0), some (.int x1), some (.ref 94), none] [.int 0, .ref 94] T9 I9 J9 R9
        refine aw_lconst (v := 1) hC dL_approve_11 (by decide) ?_
        refine aw_goto (tgt := 16) hC dL_approve_12 (by decide) ?_
        refine aw_lastore_k (j := 0) hC dL_approve_16 (tg_94 (hT.next hp9)) (by decide) (by unfold vp_in; decide) ?_
        refine aw_goto (tgt := 28) hC dL_approve_17 (by decide) ?_
        refine aw_iconst (v := 0) hC dL_approve_28 (by decide) ?_
        exact aw_ireturn hC hq rfl dL_approve_29 a_le a_le (LwP.ok hf hs hg (by rcases hb9 with e | e <;> first | (rw [e]; rfl) | (exfalso; contradiction) | exact absurd ((show v = 0 by assumption).symm.trans e) (by decide)))
    · cases e1
set_option maxRecDepth 100000 in
theorem m_L_bind {T : List aT} {I : aI} {J : aJ} {R : aR} {m : aI} {c : Nat} (hT : aPT T) (x0 x1 x2 : Int32) {Sp : Nat → Int32 → aI → Prop} (hM : MX11_bind 3 200 [.ref 0, .int x0, .int x1, .int x2] T I J R (CP [exI, exS] I J m c Sp)) : ML_bind 3 200 [.ref 0, .int x0, .int x1, .int x2, .ref 94] T I J R (LwP I J c Sp) := by
  refine a_metW (by decide +kernel) a_le (fun X hC hq => ?_)
  show AW X 0 0 0 [some (.ref 0), some (.int x0), some (.int x1), some (.int x2), some (.ref 94), none] [] T I J R
  refine aw_aload hC dL_bind_0 rfl ?_
  refine aw_iconst (v := 0) hC dL_bind_2 (by decide) ?_
  refine aw_aload_n hC dL_bind_3 rfl ?_
  refine aw_iload_n hC dL_bind_4 rfl ?_
  refine aw_iload_n hC dL_bind_5 rfl ?_
  refine aw_iload_n hC dL_bind_6 rfl ?_
  refine kL_74 hC rfl hM dL_bind_7 (tg_0 hT) rfl a_le a_le a_le a_le a_le rfl (fun E9 T9 I9 J9 R9 hp9 hQ => ?_) (fun v9 T9 I9 J9 R9 hp9 hQ => ?_)
  · rcases hQ with ⟨hf, ⟨v, m2, e1, hs, hg⟩ | ⟨j, E, hj, e1, hs, hg⟩⟩
    · cases e1
    · cases e1
      rcases j with _ | _ | j
      · cases hj
        refine ae_catch hC [] ⟨0, 12, 15, 13⟩ [⟨0, 12, 19, 17⟩] rfl (by simp) (fun z hz => nomatch hz) (by decide) (by decide) gW_L_13 (i := 5) (len := 2) (L2 := [some (.ref 0), some (.int x0), some (.int x1), some (.int x2), some (.ref 94), none]) (Or.inl ⟨dL_bind_15, rfl⟩) (by decide) rfl ?_
        show AW X (0 + 3) (0 + 200) 17 [some (.ref 0), some (.int x0), some (.int x1), some (.int x2), some (.ref 94), none] [] T9 I9 J9 R9
        refine aw_iconst (v := 1) hC dL_bind_17 (by decide) ?_
        exact aw_ireturn hC hq rfl dL_bind_18 a_le a_le (LwP.th (k := 0) (by decide) (by decide) hf hs hg)
      · cases hj
        refine ae_catch hC [⟨0, 12, 15, 13⟩] ⟨0, 12, 19, 17⟩ [] rfl (by simp) (fun z hz => by simp only [List.mem_cons, List.not_mem_nil, or_false] at hz; rcases hz with rfl; exact Or.inr ⟨by decide, exI, by simp, by decide, gW_L_13⟩) (by decide) (by decide) gW_L_17 (i := 5) (len := 2) (L2 := [some (.ref 0), some (.int x0), some (.int x1), some (.int x2), some (.ref 94), none]) (Or.inl ⟨dL_bind_19, rfl⟩) (by decide) rfl ?_
        show AW X (0 + 3) (0 + 200) 21 [some (.ref 0), some (.int x0), some (.int x1), some (.int x2), some (.ref 94), none] [] T9 I9 J9 R9
        refine aw_iconst (v := 2) hC dL_bind_21 (by decide) ?_
        exact aw_ireturn hC hq rfl dL_bind_22 a_le a_le (LwP.th (k := 1) (by decide) (by decide) hf hs hg)
      · cases hj
  · rcases hQ with ⟨hf, ⟨v, m2, e1, hs, hg⟩ | ⟨j, E, hj, e1, hs, hg⟩⟩
    · cases e1
      have hR9 := hg.hR
      show AW X (0 + 3) (0 + 200) 10 [some (.ref 0), some (.int x0), some (.int x1), some (.int x2), some (.ref 94), none] [.int v, .int 0, .ref 94] T9 I9 J9 R9
      refine aw_i2l hC dL_bind_10 ?_
      refine aw_lastore_k (j := 0) hC dL_bind_11 (tg_94 (hT.next hp9)) (by decide) (by unfold vp_in; decide) ?_
      refine aw_goto (tgt := 23) hC dL_bind_12 (by decide) ?_
      refine aw_iconst (v := 0) hC dL_bind_23 (by decide) ?_
      exact aw_ireturn hC hq rfl dL_bind_24 a_le a_le (LwP.ok hf hs hg rfl)
    · cases e1
set_option maxRecDepth 100000 in
theorem m_L_change {T : List aT} {I : aI} {J : aJ} {R : aR} {m : aI} {c : Nat} (hT : aPT T) (x0 x1 x2 : Int32) {Sp : Nat → Int32 → aI → Prop} (hM : MX11_change 3 200 [.ref 0, .int x0, .int x1, .int x2] T I J R (CP [exI, exA, exS] I J m c Sp)) : ML_change 3 200 [.ref 0, .int x0, .int x1, .int x2, .ref 94] T I J R (LwP I J c Sp) := by
  refine a_metW (by decide +kernel) a_le (fun X hC hq => ?_)
  show AW X 0 0 0 [some (.ref 0), some (.int x0), some (.int x1), some (.int x2), some (.ref 94), none] [] T I J R
  refine aw_aload hC dL_change_0 rfl ?_
  refine aw_iconst (v := 0) hC dL_change_2 (by decide) ?_
  refine aw_aload_n hC dL_change_3 rfl ?_
  refine aw_iload_n hC dL_change_4 rfl ?_
  refine aw_iload_n hC dL_change_5 rfl ?_
  refine aw_iload_n hC dL_change_6 rfl ?_
  refine kL_115 hC rfl hM dL_change_7 (tg_0 hT) rfl a_le a_le a_le a_le a_le rfl (fun E9 T9 I9 J9 R9 hp9 hQ => ?_) (fun v9 T9 I9 J9 R9 hp9 hQ => ?_)
  · rcases hQ with ⟨hf, ⟨v, m2, e1, hs, hg⟩ | ⟨j, E, hj, e1, hs, hg⟩⟩
    · cases e1
    · cases e1
      rcases j with _ | _ | _ | j
      · cases hj
        refine ae_catch hC [] ⟨0, 12, 15, 13⟩ [⟨0, 12, 19, 15⟩, ⟨0, 12, 23, 17⟩] rfl (by simp) (fun z hz => nomatch hz) (by decide) (by decide) gW_L_13 (i := 5) (len := 2) (L2 := [some (.ref 0), some (.int x0), some (.int x1), some (.int x2), some (.ref 94), none]) (Or.inl ⟨dL_change_15, rfl⟩) (by decide) rfl ?_
        show AW X (0 + 3) (0 + 200) 17 [some (.ref 0), some (.int x0), some (.int x1), some (.int x2), some (.ref 94), none] [] T9 I9 J9 R9
        refine aw_iconst (v := 1) hC dL_change_17 (by decide) ?_
        exact aw_ireturn hC hq rfl dL_change_18 a_le a_le (LwP.th (k := 0) (by decide) (by decide) hf hs hg)
      · cases hj
        refine ae_catch hC [⟨0, 12, 15, 13⟩] ⟨0, 12, 19, 15⟩ [⟨0, 12, 23, 17⟩] rfl (by simp) (fun z hz => by simp only [List.mem_cons, List.not_mem_nil, or_false] at hz; rcases hz with rfl; exact Or.inr ⟨by decide, exI, by simp, by decide, gW_L_13⟩) (by decide) (by decide) gW_L_15 (i := 5) (len := 2) (L2 := [some (.ref 0), some (.int x0), some (.int x1), some (.int x2), some (.ref 94), none]) (Or.inl ⟨dL_change_19, rfl⟩) (by decide) rfl ?_
        show AW X (0 + 3) (0 + 200) 21 [some (.ref 0), some (.int x0), some (.int x1), some (.int x2), some (.ref 94), none] [] T9 I9 J9 R9
        refine aw_iconst (v := 2) hC dL_change_21 (by decide) ?_
        exact aw_ireturn hC hq rfl dL_change_22 a_le a_le (LwP.th (k := 1) (by decide) (by decide) hf hs hg)
      · cases hj
        refine ae_catch hC [⟨0, 12, 15, 13⟩, ⟨0, 12, 19, 15⟩] ⟨0, 12, 23, 17⟩ [] rfl (by simp) (fun z hz => by simp only [List.mem_cons, List.not_mem_nil, or_false] at hz; rcases hz with rfl | rfl; (exact Or.inr ⟨by decide, exI, by simp, by decide, gW_L_13⟩) ; (exact Or.inr ⟨by decide, exA, by simp, by decide, gW_L_15⟩)) (by decide) (by decide) gW_L_17 (i := 5) (len := 2) (L2 := [some (.ref 0), some (.int x0), some (.int x1), some (.int x2), some (.ref 94), none]) (Or.inl ⟨dL_change_23, rfl⟩) (by decide) rfl ?_
        show AW X (0 + 3) (0 + 200) 25 [some (.ref 0), some (.int x0), some (.int x1), some (.int x2), some (.ref 94), none] [] T9 I9 J9 R9
        refine aw_iconst (v := 3) hC dL_change_25 (by decide) ?_
        exact aw_ireturn hC hq rfl dL_change_26 a_le a_le (LwP.th (k := 2) (by decide) (by decide) hf hs hg)
      · cases hj
  · rcases hQ with ⟨hf, ⟨v, m2, e1, hs, hg⟩ | ⟨j, E, hj, e1, hs, hg⟩⟩
    · cases e1
      have hR9 := hg.hR
      show AW X (0 + 3) (0 + 200) 10 [some (.ref 0), some (.int x0), some (.int x1), some (.int x2), some (.ref 94), none] [.int v, .int 0, .ref 94] T9 I9 J9 R9
      refine aw_i2l hC dL_change_10 ?_
      refine aw_lastore_k (j := 0) hC dL_change_11 (tg_94 (hT.next hp9)) (by decide) (by unfold vp_in; decide) ?_
      refine aw_goto (tgt := 27) hC dL_change_12 (by decide) ?_
      refine aw_iconst (v := 0) hC dL_change_27 (by decide) ?_
      exact aw_ireturn hC hq rfl dL_change_28 a_le a_le (LwP.ok hf hs hg rfl)
    · cases e1
set_option maxRecDepth 100000 in
theorem m_L_destroy {T : List aT} {I : aI} {J : aJ} {R : aR} {m : aI} {c : Nat} (hT : aPT T) (x0 : Int32) {Sp : Nat → Int32 → aI → Prop} (hb : ∀ v m2, Sp 0 v m2 → v = 0 ∨ v = 1) (hM : MX11_destroy 3 200 [.ref 0, .int x0] T I J R (CP [exI] I J m c Sp)) : ML_destroy 3 200 [.ref 0, .int x0, .ref 94] T I J R (LwP I J c Sp) := by
  refine a_metW (by decide +kernel) a_le (fun X hC hq => ?_)
  show AW X 0 0 0 [some (.ref 0), some (.int x0), some (.ref 94), none] [] T I J R
  refine aw_aload_n hC dL_destroy_0 rfl ?_
  refine aw_iconst (v := 0) hC dL_destroy_1 (by decide) ?_
  refine aw_aload_n hC dL_destroy_2 rfl ?_
  refine aw_iload_n hC dL_destroy_3 rfl ?_
  refine kL_118 hC rfl hM dL_destroy_4 (tg_0 hT) rfl a_le a_le a_le a_le a_le rfl (fun E9 T9 I9 J9 R9 hp9 hQ => ?_) (fun v9 T9 I9 J9 R9 hp9 hQ => ?_)
  · rcases hQ with ⟨hf, ⟨v, m2, e1, hs, hg⟩ | ⟨j, E, hj, e1, hs, hg⟩⟩
    · cases e1
    · cases e1
      rcases j with _ | j
      · cases hj
        refine ae_catch hC [] ⟨0, 16, 19, 13⟩ [] rfl (by simp) (fun z hz => nomatch hz) (by decide) (by decide) gW_L_13 (i := 3) (len := 1) (L2 := [some (.ref 0), some (.int x0), some (.ref 94), none]) (Or.inr ⟨3, dL_destroy_19, rfl, rfl⟩) (by decide) rfl ?_
        show AW X (0 + 3) (0 + 200) 20 [some (.ref 0), some (.int x0), some (.ref 94), none] [] T9 I9 J9 R9
        refine aw_iconst (v := 1) hC dL_destroy_20 (by decide) ?_
        exact aw_ireturn hC hq rfl dL_destroy_21 a_le a_le (LwP.th (k := 0) (by decide) (by decide) hf hs hg)
      · cases hj
  · rcases hQ with ⟨hf, ⟨v, m2, e1, hs, hg⟩ | ⟨j, E, hj, e1, hs, hg⟩⟩
    · cases e1
      have hR9 := hg.hR
      have hb9 := hb v m2 hs
      show AW X (0 + 3) (0 + 200) 7 [some (.ref 0), some (.int x0), some (.ref 94), none] [.int v, .int 0, .ref 94] T9 I9 J9 R9
      refine aw_if_eq (tgt := 14) hC dL_destroy_7 (by decide) (fun h1 => ?_) (fun h1 => ?_)
      · show AW X (0 + 3) (0 + 200) 14 [some (.ref 0), some (.int x0), some (.ref 94), none] [.int 0, .ref 94] T9 I9 J9 R9
        refine aw_lconst (v := 0) hC dL_destroy_14 (by decide) ?_
        refine aw_lastore_k (j := 0) hC dL_destroy_15 (tg_94 (hT.next hp9)) (by decide) (by unfold vp_in; decide) ?_
        refine aw_goto (tgt := 22) hC dL_destroy_16 (by decide) ?_
        refine aw_iconst (v := 0) hC dL_destroy_22 (by decide) ?_
        exact aw_ireturn hC hq rfl dL_destroy_23 a_le a_le (LwP.ok hf hs hg (by rcases hb9 with e | e <;> first | (rw [e]; rfl) | (exfalso; contradiction) | exact absurd ((show v = 0 by assumption).symm.trans e) (by decide)))
      · show AW X (0 + 3) (0 + 200) 10 [some (.ref 0), some (.int x0), some (.ref 94), none] [.int 0, .ref 94] T9 I9 J9 R9
        refine aw_lconst (v := 1) hC dL_destroy_10 (by decide) ?_
        refine aw_goto (tgt := 15) hC dL_destroy_11 (by decide) ?_
        refine aw_lastore_k (j := 0) hC dL_destroy_15 (tg_94 (hT.next hp9)) (by decide) (by unfold vp_in; decide) ?_
        refine aw_goto (tgt := 22) hC dL_destroy_16 (by decide) ?_
        refine aw_iconst (v := 0) hC dL_destroy_22 (by decide) ?_
        exact aw_ireturn hC hq rfl dL_destroy_23 a_le a_le (LwP.ok hf hs hg (by rcases hb9 with e | e <;> first | (rw [e]; rfl) | (exfalso; contradiction) | exact absurd ((show v = 0 by assumption).symm.trans e) (by decide)))
    · cases e1
set_option maxRecDepth 100000 in
theorem m_L_draft {T : List aT} {I : aI} {J : aJ} {R : aR} {m : aI} {c : Nat} (hT : aPT T) (x0 x1 x2 x3 x4 : Int32) {Sp : Nat → Int32 → aI → Prop} (hM : MX11_draft 3 200 [.ref 0, .int x0, .int x1, .int x2, .int x3, .int x4] T I J R (CP [exI, exA, exS] I J m c Sp)) : ML_draft 3 200 [.ref 0, .int x0, .int x1, .int x2, .int x3, .int x4, .ref 94] T I J R (LwP I J c Sp) := by
  refine a_metW (by decide +kernel) a_le (fun X hC hq => ?_)
  show AW X 0 0 0 [some (.ref 0), some (.int x0), some (.int x1), some (.int x2), some (.int x3), some (.int x4), some (.ref 94), none] [] T I J R
  refine aw_aload hC dL_draft_0 rfl ?_
  refine aw_iconst (v := 0) hC dL_draft_2 (by decide) ?_
  refine aw_aload_n hC dL_draft_3 rfl ?_
  refine aw_iload_n hC dL_draft_4 rfl ?_
  refine aw_iload_n hC dL_draft_5 rfl ?_
  refine aw_iload_n hC dL_draft_6 rfl ?_
  refine aw_iload hC dL_draft_7 rfl ?_
  refine aw_iload hC dL_draft_9 rfl ?_
  refine kL_19 hC rfl hM dL_draft_11 (tg_0 hT) rfl a_le a_le a_le a_le a_le rfl (fun E9 T9 I9 J9 R9 hp9 hQ => ?_) (fun v9 T9 I9 J9 R9 hp9 hQ => ?_)
  · rcases hQ with ⟨hf, ⟨v, m2, e1, hs, hg⟩ | ⟨j, E, hj, e1, hs, hg⟩⟩
    · cases e1
    · cases e1
      rcases j with _ | _ | _ | j
      · cases hj
        refine ae_catch hC [] ⟨0, 16, 19, 13⟩ [⟨0, 16, 23, 15⟩, ⟨0, 16, 27, 17⟩] rfl (by simp) (fun z hz => nomatch hz) (by decide) (by decide) gW_L_13 (i := 7) (len := 2) (L2 := [some (.ref 0), some (.int x0), some (.int x1), some (.int x2), some (.int x3), some (.int x4), some (.ref 94), none]) (Or.inl ⟨dL_draft_19, rfl⟩) (by decide) rfl ?_
        show AW X (0 + 3) (0 + 200) 21 [some (.ref 0), some (.int x0), some (.int x1), some (.int x2), some (.int x3), some (.int x4), some (.ref 94), none] [] T9 I9 J9 R9
        refine aw_iconst (v := 1) hC dL_draft_21 (by decide) ?_
        exact aw_ireturn hC hq rfl dL_draft_22 a_le a_le (LwP.th (k := 0) (by decide) (by decide) hf hs hg)
      · cases hj
        refine ae_catch hC [⟨0, 16, 19, 13⟩] ⟨0, 16, 23, 15⟩ [⟨0, 16, 27, 17⟩] rfl (by simp) (fun z hz => by simp only [List.mem_cons, List.not_mem_nil, or_false] at hz; rcases hz with rfl; exact Or.inr ⟨by decide, exI, by simp, by decide, gW_L_13⟩) (by decide) (by decide) gW_L_15 (i := 7) (len := 2) (L2 := [some (.ref 0), some (.int x0), some (.int x1), some (.int x2), some (.int x3), some (.int x4), some (.ref 94), none]) (Or.inl ⟨dL_draft_23, rfl⟩) (by decide) rfl ?_
        show AW X (0 + 3) (0 + 200) 25 [some (.ref 0), some (.int x0), some (.int x1), some (.int x2), some (.int x3), some (.int x4), some (.ref 94), none] [] T9 I9 J9 R9
        refine aw_iconst (v := 2) hC dL_draft_25 (by decide) ?_
        exact aw_ireturn hC hq rfl dL_draft_26 a_le a_le (LwP.th (k := 1) (by decide) (by decide) hf hs hg)
      · cases hj
        refine ae_catch hC [⟨0, 16, 19, 13⟩, ⟨0, 16, 23, 15⟩] ⟨0, 16, 27, 17⟩ [] rfl (by simp) (fun z hz => by simp only [List.mem_cons, List.not_mem_nil, or_false] at hz; rcases hz with rfl | rfl; (exact Or.inr ⟨by decide, exI, by simp, by decide, gW_L_13⟩) ; (exact Or.inr ⟨by decide, exA, by simp, by decide, gW_L_15⟩)) (by decide) (by decide) gW_L_17 (i := 7) (len := 2) (L2 := [some (.ref 0), some (.int x0), some (.int x1), some (.int x2), some (.int x3), some (.int x4), some (.ref 94), none]) (Or.inl ⟨dL_draft_27, rfl⟩) (by decide) rfl ?_
        show AW X (0 + 3) (0 + 200) 29 [some (.ref 0), some (.int x0), some (.int x1), some (.int x2), some (.int x3), some (.int x4), some (.ref 94), none] [] T9 I9 J9 R9
        refine aw_iconst (v := 3) hC dL_draft_29 (by decide) ?_
        exact aw_ireturn hC hq rfl dL_draft_30 a_le a_le (LwP.th (k := 2) (by decide) (by decide) hf hs hg)
      · cases hj
  · rcases hQ with ⟨hf, ⟨v, m2, e1, hs, hg⟩ | ⟨j, E, hj, e1, hs, hg⟩⟩
    · cases e1
      have hR9 := hg.hR
      show AW X (0 + 3) (0 + 200) 14 [some (.ref 0), some (.int x0), some (.int x1), some (.int x2), some (.int x3), some (.int x4), some (.ref 94), none] [.int v, .int 0, .ref 94] T9 I9 J9 R9
      refine aw_i2l hC dL_draft_14 ?_
      refine aw_lastore_k (j := 0) hC dL_draft_15 (tg_94 (hT.next hp9)) (by decide) (by unfold vp_in; decide) ?_
      refine aw_goto (tgt := 31) hC dL_draft_16 (by decide) ?_
      refine aw_iconst (v := 0) hC dL_draft_31 (by decide) ?_
      exact aw_ireturn hC hq rfl dL_draft_32 a_le a_le (LwP.ok hf hs hg rfl)
    · cases e1
set_option maxRecDepth 100000 in
theorem m_L_entry {T : List aT} {I : aI} {J : aJ} {R : aR} {m : aI} {c : Nat} (hT : aPT T) (x0 : Int32) {Sp : Nat → Int32 → aI → Prop} (hM : MX11_entry 3 200 [.ref 0, .int x0] T I J R (CP [exI] I J m c Sp)) : ML_entry 3 200 [.ref 0, .int x0, .ref 94] T I J R (LwP I J c Sp) := by
  refine a_metW (by decide +kernel) a_le (fun X hC hq => ?_)
  show AW X 0 0 0 [some (.ref 0), some (.int x0), some (.ref 94), none] [] T I J R
  refine aw_aload_n hC dL_entry_0 rfl ?_
  refine aw_iconst (v := 0) hC dL_entry_1 (by decide) ?_
  refine aw_aload_n hC dL_entry_2 rfl ?_
  refine aw_iload_n hC dL_entry_3 rfl ?_
  refine kL_106 hC rfl hM dL_entry_4 (tg_0 hT) rfl a_le a_le a_le a_le a_le rfl (fun E9 T9 I9 J9 R9 hp9 hQ => ?_) (fun v9 T9 I9 J9 R9 hp9 hQ => ?_)
  · rcases hQ with ⟨hf, ⟨v, m2, e1, hs, hg⟩ | ⟨j, E, hj, e1, hs, hg⟩⟩
    · cases e1
    · cases e1
      rcases j with _ | j
      · cases hj
        refine ae_catch hC [] ⟨0, 9, 12, 13⟩ [] rfl (by simp) (fun z hz => nomatch hz) (by decide) (by decide) gW_L_13 (i := 3) (len := 1) (L2 := [some (.ref 0), some (.int x0), some (.ref 94), none]) (Or.inr ⟨3, dL_entry_12, rfl, rfl⟩) (by decide) rfl ?_
        show AW X (0 + 3) (0 + 200) 13 [some (.ref 0), some (.int x0), some (.ref 94), none] [] T9 I9 J9 R9
        refine aw_iconst (v := 1) hC dL_entry_13 (by decide) ?_
        exact aw_ireturn hC hq rfl dL_entry_14 a_le a_le (LwP.th (k := 0) (by decide) (by decide) hf hs hg)
      · cases hj
  · rcases hQ with ⟨hf, ⟨v, m2, e1, hs, hg⟩ | ⟨j, E, hj, e1, hs, hg⟩⟩
    · cases e1
      have hR9 := hg.hR
      show AW X (0 + 3) (0 + 200) 7 [some (.ref 0), some (.int x0), some (.ref 94), none] [.int v, .int 0, .ref 94] T9 I9 J9 R9
      refine aw_i2l hC dL_entry_7 ?_
      refine aw_lastore_k (j := 0) hC dL_entry_8 (tg_94 (hT.next hp9)) (by decide) (by unfold vp_in; decide) ?_
      refine aw_goto (tgt := 15) hC dL_entry_9 (by decide) ?_
      refine aw_iconst (v := 0) hC dL_entry_15 (by decide) ?_
      exact aw_ireturn hC hq rfl dL_entry_16 a_le a_le (LwP.ok hf hs hg rfl)
    · cases e1
set_option maxRecDepth 100000 in
theorem m_L_except {T : List aT} {I : aI} {J : aJ} {R : aR} {m : aI} {c : Nat} (hT : aPT T) (x0 x1 x2 : Int32) {Sp : Nat → Int32 → aI → Prop} (hM : MX11_except 3 200 [.ref 0, .int x0, .int x1, .int x2] T I J R (CP [exI, exA] I J m c Sp)) : ML_except 3 200 [.ref 0, .int x0, .int x1, .int x2, .ref 94] T I J R (LwP I J c Sp) := by
  refine a_metW (by decide +kernel) a_le (fun X hC hq => ?_)
  show AW X 0 0 0 [some (.ref 0), some (.int x0), some (.int x1), some (.int x2), some (.ref 94), none] [] T I J R
  refine aw_aload hC dL_except_0 rfl ?_
  refine aw_iconst (v := 0) hC dL_except_2 (by decide) ?_
  refine aw_aload_n hC dL_except_3 rfl ?_
  refine aw_iload_n hC dL_except_4 rfl ?_
  refine aw_iload_n hC dL_except_5 rfl ?_
  refine aw_iload_n hC dL_except_6 rfl ?_
  refine kL_36 hC rfl hM dL_except_7 (tg_0 hT) rfl a_le a_le a_le a_le a_le rfl (fun E9 T9 I9 J9 R9 hp9 hQ => ?_) (fun v9 T9 I9 J9 R9 hp9 hQ => ?_)
  · rcases hQ with ⟨hf, ⟨v, m2, e1, hs, hg⟩ | ⟨j, E, hj, e1, hs, hg⟩⟩
    · cases e1
    · cases e1
      rcases j with _ | _ | j
      · cases hj
        refine ae_catch hC [] ⟨0, 12, 15, 13⟩ [⟨0, 12, 19, 15⟩] rfl (by simp) (fun z hz => nomatch hz) (by decide) (by decide) gW_L_13 (i := 5) (len := 2) (L2 := [some (.ref 0), some (.int x0), some (.int x1), some (.int x2), some (.ref 94), none]) (Or.inl ⟨dL_except_15, rfl⟩) (by decide) rfl ?_
        show AW X (0 + 3) (0 + 200) 17 [some (.ref 0), some (.int x0), some (.int x1), some (.int x2), some (.ref 94), none] [] T9 I9 J9 R9
        refine aw_iconst (v := 1) hC dL_except_17 (by decide) ?_
        exact aw_ireturn hC hq rfl dL_except_18 a_le a_le (LwP.th (k := 0) (by decide) (by decide) hf hs hg)
      · cases hj
        refine ae_catch hC [⟨0, 12, 15, 13⟩] ⟨0, 12, 19, 15⟩ [] rfl (by simp) (fun z hz => by simp only [List.mem_cons, List.not_mem_nil, or_false] at hz; rcases hz with rfl; exact Or.inr ⟨by decide, exI, by simp, by decide, gW_L_13⟩) (by decide) (by decide) gW_L_15 (i := 5) (len := 2) (L2 := [some (.ref 0), some (.int x0), some (.int x1), some (.int x2), some (.ref 94), none]) (Or.inl ⟨dL_except_19, rfl⟩) (by decide) rfl ?_
        show AW X (0 + 3) (0 + 200) 21 [some (.ref 0), some (.int x0), some (.int x1), some (.int x2), some (.ref 94), none] [] T9 I9 J9 R9
        refine aw_iconst (v := 2) hC dL_except_21 (by decide) ?_
        exact aw_ireturn hC hq rfl dL_except_22 a_le a_le (LwP.th (k := 1) (by decide) (by decide) hf hs hg)
      · cases hj
  · rcases hQ with ⟨hf, ⟨v, m2, e1, hs, hg⟩ | ⟨j, E, hj, e1, hs, hg⟩⟩
    · cases e1
      have hR9 := hg.hR
      show AW X (0 + 3) (0 + 200) 10 [some (.ref 0), some (.int x0), some (.int x1), some (.int x2), some (.ref 94), none] [.int v, .int 0, .ref 94] T9 I9 J9 R9
      refine aw_i2l hC dL_except_10 ?_
      refine aw_lastore_k (j := 0) hC dL_except_11 (tg_94 (hT.next hp9)) (by decide) (by unfold vp_in; decide) ?_
      refine aw_goto (tgt := 23) hC dL_except_12 (by decide) ?_
      refine aw_iconst (v := 0) hC dL_except_23 (by decide) ?_
      exact aw_ireturn hC hq rfl dL_except_24 a_le a_le (LwP.ok hf hs hg rfl)
    · cases e1
set_option maxRecDepth 100000 in
theorem m_L_generator {T : List aT} {I : aI} {J : aJ} {R : aR} {m : aI} {c : Nat} (hT : aPT T) (x0 : Int32) {Sp : Nat → Int32 → aI → Prop} (hM : MX11_generator 3 200 [.ref 0, .int x0] T I J R (CP [exI, exS] I J m c Sp)) : ML_generator 3 200 [.ref 0, .int x0, .ref 94] T I J R (LwP I J c Sp) := by
  refine a_metW (by decide +kernel) a_le (fun X hC hq => ?_)
  show AW X 0 0 0 [some (.ref 0), some (.int x0), some (.ref 94), none] [] T I J R
  refine aw_aload_n hC dL_generator_0 rfl ?_
  refine aw_iconst (v := 0) hC dL_generator_1 (by decide) ?_
  refine aw_aload_n hC dL_generator_2 rfl ?_
  refine aw_iload_n hC dL_generator_3 rfl ?_
  refine kL_65 hC rfl hM dL_generator_4 (tg_0 hT) rfl a_le a_le a_le a_le a_le rfl (fun E9 T9 I9 J9 R9 hp9 hQ => ?_) (fun v9 T9 I9 J9 R9 hp9 hQ => ?_)
  · rcases hQ with ⟨hf, ⟨v, m2, e1, hs, hg⟩ | ⟨j, E, hj, e1, hs, hg⟩⟩
    · cases e1
    · cases e1
      rcases j with _ | _ | j
      · cases hj
        refine ae_catch hC [] ⟨0, 9, 12, 13⟩ [⟨0, 9, 15, 17⟩] rfl (by simp) (fun z hz => nomatch hz) (by decide) (by decide) gW_L_13 (i := 3) (len := 1) (L2 := [some (.ref 0), some (.int x0), some (.ref 94), none]) (Or.inr ⟨3, dL_generator_12, rfl, rfl⟩) (by decide) rfl ?_
        show AW X (0 + 3) (0 + 200) 13 [some (.ref 0), some (.int x0), some (.ref 94), none] [] T9 I9 J9 R9
        refine aw_iconst (v := 1) hC dL_generator_13 (by decide) ?_
        exact aw_ireturn hC hq rfl dL_generator_14 a_le a_le (LwP.th (k := 0) (by decide) (by decide) hf hs hg)
      · cases hj
        refine ae_catch hC [⟨0, 9, 12, 13⟩] ⟨0, 9, 15, 17⟩ [] rfl (by simp) (fun z hz => by simp only [List.mem_cons, List.not_mem_nil, or_false] at hz; rcases hz with rfl; exact Or.inr ⟨by decide, exI, by simp, by decide, gW_L_13⟩) (by decide) (by decide) gW_L_17 (i := 3) (len := 1) (L2 := [some (.ref 0), some (.int x0), some (.ref 94), none]) (Or.inr ⟨3, dL_generator_15, rfl, rfl⟩) (by decide) rfl ?_
        show AW X (0 + 3) (0 + 200) 16 [some (.ref 0), some (.int x0), some (.ref 94), none] [] T9 I9 J9 R9
        refine aw_iconst (v := 2) hC dL_generator_16 (by decide) ?_
        exact aw_ireturn hC hq rfl dL_generator_17 a_le a_le (LwP.th (k := 1) (by decide) (by decide) hf hs hg)
      · cases hj
  · rcases hQ with ⟨hf, ⟨v, m2, e1, hs, hg⟩ | ⟨j, E, hj, e1, hs, hg⟩⟩
    · cases e1
      have hR9 := hg.hR
      show AW X (0 + 3) (0 + 200) 7 [some (.ref 0), some (.int x0), some (.ref 94), none] [.int v, .int 0, .ref 94] T9 I9 J9 R9
      refine aw_i2l hC dL_generator_7 ?_
      refine aw_lastore_k (j := 0) hC dL_generator_8 (tg_94 (hT.next hp9)) (by decide) (by unfold vp_in; decide) ?_
      refine aw_goto (tgt := 18) hC dL_generator_9 (by decide) ?_
      refine aw_iconst (v := 0) hC dL_generator_18 (by decide) ?_
      exact aw_ireturn hC hq rfl dL_generator_19 a_le a_le (LwP.ok hf hs hg rfl)
    · cases e1
set_option maxRecDepth 100000 in
theorem m_L_given {T : List aT} {I : aI} {J : aJ} {R : aR} {m : aI} {c : Nat} (hT : aPT T) (x0 x1 : Int32) {Sp : Nat → Int32 → aI → Prop} (hM : MX11_given 3 200 [.ref 0, .int x0, .int x1] T I J R (CP [exI] I J m c Sp)) : ML_given 3 200 [.ref 0, .int x0, .int x1, .ref 94] T I J R (LwP I J c Sp) := by
  refine a_metW (by decide +kernel) a_le (fun X hC hq => ?_)
  show AW X 0 0 0 [some (.ref 0), some (.int x0), some (.int x1), some (.ref 94), none] [] T I J R
  refine aw_aload_n hC dL_given_0 rfl ?_
  refine aw_iconst (v := 0) hC dL_given_1 (by decide) ?_
  refine aw_aload_n hC dL_given_2 rfl ?_
  refine aw_iload_n hC dL_given_3 rfl ?_
  refine aw_iload_n hC dL_given_4 rfl ?_
  refine kL_80 hC rfl hM dL_given_5 (tg_0 hT) rfl a_le a_le a_le a_le a_le rfl (fun E9 T9 I9 J9 R9 hp9 hQ => ?_) (fun v9 T9 I9 J9 R9 hp9 hQ => ?_)
  · rcases hQ with ⟨hf, ⟨v, m2, e1, hs, hg⟩ | ⟨j, E, hj, e1, hs, hg⟩⟩
    · cases e1
    · cases e1
      rcases j with _ | j
      · cases hj
        refine ae_catch hC [] ⟨0, 10, 13, 13⟩ [] rfl (by simp) (fun z hz => nomatch hz) (by decide) (by decide) gW_L_13 (i := 4) (len := 2) (L2 := [some (.ref 0), some (.int x0), some (.int x1), some (.ref 94), none]) (Or.inl ⟨dL_given_13, rfl⟩) (by decide) rfl ?_
        show AW X (0 + 3) (0 + 200) 15 [some (.ref 0), some (.int x0), some (.int x1), some (.ref 94), none] [] T9 I9 J9 R9
        refine aw_iconst (v := 1) hC dL_given_15 (by decide) ?_
        exact aw_ireturn hC hq rfl dL_given_16 a_le a_le (LwP.th (k := 0) (by decide) (by decide) hf hs hg)
      · cases hj
  · rcases hQ with ⟨hf, ⟨v, m2, e1, hs, hg⟩ | ⟨j, E, hj, e1, hs, hg⟩⟩
    · cases e1
      have hR9 := hg.hR
      show AW X (0 + 3) (0 + 200) 8 [some (.ref 0), some (.int x0), some (.int x1), some (.ref 94), none] [.int v, .int 0, .ref 94] T9 I9 J9 R9
      refine aw_i2l hC dL_given_8 ?_
      refine aw_lastore_k (j := 0) hC dL_given_9 (tg_94 (hT.next hp9)) (by decide) (by unfold vp_in; decide) ?_
      refine aw_goto (tgt := 17) hC dL_given_10 (by decide) ?_
      refine aw_iconst (v := 0) hC dL_given_17 (by decide) ?_
      exact aw_ireturn hC hq rfl dL_given_18 a_le a_le (LwP.ok hf hs hg rfl)
    · cases e1
set_option maxRecDepth 100000 in
theorem m_L_isStale {T : List aT} {I : aI} {J : aJ} {R : aR} {m : aI} {c : Nat} (hT : aPT T) (x0 : Int32) {Sp : Nat → Int32 → aI → Prop} (hb : ∀ v m2, Sp 0 v m2 → v = 0 ∨ v = 1) (hM : MX11_isStale 3 200 [.ref 0, .int x0] T I J R (CP [exI] I J m c Sp)) : ML_isStale 3 200 [.ref 0, .int x0, .ref 94] T I J R (LwP I J c Sp) := by
  refine a_metW (by decide +kernel) a_le (fun X hC hq => ?_)
  show AW X 0 0 0 [some (.ref 0), some (.int x0), some (.ref 94), none] [] T I J R
  refine aw_aload_n hC dL_isStale_0 rfl ?_
  refine aw_iconst (v := 0) hC dL_isStale_1 (by decide) ?_
  refine aw_aload_n hC dL_isStale_2 rfl ?_
  refine aw_iload_n hC dL_isStale_3 rfl ?_
  refine kL_93 hC rfl hM dL_isStale_4 (tg_0 hT) rfl a_le a_le a_le a_le a_le rfl (fun E9 T9 I9 J9 R9 hp9 hQ => ?_) (fun v9 T9 I9 J9 R9 hp9 hQ => ?_)
  · rcases hQ with ⟨hf, ⟨v, m2, e1, hs, hg⟩ | ⟨j, E, hj, e1, hs, hg⟩⟩
    · cases e1
    · cases e1
      rcases j with _ | j
      · cases hj
        refine ae_catch hC [] ⟨0, 16, 19, 13⟩ [] rfl (by simp) (fun z hz => nomatch hz) (by decide) (by decide) gW_L_13 (i := 3) (len := 1) (L2 := [some (.ref 0), some (.int x0), some (.ref 94), none]) (Or.inr ⟨3, dL_isStale_19, rfl, rfl⟩) (by decide) rfl ?_
        show AW X (0 + 3) (0 + 200) 20 [some (.ref 0), some (.int x0), some (.ref 94), none] [] T9 I9 J9 R9
        refine aw_iconst (v := 1) hC dL_isStale_20 (by decide) ?_
        exact aw_ireturn hC hq rfl dL_isStale_21 a_le a_le (LwP.th (k := 0) (by decide) (by decide) hf hs hg)
      · cases hj
  · rcases hQ with ⟨hf, ⟨v, m2, e1, hs, hg⟩ | ⟨j, E, hj, e1, hs, hg⟩⟩
    · cases e1
      have hR9 := hg.hR
      have hb9 := hb v m2 hs
      show AW X (0 + 3) (0 + 200) 7 [some (.ref 0), some (.int x0), some (.ref 94), none] [.int v, .int 0, .ref 94] T9 I9 J9 R9
      refine aw_if_eq (tgt := 14) hC dL_isStale_7 (by decide) (fun h1 => ?_) (fun h1 => ?_)
      · show AW X (0 + 3) (0 + 200) 14 [some (.ref 0), some (.int x0), some (.ref 94), none] [.int 0, .ref 94] T9 I9 J9 R9
        refine aw_lconst (v := 0) hC dL_isStale_14 (by decide) ?_
        refine aw_lastore_k (j := 0) hC dL_isStale_15 (tg_94 (hT.next hp9)) (by decide) (by unfold vp_in; decide) ?_
        refine aw_goto (tgt := 22) hC dL_isStale_16 (by decide) ?_
        refine aw_iconst (v := 0) hC dL_isStale_22 (by decide) ?_
        exact aw_ireturn hC hq rfl dL_isStale_23 a_le a_le (LwP.ok hf hs hg (by rcases hb9 with e | e <;> first | (rw [e]; rfl) | (exfalso; contradiction) | exact absurd ((show v = 0 by assumption).symm.trans e) (by decide)))
      · show AW X (0 + 3) (0 + 200) 10 [some (.ref 0), some (.int x0), some (.ref 94), none] [.int 0, .ref 94] T9 I9 J9 R9
        refine aw_lconst (v := 1) hC dL_isStale_10 (by decide) ?_
        refine aw_goto (tgt := 15) hC dL_isStale_11 (by decide) ?_
        refine aw_lastore_k (j := 0) hC dL_isStale_15 (tg_94 (hT.next hp9)) (by decide) (by unfold vp_in; decide) ?_
        refine aw_goto (tgt := 22) hC dL_isStale_16 (by decide) ?_
        refine aw_iconst (v := 0) hC dL_isStale_22 (by decide) ?_
        exact aw_ireturn hC hq rfl dL_isStale_23 a_le a_le (LwP.ok hf hs hg (by rcases hb9 with e | e <;> first | (rw [e]; rfl) | (exfalso; contradiction) | exact absurd ((show v = 0 by assumption).symm.trans e) (by decide)))
    · cases e1
set_option maxRecDepth 100000 in
theorem m_L_key {T : List aT} {I : aI} {J : aJ} {R : aR} {m : aI} {c : Nat} (hT : aPT T) (x0 x1 x2 : Int32) {Sp : Nat → Int32 → aI → Prop} (hM : MX11_key 3 200 [.ref 0, .int x0, .int x1, .int x2] T I J R (CP [exI, exA, exS] I J m c Sp)) : ML_key 3 200 [.ref 0, .int x0, .int x1, .int x2, .ref 94] T I J R (LwP I J c Sp) := by
  refine a_metW (by decide +kernel) a_le (fun X hC hq => ?_)
  show AW X 0 0 0 [some (.ref 0), some (.int x0), some (.int x1), some (.int x2), some (.ref 94), none] [] T I J R
  refine aw_aload hC dL_key_0 rfl ?_
  refine aw_iconst (v := 0) hC dL_key_2 (by decide) ?_
  refine aw_aload_n hC dL_key_3 rfl ?_
  refine aw_iload_n hC dL_key_4 rfl ?_
  refine aw_iload_n hC dL_key_5 rfl ?_
  refine aw_iload_n hC dL_key_6 rfl ?_
  refine kL_68 hC rfl hM dL_key_7 (tg_0 hT) rfl a_le a_le a_le a_le a_le rfl (fun E9 T9 I9 J9 R9 hp9 hQ => ?_) (fun v9 T9 I9 J9 R9 hp9 hQ => ?_)
  · rcases hQ with ⟨hf, ⟨v, m2, e1, hs, hg⟩ | ⟨j, E, hj, e1, hs, hg⟩⟩
    · cases e1
    · cases e1
      rcases j with _ | _ | _ | j
      · cases hj
        refine ae_catch hC [] ⟨0, 12, 15, 13⟩ [⟨0, 12, 19, 15⟩, ⟨0, 12, 23, 17⟩] rfl (by simp) (fun z hz => nomatch hz) (by decide) (by decide) gW_L_13 (i := 5) (len := 2) (L2 := [some (.ref 0), some (.int x0), some (.int x1), some (.int x2), some (.ref 94), none]) (Or.inl ⟨dL_key_15, rfl⟩) (by decide) rfl ?_
        show AW X (0 + 3) (0 + 200) 17 [some (.ref 0), some (.int x0), some (.int x1), some (.int x2), some (.ref 94), none] [] T9 I9 J9 R9
        refine aw_iconst (v := 1) hC dL_key_17 (by decide) ?_
        exact aw_ireturn hC hq rfl dL_key_18 a_le a_le (LwP.th (k := 0) (by decide) (by decide) hf hs hg)
      · cases hj
        refine ae_catch hC [⟨0, 12, 15, 13⟩] ⟨0, 12, 19, 15⟩ [⟨0, 12, 23, 17⟩] rfl (by simp) (fun z hz => by simp only [List.mem_cons, List.not_mem_nil, or_false] at hz; rcases hz with rfl; exact Or.inr ⟨by decide, exI, by simp, by decide, gW_L_13⟩) (by decide) (by decide) gW_L_15 (i := 5) (len := 2) (L2 := [some (.ref 0), some (.int x0), some (.int x1), some (.int x2), some (.ref 94), none]) (Or.inl ⟨dL_key_19, rfl⟩) (by decide) rfl ?_
        show AW X (0 + 3) (0 + 200) 21 [some (.ref 0), some (.int x0), some (.int x1), some (.int x2), some (.ref 94), none] [] T9 I9 J9 R9
        refine aw_iconst (v := 2) hC dL_key_21 (by decide) ?_
        exact aw_ireturn hC hq rfl dL_key_22 a_le a_le (LwP.th (k := 1) (by decide) (by decide) hf hs hg)
      · cases hj
        refine ae_catch hC [⟨0, 12, 15, 13⟩, ⟨0, 12, 19, 15⟩] ⟨0, 12, 23, 17⟩ [] rfl (by simp) (fun z hz => by simp only [List.mem_cons, List.not_mem_nil, or_false] at hz; rcases hz with rfl | rfl; (exact Or.inr ⟨by decide, exI, by simp, by decide, gW_L_13⟩) ; (exact Or.inr ⟨by decide, exA, by simp, by decide, gW_L_15⟩)) (by decide) (by decide) gW_L_17 (i := 5) (len := 2) (L2 := [some (.ref 0), some (.int x0), some (.int x1), some (.int x2), some (.ref 94), none]) (Or.inl ⟨dL_key_23, rfl⟩) (by decide) rfl ?_
        show AW X (0 + 3) (0 + 200) 25 [some (.ref 0), some (.int x0), some (.int x1), some (.int x2), some (.ref 94), none] [] T9 I9 J9 R9
        refine aw_iconst (v := 3) hC dL_key_25 (by decide) ?_
        exact aw_ireturn hC hq rfl dL_key_26 a_le a_le (LwP.th (k := 2) (by decide) (by decide) hf hs hg)
      · cases hj
  · rcases hQ with ⟨hf, ⟨v, m2, e1, hs, hg⟩ | ⟨j, E, hj, e1, hs, hg⟩⟩
    · cases e1
      have hR9 := hg.hR
      show AW X (0 + 3) (0 + 200) 10 [some (.ref 0), some (.int x0), some (.int x1), some (.int x2), some (.ref 94), none] [.int v, .int 0, .ref 94] T9 I9 J9 R9
      refine aw_i2l hC dL_key_10 ?_
      refine aw_lastore_k (j := 0) hC dL_key_11 (tg_94 (hT.next hp9)) (by decide) (by unfold vp_in; decide) ?_
      refine aw_goto (tgt := 27) hC dL_key_12 (by decide) ?_
      refine aw_iconst (v := 0) hC dL_key_27 (by decide) ?_
      exact aw_ireturn hC hq rfl dL_key_28 a_le a_le (LwP.ok hf hs hg rfl)
    · cases e1
set_option maxRecDepth 100000 in
theorem m_L_lock {T : List aT} {I : aI} {J : aJ} {R : aR} {m : aI} {c : Nat} (hT : aPT T) (x0 x1 : Int32) {Sp : Nat → Int32 → aI → Prop} (hM : MX11_lock 3 200 [.ref 0, .int x0, .int x1] T I J R (CP [exI] I J m c Sp)) : ML_lock 3 200 [.ref 0, .int x0, .int x1, .ref 94] T I J R (LwP I J c Sp) := by
  refine a_metW (by decide +kernel) a_le (fun X hC hq => ?_)
  show AW X 0 0 0 [some (.ref 0), some (.int x0), some (.int x1), some (.ref 94), none] [] T I J R
  refine aw_aload_n hC dL_lock_0 rfl ?_
  refine aw_iconst (v := 0) hC dL_lock_1 (by decide) ?_
  refine aw_aload_n hC dL_lock_2 rfl ?_
  refine aw_iload_n hC dL_lock_3 rfl ?_
  refine aw_iload_n hC dL_lock_4 rfl ?_
  refine kL_33 hC rfl hM dL_lock_5 (tg_0 hT) rfl a_le a_le a_le a_le a_le rfl (fun E9 T9 I9 J9 R9 hp9 hQ => ?_) (fun v9 T9 I9 J9 R9 hp9 hQ => ?_)
  · rcases hQ with ⟨hf, ⟨v, m2, e1, hs, hg⟩ | ⟨j, E, hj, e1, hs, hg⟩⟩
    · cases e1
    · cases e1
      rcases j with _ | j
      · cases hj
        refine ae_catch hC [] ⟨0, 10, 13, 13⟩ [] rfl (by simp) (fun z hz => nomatch hz) (by decide) (by decide) gW_L_13 (i := 4) (len := 2) (L2 := [some (.ref 0), some (.int x0), some (.int x1), some (.ref 94), none]) (Or.inl ⟨dL_lock_13, rfl⟩) (by decide) rfl ?_
        show AW X (0 + 3) (0 + 200) 15 [some (.ref 0), some (.int x0), some (.int x1), some (.ref 94), none] [] T9 I9 J9 R9
        refine aw_iconst (v := 1) hC dL_lock_15 (by decide) ?_
        exact aw_ireturn hC hq rfl dL_lock_16 a_le a_le (LwP.th (k := 0) (by decide) (by decide) hf hs hg)
      · cases hj
  · rcases hQ with ⟨hf, ⟨v, m2, e1, hs, hg⟩ | ⟨j, E, hj, e1, hs, hg⟩⟩
    · cases e1
      have hR9 := hg.hR
      show AW X (0 + 3) (0 + 200) 8 [some (.ref 0), some (.int x0), some (.int x1), some (.ref 94), none] [.int v, .int 0, .ref 94] T9 I9 J9 R9
      refine aw_i2l hC dL_lock_8 ?_
      refine aw_lastore_k (j := 0) hC dL_lock_9 (tg_94 (hT.next hp9)) (by decide) (by unfold vp_in; decide) ?_
      refine aw_goto (tgt := 17) hC dL_lock_10 (by decide) ?_
      refine aw_iconst (v := 0) hC dL_lock_17 (by decide) ?_
      exact aw_ireturn hC hq rfl dL_lock_18 a_le a_le (LwP.ok hf hs hg rfl)
    · cases e1
set_option maxRecDepth 100000 in
theorem m_L_make {T : List aT} {I : aI} {J : aJ} {R : aR} {m : aI} {c : Nat} (hT : aPT T) (x0 : Int32) {Sp : Nat → Int32 → aI → Prop} (hM : MX11_make 3 200 [.ref 0, .int x0] T I J R (CP [exI, exS] I J m c Sp)) : ML_make 3 200 [.ref 0, .int x0, .ref 94] T I J R (LwP I J c Sp) := by
  refine a_metW (by decide +kernel) a_le (fun X hC hq => ?_)
  show AW X 0 0 0 [some (.ref 0), some (.int x0), some (.ref 94), none] [] T I J R
  refine aw_aload_n hC dL_make_0 rfl ?_
  refine aw_iconst (v := 0) hC dL_make_1 (by decide) ?_
  refine aw_aload_n hC dL_make_2 rfl ?_
  refine aw_iload_n hC dL_make_3 rfl ?_
  refine kL_121 hC rfl hM dL_make_4 (tg_0 hT) rfl a_le a_le a_le a_le a_le rfl (fun E9 T9 I9 J9 R9 hp9 hQ => ?_) (fun v9 T9 I9 J9 R9 hp9 hQ => ?_)
  · rcases hQ with ⟨hf, ⟨v, m2, e1, hs, hg⟩ | ⟨j, E, hj, e1, hs, hg⟩⟩
    · cases e1
    · cases e1
      rcases j with _ | _ | j
      · cases hj
        refine ae_catch hC [] ⟨0, 9, 12, 13⟩ [⟨0, 9, 15, 17⟩] rfl (by simp) (fun z hz => nomatch hz) (by decide) (by decide) gW_L_13 (i := 3) (len := 1) (L2 := [some (.ref 0), some (.int x0), some (.ref 94), none]) (Or.inr ⟨3, dL_make_12, rfl, rfl⟩) (by decide) rfl ?_
        show AW X (0 + 3) (0 + 200) 13 [some (.ref 0), some (.int x0), some (.ref 94), none] [] T9 I9 J9 R9
        refine aw_iconst (v := 1) hC dL_make_13 (by decide) ?_
        exact aw_ireturn hC hq rfl dL_make_14 a_le a_le (LwP.th (k := 0) (by decide) (by decide) hf hs hg)
      · cases hj
        refine ae_catch hC [⟨0, 9, 12, 13⟩] ⟨0, 9, 15, 17⟩ [] rfl (by simp) (fun z hz => by simp only [List.mem_cons, List.not_mem_nil, or_false] at hz; rcases hz with rfl; exact Or.inr ⟨by decide, exI, by simp, by decide, gW_L_13⟩) (by decide) (by decide) gW_L_17 (i := 3) (len := 1) (L2 := [some (.ref 0), some (.int x0), some (.ref 94), none]) (Or.inr ⟨3, dL_make_15, rfl, rfl⟩) (by decide) rfl ?_
        show AW X (0 + 3) (0 + 200) 16 [some (.ref 0), some (.int x0), some (.ref 94), none] [] T9 I9 J9 R9
        refine aw_iconst (v := 2) hC dL_make_16 (by decide) ?_
        exact aw_ireturn hC hq rfl dL_make_17 a_le a_le (LwP.th (k := 1) (by decide) (by decide) hf hs hg)
      · cases hj
  · rcases hQ with ⟨hf, ⟨v, m2, e1, hs, hg⟩ | ⟨j, E, hj, e1, hs, hg⟩⟩
    · cases e1
      have hR9 := hg.hR
      show AW X (0 + 3) (0 + 200) 7 [some (.ref 0), some (.int x0), some (.ref 94), none] [.int v, .int 0, .ref 94] T9 I9 J9 R9
      refine aw_i2l hC dL_make_7 ?_
      refine aw_lastore_k (j := 0) hC dL_make_8 (tg_94 (hT.next hp9)) (by decide) (by unfold vp_in; decide) ?_
      refine aw_goto (tgt := 18) hC dL_make_9 (by decide) ?_
      refine aw_iconst (v := 0) hC dL_make_18 (by decide) ?_
      exact aw_ireturn hC hq rfl dL_make_19 a_le a_le (LwP.ok hf hs hg rfl)
    · cases e1
set_option maxRecDepth 100000 in
theorem m_L_move {T : List aT} {I : aI} {J : aJ} {R : aR} {m : aI} {c : Nat} (hT : aPT T) (x0 x1 : Int32) {Sp : Nat → Int32 → aI → Prop} (hM : MX11_move 3 200 [.ref 0, .int x0, .int x1] T I J R (CP [exI, exS] I J m c Sp)) : ML_move 3 200 [.ref 0, .int x0, .int x1, .ref 94] T I J R (LwP I J c Sp) := by
  refine a_metW (by decide +kernel) a_le (fun X hC hq => ?_)
  show AW X 0 0 0 [some (.ref 0), some (.int x0), some (.int x1), some (.ref 94), none] [] T I J R
  refine aw_aload_n hC dL_move_0 rfl ?_
  refine aw_iconst (v := 0) hC dL_move_1 (by decide) ?_
  refine aw_aload_n hC dL_move_2 rfl ?_
  refine aw_iload_n hC dL_move_3 rfl ?_
  refine aw_iload_n hC dL_move_4 rfl ?_
  refine kL_128 hC rfl hM dL_move_5 (tg_0 hT) rfl a_le a_le a_le a_le a_le rfl (fun E9 T9 I9 J9 R9 hp9 hQ => ?_) (fun v9 T9 I9 J9 R9 hp9 hQ => ?_)
  · rcases hQ with ⟨hf, ⟨v, m2, e1, hs, hg⟩ | ⟨j, E, hj, e1, hs, hg⟩⟩
    · cases e1
    · cases e1
      rcases j with _ | _ | j
      · cases hj
        refine ae_catch hC [] ⟨0, 10, 13, 13⟩ [⟨0, 10, 17, 17⟩] rfl (by simp) (fun z hz => nomatch hz) (by decide) (by decide) gW_L_13 (i := 4) (len := 2) (L2 := [some (.ref 0), some (.int x0), some (.int x1), some (.ref 94), none]) (Or.inl ⟨dL_move_13, rfl⟩) (by decide) rfl ?_
        show AW X (0 + 3) (0 + 200) 15 [some (.ref 0), some (.int x0), some (.int x1), some (.ref 94), none] [] T9 I9 J9 R9
        refine aw_iconst (v := 1) hC dL_move_15 (by decide) ?_
        exact aw_ireturn hC hq rfl dL_move_16 a_le a_le (LwP.th (k := 0) (by decide) (by decide) hf hs hg)
      · cases hj
        refine ae_catch hC [⟨0, 10, 13, 13⟩] ⟨0, 10, 17, 17⟩ [] rfl (by simp) (fun z hz => by simp only [List.mem_cons, List.not_mem_nil, or_false] at hz; rcases hz with rfl; exact Or.inr ⟨by decide, exI, by simp, by decide, gW_L_13⟩) (by decide) (by decide) gW_L_17 (i := 4) (len := 2) (L2 := [some (.ref 0), some (.int x0), some (.int x1), some (.ref 94), none]) (Or.inl ⟨dL_move_17, rfl⟩) (by decide) rfl ?_
        show AW X (0 + 3) (0 + 200) 19 [some (.ref 0), some (.int x0), some (.int x1), some (.ref 94), none] [] T9 I9 J9 R9
        refine aw_iconst (v := 2) hC dL_move_19 (by decide) ?_
        exact aw_ireturn hC hq rfl dL_move_20 a_le a_le (LwP.th (k := 1) (by decide) (by decide) hf hs hg)
      · cases hj
  · rcases hQ with ⟨hf, ⟨v, m2, e1, hs, hg⟩ | ⟨j, E, hj, e1, hs, hg⟩⟩
    · cases e1
      have hR9 := hg.hR
      show AW X (0 + 3) (0 + 200) 8 [some (.ref 0), some (.int x0), some (.int x1), some (.ref 94), none] [.int v, .int 0, .ref 94] T9 I9 J9 R9
      refine aw_i2l hC dL_move_8 ?_
      refine aw_lastore_k (j := 0) hC dL_move_9 (tg_94 (hT.next hp9)) (by decide) (by unfold vp_in; decide) ?_
      refine aw_goto (tgt := 21) hC dL_move_10 (by decide) ?_
      refine aw_iconst (v := 0) hC dL_move_21 (by decide) ?_
      exact aw_ireturn hC hq rfl dL_move_22 a_le a_le (LwP.ok hf hs hg rfl)
    · cases e1
set_option maxRecDepth 100000 in
theorem m_L_pass {T : List aT} {I : aI} {J : aJ} {R : aR} {m : aI} {c : Nat} (hT : aPT T) (x0 : Int32) {Sp : Nat → Int32 → aI → Prop} (hM : MX11_pass 3 200 [.ref 0, .int x0] T I J R (CP [exA] I J m c Sp)) : ML_pass 3 200 [.ref 0, .int x0, .ref 94] T I J R (LwP I J c Sp) := by
  refine a_metW (by decide +kernel) a_le (fun X hC hq => ?_)
  show AW X 0 0 0 [some (.ref 0), some (.int x0), some (.ref 94), none] [] T I J R
  refine aw_aload_n hC dL_pass_0 rfl ?_
  refine aw_iconst (v := 0) hC dL_pass_1 (by decide) ?_
  refine aw_aload_n hC dL_pass_2 rfl ?_
  refine aw_iload_n hC dL_pass_3 rfl ?_
  refine kL_40 hC rfl hM dL_pass_4 (tg_0 hT) rfl a_le a_le a_le a_le a_le rfl (fun E9 T9 I9 J9 R9 hp9 hQ => ?_) (fun v9 T9 I9 J9 R9 hp9 hQ => ?_)
  · rcases hQ with ⟨hf, ⟨v, m2, e1, hs, hg⟩ | ⟨j, E, hj, e1, hs, hg⟩⟩
    · cases e1
    · cases e1
      rcases j with _ | j
      · cases hj
        refine ae_catch hC [] ⟨0, 9, 12, 15⟩ [] rfl (by simp) (fun z hz => nomatch hz) (by decide) (by decide) gW_L_15 (i := 3) (len := 1) (L2 := [some (.ref 0), some (.int x0), some (.ref 94), none]) (Or.inr ⟨3, dL_pass_12, rfl, rfl⟩) (by decide) rfl ?_
        show AW X (0 + 3) (0 + 200) 13 [some (.ref 0), some (.int x0), some (.ref 94), none] [] T9 I9 J9 R9
        refine aw_iconst (v := 1) hC dL_pass_13 (by decide) ?_
        exact aw_ireturn hC hq rfl dL_pass_14 a_le a_le (LwP.th (k := 0) (by decide) (by decide) hf hs hg)
      · cases hj
  · rcases hQ with ⟨hf, ⟨v, m2, e1, hs, hg⟩ | ⟨j, E, hj, e1, hs, hg⟩⟩
    · cases e1
      have hR9 := hg.hR
      show AW X (0 + 3) (0 + 200) 7 [some (.ref 0), some (.int x0), some (.ref 94), none] [.int v, .int 0, .ref 94] T9 I9 J9 R9
      refine aw_i2l hC dL_pass_7 ?_
      refine aw_lastore_k (j := 0) hC dL_pass_8 (tg_94 (hT.next hp9)) (by decide) (by unfold vp_in; decide) ?_
      refine aw_goto (tgt := 15) hC dL_pass_9 (by decide) ?_
      refine aw_iconst (v := 0) hC dL_pass_15 (by decide) ?_
      exact aw_ireturn hC hq rfl dL_pass_16 a_le a_le (LwP.ok hf hs hg rfl)
    · cases e1
set_option maxRecDepth 100000 in
theorem m_L_plan {T : List aT} {I : aI} {J : aJ} {R : aR} {m : aI} {c : Nat} (hT : aPT T) (x0 : Int32) {Sp : Nat → Int32 → aI → Prop} (hM : MX11_plan 3 200 [.ref 0, .int x0] T I J R (CP [exI, exS] I J m c Sp)) : ML_plan 3 200 [.ref 0, .int x0, .ref 94] T I J R (LwP I J c Sp) := by
  refine a_metW (by decide +kernel) a_le (fun X hC hq => ?_)
  show AW X 0 0 0 [some (.ref 0), some (.int x0), some (.ref 94), none] [] T I J R
  refine aw_aload_n hC dL_plan_0 rfl ?_
  refine aw_iconst (v := 0) hC dL_plan_1 (by decide) ?_
  refine aw_aload_n hC dL_plan_2 rfl ?_
  refine aw_iload_n hC dL_plan_3 rfl ?_
  refine kL_83 hC rfl hM dL_plan_4 (tg_0 hT) rfl a_le a_le a_le a_le a_le rfl (fun E9 T9 I9 J9 R9 hp9 hQ => ?_) (fun v9 T9 I9 J9 R9 hp9 hQ => ?_)
  · rcases hQ with ⟨hf, ⟨v, m2, e1, hs, hg⟩ | ⟨j, E, hj, e1, hs, hg⟩⟩
    · cases e1
    · cases e1
      rcases j with _ | _ | j
      · cases hj
        refine ae_catch hC [] ⟨0, 9, 12, 13⟩ [⟨0, 9, 15, 17⟩] rfl (by simp) (fun z hz => nomatch hz) (by decide) (by decide) gW_L_13 (i := 3) (len := 1) (L2 := [some (.ref 0), some (.int x0), some (.ref 94), none]) (Or.inr ⟨3, dL_plan_12, rfl, rfl⟩) (by decide) rfl ?_
        show AW X (0 + 3) (0 + 200) 13 [some (.ref 0), some (.int x0), some (.ref 94), none] [] T9 I9 J9 R9
        refine aw_iconst (v := 1) hC dL_plan_13 (by decide) ?_
        exact aw_ireturn hC hq rfl dL_plan_14 a_le a_le (LwP.th (k := 0) (by decide) (by decide) hf hs hg)
      · cases hj
        refine ae_catch hC [⟨0, 9, 12, 13⟩] ⟨0, 9, 15, 17⟩ [] rfl (by simp) (fun z hz => by simp only [List.mem_cons, List.not_mem_nil, or_false] at hz; rcases hz with rfl; exact Or.inr ⟨by decide, exI, by simp, by decide, gW_L_13⟩) (by decide) (by decide) gW_L_17 (i := 3) (len := 1) (L2 := [some (.ref 0), some (.int x0), some (.ref 94), none]) (Or.inr ⟨3, dL_plan_15, rfl, rfl⟩) (by decide) rfl ?_
        show AW X (0 + 3) (0 + 200) 16 [some (.ref 0), some (.int x0), some (.ref 94), none] [] T9 I9 J9 R9
        refine aw_iconst (v := 2) hC dL_plan_16 (by decide) ?_
        exact aw_ireturn hC hq rfl dL_plan_17 a_le a_le (LwP.th (k := 1) (by decide) (by decide) hf hs hg)
      · cases hj
  · rcases hQ with ⟨hf, ⟨v, m2, e1, hs, hg⟩ | ⟨j, E, hj, e1, hs, hg⟩⟩
    · cases e1
      have hR9 := hg.hR
      show AW X (0 + 3) (0 + 200) 7 [some (.ref 0), some (.int x0), some (.ref 94), none] [.int v, .int 0, .ref 94] T9 I9 J9 R9
      refine aw_i2l hC dL_plan_7 ?_
      refine aw_lastore_k (j := 0) hC dL_plan_8 (tg_94 (hT.next hp9)) (by decide) (by unfold vp_in; decide) ?_
      refine aw_goto (tgt := 18) hC dL_plan_9 (by decide) ?_
      refine aw_iconst (v := 0) hC dL_plan_18 (by decide) ?_
      exact aw_ireturn hC hq rfl dL_plan_19 a_le a_le (LwP.ok hf hs hg rfl)
    · cases e1
set_option maxRecDepth 100000 in
theorem m_L_policy {T : List aT} {I : aI} {J : aJ} {R : aR} {m : aI} {c : Nat} (hT : aPT T) (x0 x1 x2 : Int32) {Sp : Nat → Int32 → aI → Prop} (hM : MX11_policy 3 200 [.ref 0, .int x0, .int x1, .int x2] T I J R (CP [exI, exA, exS] I J m c Sp)) : ML_policy 3 200 [.ref 0, .int x0, .int x1, .int x2, .ref 94] T I J R (LwP I J c Sp) := by
  refine a_metW (by decide +kernel) a_le (fun X hC hq => ?_)
  show AW X 0 0 0 [some (.ref 0), some (.int x0), some (.int x1), some (.int x2), some (.ref 94), none] [] T I J R
  refine aw_aload hC dL_policy_0 rfl ?_
  refine aw_iconst (v := 0) hC dL_policy_2 (by decide) ?_
  refine aw_aload_n hC dL_policy_3 rfl ?_
  refine aw_iload_n hC dL_policy_4 rfl ?_
  refine aw_iload_n hC dL_policy_5 rfl ?_
  refine aw_iload_n hC dL_policy_6 rfl ?_
  refine kL_55 hC rfl hM dL_policy_7 (tg_0 hT) rfl a_le a_le a_le a_le a_le rfl (fun E9 T9 I9 J9 R9 hp9 hQ => ?_) (fun v9 T9 I9 J9 R9 hp9 hQ => ?_)
  · rcases hQ with ⟨hf, ⟨v, m2, e1, hs, hg⟩ | ⟨j, E, hj, e1, hs, hg⟩⟩
    · cases e1
    · cases e1
      rcases j with _ | _ | _ | j
      · cases hj
        refine ae_catch hC [] ⟨0, 12, 15, 13⟩ [⟨0, 12, 19, 15⟩, ⟨0, 12, 23, 17⟩] rfl (by simp) (fun z hz => nomatch hz) (by decide) (by decide) gW_L_13 (i := 5) (len := 2) (L2 := [some (.ref 0), some (.int x0), some (.int x1), some (.int x2), some (.ref 94), none]) (Or.inl ⟨dL_policy_15, rfl⟩) (by decide) rfl ?_
        show AW X (0 + 3) (0 + 200) 17 [some (.ref 0), some (.int x0), some (.int x1), some (.int x2), some (.ref 94), none] [] T9 I9 J9 R9
        refine aw_iconst (v := 1) hC dL_policy_17 (by decide) ?_
        exact aw_ireturn hC hq rfl dL_policy_18 a_le a_le (LwP.th (k := 0) (by decide) (by decide) hf hs hg)
      · cases hj
        refine ae_catch hC [⟨0, 12, 15, 13⟩] ⟨0, 12, 19, 15⟩ [⟨0, 12, 23, 17⟩] rfl (by simp) (fun z hz => by simp only [List.mem_cons, List.not_mem_nil, or_false] at hz; rcases hz with rfl; exact Or.inr ⟨by decide, exI, by simp, by decide, gW_L_13⟩) (by decide) (by decide) gW_L_15 (i := 5) (len := 2) (L2 := [some (.ref 0), some (.int x0), some (.int x1), some (.int x2), some (.ref 94), none]) (Or.inl ⟨dL_policy_19, rfl⟩) (by decide) rfl ?_
        show AW X (0 + 3) (0 + 200) 21 [some (.ref 0), some (.int x0), some (.int x1), some (.int x2), some (.ref 94), none] [] T9 I9 J9 R9
        refine aw_iconst (v := 2) hC dL_policy_21 (by decide) ?_
        exact aw_ireturn hC hq rfl dL_policy_22 a_le a_le (LwP.th (k := 1) (by decide) (by decide) hf hs hg)
      · cases hj
        refine ae_catch hC [⟨0, 12, 15, 13⟩, ⟨0, 12, 19, 15⟩] ⟨0, 12, 23, 17⟩ [] rfl (by simp) (fun z hz => by simp only [List.mem_cons, List.not_mem_nil, or_false] at hz; rcases hz with rfl | rfl; (exact Or.inr ⟨by decide, exI, by simp, by decide, gW_L_13⟩) ; (exact Or.inr ⟨by decide, exA, by simp, by decide, gW_L_15⟩)) (by decide) (by decide) gW_L_17 (i := 5) (len := 2) (L2 := [some (.ref 0), some (.int x0), some (.int x1), some (.int x2), some (.ref 94), none]) (Or.inl ⟨dL_policy_23, rfl⟩) (by decide) rfl ?_
        show AW X (0 + 3) (0 + 200) 25 [some (.ref 0), some (.int x0), some (.int x1), some (.int x2), some (.ref 94), none] [] T9 I9 J9 R9
        refine aw_iconst (v := 3) hC dL_policy_25 (by decide) ?_
        exact aw_ireturn hC hq rfl dL_policy_26 a_le a_le (LwP.th (k := 2) (by decide) (by decide) hf hs hg)
      · cases hj
  · rcases hQ with ⟨hf, ⟨v, m2, e1, hs, hg⟩ | ⟨j, E, hj, e1, hs, hg⟩⟩
    · cases e1
      have hR9 := hg.hR
      show AW X (0 + 3) (0 + 200) 10 [some (.ref 0), some (.int x0), some (.int x1), some (.int x2), some (.ref 94), none] [.int v, .int 0, .ref 94] T9 I9 J9 R9
      refine aw_i2l hC dL_policy_10 ?_
      refine aw_lastore_k (j := 0) hC dL_policy_11 (tg_94 (hT.next hp9)) (by decide) (by unfold vp_in; decide) ?_
      refine aw_goto (tgt := 27) hC dL_policy_12 (by decide) ?_
      refine aw_iconst (v := 0) hC dL_policy_27 (by decide) ?_
      exact aw_ireturn hC hq rfl dL_policy_28 a_le a_le (LwP.ok hf hs hg rfl)
    · cases e1
set_option maxRecDepth 100000 in
theorem m_L_proof {T : List aT} {I : aI} {J : aJ} {R : aR} {m : aI} {c : Nat} (hT : aPT T) (x0 : Int32) {Sp : Nat → Int32 → aI → Prop} (hM : MX11_proof 3 200 [.ref 0, .int x0] T I J R (CP [exI] I J m c Sp)) : ML_proof 3 200 [.ref 0, .int x0, .ref 94] T I J R (LwP I J c Sp) := by
  refine a_metW (by decide +kernel) a_le (fun X hC hq => ?_)
  show AW X 0 0 0 [some (.ref 0), some (.int x0), some (.ref 94), none] [] T I J R
  refine aw_aload_n hC dL_proof_0 rfl ?_
  refine aw_iconst (v := 0) hC dL_proof_1 (by decide) ?_
  refine aw_aload_n hC dL_proof_2 rfl ?_
  refine aw_iload_n hC dL_proof_3 rfl ?_
  refine kL_58 hC rfl hM dL_proof_4 (tg_0 hT) rfl a_le a_le a_le a_le a_le rfl (fun E9 T9 I9 J9 R9 hp9 hQ => ?_) (fun v9 T9 I9 J9 R9 hp9 hQ => ?_)
  · rcases hQ with ⟨hf, ⟨v, m2, e1, hs, hg⟩ | ⟨j, E, hj, e1, hs, hg⟩⟩
    · cases e1
    · cases e1
      rcases j with _ | j
      · cases hj
        refine ae_catch hC [] ⟨0, 9, 12, 13⟩ [] rfl (by simp) (fun z hz => nomatch hz) (by decide) (by decide) gW_L_13 (i := 3) (len := 1) (L2 := [some (.ref 0), some (.int x0), some (.ref 94), none]) (Or.inr ⟨3, dL_proof_12, rfl, rfl⟩) (by decide) rfl ?_
        show AW X (0 + 3) (0 + 200) 13 [some (.ref 0), some (.int x0), some (.ref 94), none] [] T9 I9 J9 R9
        refine aw_iconst (v := 1) hC dL_proof_13 (by decide) ?_
        exact aw_ireturn hC hq rfl dL_proof_14 a_le a_le (LwP.th (k := 0) (by decide) (by decide) hf hs hg)
      · cases hj
  · rcases hQ with ⟨hf, ⟨v, m2, e1, hs, hg⟩ | ⟨j, E, hj, e1, hs, hg⟩⟩
    · cases e1
      have hR9 := hg.hR
      show AW X (0 + 3) (0 + 200) 7 [some (.ref 0), some (.int x0), some (.ref 94), none] [.int v, .int 0, .ref 94] T9 I9 J9 R9
      refine aw_i2l hC dL_proof_7 ?_
      refine aw_lastore_k (j := 0) hC dL_proof_8 (tg_94 (hT.next hp9)) (by decide) (by unfold vp_in; decide) ?_
      refine aw_goto (tgt := 15) hC dL_proof_9 (by decide) ?_
      refine aw_iconst (v := 0) hC dL_proof_15 (by decide) ?_
      exact aw_ireturn hC hq rfl dL_proof_16 a_le a_le (LwP.ok hf hs hg rfl)
    · cases e1
set_option maxRecDepth 100000 in
theorem m_L_publish {T : List aT} {I : aI} {J : aJ} {R : aR} {m : aI} {c : Nat} (hT : aPT T) (x0 : Int32) {Sp : Nat → Int32 → aI → Prop} (hM : MX11_publish 3 200 [.ref 0, .int x0] T I J R (CP [exI, exS] I J m c Sp)) : ML_publish 3 200 [.ref 0, .int x0, .ref 94] T I J R (LwP I J c Sp) := by
  refine a_metW (by decide +kernel) a_le (fun X hC hq => ?_)
  show AW X 0 0 0 [some (.ref 0), some (.int x0), some (.ref 94), none] [] T I J R
  refine aw_aload_n hC dL_publish_0 rfl ?_
  refine aw_iconst (v := 0) hC dL_publish_1 (by decide) ?_
  refine aw_aload_n hC dL_publish_2 rfl ?_
  refine aw_iload_n hC dL_publish_3 rfl ?_
  refine kL_22 hC rfl hM dL_publish_4 (tg_0 hT) rfl a_le a_le a_le a_le a_le rfl (fun E9 T9 I9 J9 R9 hp9 hQ => ?_) (fun v9 T9 I9 J9 R9 hp9 hQ => ?_)
  · rcases hQ with ⟨hf, ⟨v, m2, e1, hs, hg⟩ | ⟨j, E, hj, e1, hs, hg⟩⟩
    · cases e1
    · cases e1
      rcases j with _ | _ | j
      · cases hj
        refine ae_catch hC [] ⟨0, 9, 12, 13⟩ [⟨0, 9, 15, 17⟩] rfl (by simp) (fun z hz => nomatch hz) (by decide) (by decide) gW_L_13 (i := 3) (len := 1) (L2 := [some (.ref 0), some (.int x0), some (.ref 94), none]) (Or.inr ⟨3, dL_publish_12, rfl, rfl⟩) (by decide) rfl ?_
        show AW X (0 + 3) (0 + 200) 13 [some (.ref 0), some (.int x0), some (.ref 94), none] [] T9 I9 J9 R9
        refine aw_iconst (v := 1) hC dL_publish_13 (by decide) ?_
        exact aw_ireturn hC hq rfl dL_publish_14 a_le a_le (LwP.th (k := 0) (by decide) (by decide) hf hs hg)
      · cases hj
        refine ae_catch hC [⟨0, 9, 12, 13⟩] ⟨0, 9, 15, 17⟩ [] rfl (by simp) (fun z hz => by simp only [List.mem_cons, List.not_mem_nil, or_false] at hz; rcases hz with rfl; exact Or.inr ⟨by decide, exI, by simp, by decide, gW_L_13⟩) (by decide) (by decide) gW_L_17 (i := 3) (len := 1) (L2 := [some (.ref 0), some (.int x0), some (.ref 94), none]) (Or.inr ⟨3, dL_publish_15, rfl, rfl⟩) (by decide) rfl ?_
        show AW X (0 + 3) (0 + 200) 16 [some (.ref 0), some (.int x0), some (.ref 94), none] [] T9 I9 J9 R9
        refine aw_iconst (v := 2) hC dL_publish_16 (by decide) ?_
        exact aw_ireturn hC hq rfl dL_publish_17 a_le a_le (LwP.th (k := 1) (by decide) (by decide) hf hs hg)
      · cases hj
  · rcases hQ with ⟨hf, ⟨v, m2, e1, hs, hg⟩ | ⟨j, E, hj, e1, hs, hg⟩⟩
    · cases e1
      have hR9 := hg.hR
      show AW X (0 + 3) (0 + 200) 7 [some (.ref 0), some (.int x0), some (.ref 94), none] [.int v, .int 0, .ref 94] T9 I9 J9 R9
      refine aw_i2l hC dL_publish_7 ?_
      refine aw_lastore_k (j := 0) hC dL_publish_8 (tg_94 (hT.next hp9)) (by decide) (by unfold vp_in; decide) ?_
      refine aw_goto (tgt := 18) hC dL_publish_9 (by decide) ?_
      refine aw_iconst (v := 0) hC dL_publish_18 (by decide) ?_
      exact aw_ireturn hC hq rfl dL_publish_19 a_le a_le (LwP.ok hf hs hg rfl)
    · cases e1
set_option maxRecDepth 100000 in
theorem m_L_read {T : List aT} {I : aI} {J : aJ} {R : aR} {m : aI} {c : Nat} (hT : aPT T) {Sp : Nat → Int32 → aI → Prop} (hM : MX11_read 3 200 [.ref 0] T I J R (CP [exS] I J m c Sp)) : ML_read 3 200 [.ref 0, .ref 94] T I J R (LwP I J c Sp) := by
  refine a_metW (by decide +kernel) a_le (fun X hC hq => ?_)
  show AW X 0 0 0 [some (.ref 0), some (.ref 94), none] [] T I J R
  refine aw_aload_n hC dL_read_0 rfl ?_
  refine aw_iconst (v := 0) hC dL_read_1 (by decide) ?_
  refine aw_aload_n hC dL_read_2 rfl ?_
  refine kL_124 hC rfl hM dL_read_3 (tg_0 hT) rfl a_le a_le a_le a_le a_le rfl (fun E9 T9 I9 J9 R9 hp9 hQ => ?_) (fun v9 T9 I9 J9 R9 hp9 hQ => ?_)
  · rcases hQ with ⟨hf, ⟨v, m2, e1, hs, hg⟩ | ⟨j, E, hj, e1, hs, hg⟩⟩
    · cases e1
    · cases e1
      rcases j with _ | j
      · cases hj
        refine ae_catch hC [] ⟨0, 8, 11, 17⟩ [] rfl (by simp) (fun z hz => nomatch hz) (by decide) (by decide) gW_L_17 (i := 2) (len := 1) (L2 := [some (.ref 0), some (.ref 94), none]) (Or.inr ⟨2, dL_read_11, rfl, rfl⟩) (by decide) rfl ?_
        show AW X (0 + 3) (0 + 200) 12 [some (.ref 0), some (.ref 94), none] [] T9 I9 J9 R9
        refine aw_iconst (v := 1) hC dL_read_12 (by decide) ?_
        exact aw_ireturn hC hq rfl dL_read_13 a_le a_le (LwP.th (k := 0) (by decide) (by decide) hf hs hg)
      · cases hj
  · rcases hQ with ⟨hf, ⟨v, m2, e1, hs, hg⟩ | ⟨j, E, hj, e1, hs, hg⟩⟩
    · cases e1
      have hR9 := hg.hR
      show AW X (0 + 3) (0 + 200) 6 [some (.ref 0), some (.ref 94), none] [.int v, .int 0, .ref 94] T9 I9 J9 R9
      refine aw_i2l hC dL_read_6 ?_
      refine aw_lastore_k (j := 0) hC dL_read_7 (tg_94 (hT.next hp9)) (by decide) (by unfold vp_in; decide) ?_
      refine aw_goto (tgt := 14) hC dL_read_8 (by decide) ?_
      refine aw_iconst (v := 0) hC dL_read_14 (by decide) ?_
      exact aw_ireturn hC hq rfl dL_read_15 a_le a_le (LwP.ok hf hs hg rfl)
    · cases e1
set_option maxRecDepth 100000 in
theorem m_L_real {T : List aT} {I : aI} {J : aJ} {R : aR} {m : aI} {c : Nat} (hT : aPT T) (x0 x1 : Int32) {Sp : Nat → Int32 → aI → Prop} (hM : MX11_real 3 200 [.ref 0, .int x0, .int x1] T I J R (CP [exI] I J m c Sp)) : ML_real 3 200 [.ref 0, .int x0, .int x1, .ref 94] T I J R (LwP I J c Sp) := by
  refine a_metW (by decide +kernel) a_le (fun X hC hq => ?_)
  show AW X 0 0 0 [some (.ref 0), some (.int x0), some (.int x1), some (.ref 94), none] [] T I J R
  refine aw_aload_n hC dL_real_0 rfl ?_
  refine aw_iconst (v := 0) hC dL_real_1 (by decide) ?_
  refine aw_aload_n hC dL_real_2 rfl ?_
  refine aw_iload_n hC dL_real_3 rfl ?_
  refine aw_iload_n hC dL_real_4 rfl ?_
  refine kL_112 hC rfl hM dL_real_5 (tg_0 hT) rfl a_le a_le a_le a_le a_le rfl (fun E9 T9 I9 J9 R9 hp9 hQ => ?_) (fun v9 T9 I9 J9 R9 hp9 hQ => ?_)
  · rcases hQ with ⟨hf, ⟨v, m2, e1, hs, hg⟩ | ⟨j, E, hj, e1, hs, hg⟩⟩
    · cases e1
    · cases e1
      rcases j with _ | j
      · cases hj
        refine ae_catch hC [] ⟨0, 10, 13, 13⟩ [] rfl (by simp) (fun z hz => nomatch hz) (by decide) (by decide) gW_L_13 (i := 4) (len := 2) (L2 := [some (.ref 0), some (.int x0), some (.int x1), some (.ref 94), none]) (Or.inl ⟨dL_real_13, rfl⟩) (by decide) rfl ?_
        show AW X (0 + 3) (0 + 200) 15 [some (.ref 0), some (.int x0), some (.int x1), some (.ref 94), none] [] T9 I9 J9 R9
        refine aw_iconst (v := 1) hC dL_real_15 (by decide) ?_
        exact aw_ireturn hC hq rfl dL_real_16 a_le a_le (LwP.th (k := 0) (by decide) (by decide) hf hs hg)
      · cases hj
  · rcases hQ with ⟨hf, ⟨v, m2, e1, hs, hg⟩ | ⟨j, E, hj, e1, hs, hg⟩⟩
    · cases e1
      have hR9 := hg.hR
      show AW X (0 + 3) (0 + 200) 8 [some (.ref 0), some (.int x0), some (.int x1), some (.ref 94), none] [.int v, .int 0, .ref 94] T9 I9 J9 R9
      refine aw_i2l hC dL_real_8 ?_
      refine aw_lastore_k (j := 0) hC dL_real_9 (tg_94 (hT.next hp9)) (by decide) (by unfold vp_in; decide) ?_
      refine aw_goto (tgt := 17) hC dL_real_10 (by decide) ?_
      refine aw_iconst (v := 0) hC dL_real_17 (by decide) ?_
      exact aw_ireturn hC hq rfl dL_real_18 a_le a_le (LwP.ok hf hs hg rfl)
    · cases e1
set_option maxRecDepth 100000 in
theorem m_L_rebase {T : List aT} {I : aI} {J : aJ} {R : aR} {m : aI} {c : Nat} (hT : aPT T) (x0 : Int32) {Sp : Nat → Int32 → aI → Prop} (hb : ∀ v m2, Sp 0 v m2 → v = 0 ∨ v = 1) (hM : MX11_rebase 3 200 [.ref 0, .int x0] T I J R (CP [exI, exS] I J m c Sp)) : ML_rebase 3 200 [.ref 0, .int x0, .ref 94] T I J R (LwP I J c Sp) := by
  refine a_metW (by decide +kernel) a_le (fun X hC hq => ?_)
  show AW X 0 0 0 [some (.ref 0), some (.int x0), some (.ref 94), none] [] T I J R
  refine aw_aload_n hC dL_rebase_0 rfl ?_
  refine aw_iconst (v := 0) hC dL_rebase_1 (by decide) ?_
  refine aw_aload_n hC dL_rebase_2 rfl ?_
  refine aw_iload_n hC dL_rebase_3 rfl ?_
  refine kL_97 hC rfl hM dL_rebase_4 (tg_0 hT) rfl a_le a_le a_le a_le a_le rfl (fun E9 T9 I9 J9 R9 hp9 hQ => ?_) (fun v9 T9 I9 J9 R9 hp9 hQ => ?_)
  · rcases hQ with ⟨hf, ⟨v, m2, e1, hs, hg⟩ | ⟨j, E, hj, e1, hs, hg⟩⟩
    · cases e1
    · cases e1
      rcases j with _ | _ | j
      · cases hj
        refine ae_catch hC [] ⟨0, 16, 19, 13⟩ [⟨0, 16, 22, 17⟩] rfl (by simp) (fun z hz => nomatch hz) (by decide) (by decide) gW_L_13 (i := 3) (len := 1) (L2 := [some (.ref 0), some (.int x0), some (.ref 94), none]) (Or.inr ⟨3, dL_rebase_19, rfl, rfl⟩) (by decide) rfl ?_
        show AW X (0 + 3) (0 + 200) 20 [some (.ref 0), some (.int x0), some (.ref 94), none] [] T9 I9 J9 R9
        refine aw_iconst (v := 1) hC dL_rebase_20 (by decide) ?_
        exact aw_ireturn hC hq rfl dL_rebase_21 a_le a_le (LwP.th (k := 0) (by decide) (by decide) hf hs hg)
      · cases hj
        refine ae_catch hC [⟨0, 16, 19, 13⟩] ⟨0, 16, 22, 17⟩ [] rfl (by simp) (fun z hz => by simp only [List.mem_cons, List.not_mem_nil, or_false] at hz; rcases hz with rfl; exact Or.inr ⟨by decide, exI, by simp, by decide, gW_L_13⟩) (by decide) (by decide) gW_L_17 (i := 3) (len := 1) (L2 := [some (.ref 0), some (.int x0), some (.ref 94), none]) (Or.inr ⟨3, dL_rebase_22, rfl, rfl⟩) (by decide) rfl ?_
        show AW X (0 + 3) (0 + 200) 23 [some (.ref 0), some (.int x0), some (.ref 94), none] [] T9 I9 J9 R9
        refine aw_iconst (v := 2) hC dL_rebase_23 (by decide) ?_
        exact aw_ireturn hC hq rfl dL_rebase_24 a_le a_le (LwP.th (k := 1) (by decide) (by decide) hf hs hg)
      · cases hj
  · rcases hQ with ⟨hf, ⟨v, m2, e1, hs, hg⟩ | ⟨j, E, hj, e1, hs, hg⟩⟩
    · cases e1
      have hR9 := hg.hR
      have hb9 := hb v m2 hs
      show AW X (0 + 3) (0 + 200) 7 [some (.ref 0), some (.int x0), some (.ref 94), none] [.int v, .int 0, .ref 94] T9 I9 J9 R9
      refine aw_if_eq (tgt := 14) hC dL_rebase_7 (by decide) (fun h1 => ?_) (fun h1 => ?_)
      · show AW X (0 + 3) (0 + 200) 14 [some (.ref 0), some (.int x0), some (.ref 94), none] [.int 0, .ref 94] T9 I9 J9 R9
        refine aw_lconst (v := 0) hC dL_rebase_14 (by decide) ?_
        refine aw_lastore_k (j := 0) hC dL_rebase_15 (tg_94 (hT.next hp9)) (by decide) (by unfold vp_in; decide) ?_
        refine aw_goto (tgt := 25) hC dL_rebase_16 (by decide) ?_
        refine aw_iconst (v := 0) hC dL_rebase_25 (by decide) ?_
        exact aw_ireturn hC hq rfl dL_rebase_26 a_le a_le (LwP.ok hf hs hg (by rcases hb9 with e | e <;> first | (rw [e]; rfl) | (exfalso; contradiction) | exact absurd ((show v = 0 by assumption).symm.trans e) (by decide)))
      · show AW X (0 + 3) (0 + 200) 10 [some (.ref 0), some (.int x0), some (.ref 94), none] [.int 0, .ref 94] T9 I9 J9 R9
        refine aw_lconst (v := 1) hC dL_rebase_10 (by decide) ?_
        refine aw_goto (tgt := 15) hC dL_rebase_11 (by decide) ?_
        refine aw_lastore_k (j := 0) hC dL_rebase_15 (tg_94 (hT.next hp9)) (by decide) (by unfold vp_in; decide) ?_
        refine aw_goto (tgt := 25) hC dL_rebase_16 (by decide) ?_
        refine aw_iconst (v := 0) hC dL_rebase_25 (by decide) ?_
        exact aw_ireturn hC hq rfl dL_rebase_26 a_le a_le (LwP.ok hf hs hg (by rcases hb9 with e | e <;> first | (rw [e]; rfl) | (exfalso; contradiction) | exact absurd ((show v = 0 by assumption).symm.trans e) (by decide)))
    · cases e1
set_option maxRecDepth 100000 in
theorem m_L_remove {T : List aT} {I : aI} {J : aJ} {R : aR} {m : aI} {c : Nat} (hT : aPT T) (x0 : Int32) {Sp : Nat → Int32 → aI → Prop} (hM : MX11_remove 3 200 [.ref 0, .int x0] T I J R (CP [exI] I J m c Sp)) : ML_remove 3 200 [.ref 0, .int x0, .ref 94] T I J R (LwP I J c Sp) := by
  refine a_metW (by decide +kernel) a_le (fun X hC hq => ?_)
  show AW X 0 0 0 [some (.ref 0), some (.int x0), some (.ref 94), none] [] T I J R
  refine aw_aload_n hC dL_remove_0 rfl ?_
  refine aw_iconst (v := 0) hC dL_remove_1 (by decide) ?_
  refine aw_aload_n hC dL_remove_2 rfl ?_
  refine aw_iload_n hC dL_remove_3 rfl ?_
  refine kL_26 hC rfl hM dL_remove_4 (tg_0 hT) rfl a_le a_le a_le a_le a_le rfl (fun E9 T9 I9 J9 R9 hp9 hQ => ?_) (fun v9 T9 I9 J9 R9 hp9 hQ => ?_)
  · rcases hQ with ⟨hf, ⟨v, m2, e1, hs, hg⟩ | ⟨j, E, hj, e1, hs, hg⟩⟩
    · cases e1
    · cases e1
      rcases j with _ | j
      · cases hj
        refine ae_catch hC [] ⟨0, 9, 12, 13⟩ [] rfl (by simp) (fun z hz => nomatch hz) (by decide) (by decide) gW_L_13 (i := 3) (len := 1) (L2 := [some (.ref 0), some (.int x0), some (.ref 94), none]) (Or.inr ⟨3, dL_remove_12, rfl, rfl⟩) (by decide) rfl ?_
        show AW X (0 + 3) (0 + 200) 13 [some (.ref 0), some (.int x0), some (.ref 94), none] [] T9 I9 J9 R9
        refine aw_iconst (v := 1) hC dL_remove_13 (by decide) ?_
        exact aw_ireturn hC hq rfl dL_remove_14 a_le a_le (LwP.th (k := 0) (by decide) (by decide) hf hs hg)
      · cases hj
  · rcases hQ with ⟨hf, ⟨v, m2, e1, hs, hg⟩ | ⟨j, E, hj, e1, hs, hg⟩⟩
    · cases e1
      have hR9 := hg.hR
      show AW X (0 + 3) (0 + 200) 7 [some (.ref 0), some (.int x0), some (.ref 94), none] [.int v, .int 0, .ref 94] T9 I9 J9 R9
      refine aw_i2l hC dL_remove_7 ?_
      refine aw_lastore_k (j := 0) hC dL_remove_8 (tg_94 (hT.next hp9)) (by decide) (by unfold vp_in; decide) ?_
      refine aw_goto (tgt := 15) hC dL_remove_9 (by decide) ?_
      refine aw_iconst (v := 0) hC dL_remove_15 (by decide) ?_
      exact aw_ireturn hC hq rfl dL_remove_16 a_le a_le (LwP.ok hf hs hg rfl)
    · cases e1
set_option maxRecDepth 100000 in
theorem m_L_set {T : List aT} {I : aI} {J : aJ} {R : aR} {m : aI} {c : Nat} (hT : aPT T) (x0 : Int32) {Sp : Nat → Int32 → aI → Prop} (hM : MX11_set 3 200 [.ref 0, .int x0] T I J R (CP [exI] I J m c Sp)) : ML_set 3 200 [.ref 0, .int x0, .ref 94] T I J R (LwP I J c Sp) := by
  refine a_metW (by decide +kernel) a_le (fun X hC hq => ?_)
  show AW X 0 0 0 [some (.ref 0), some (.int x0), some (.ref 94), none] [] T I J R
  refine aw_aload_n hC dL_set_0 rfl ?_
  refine aw_iconst (v := 0) hC dL_set_1 (by decide) ?_
  refine aw_aload_n hC dL_set_2 rfl ?_
  refine aw_iload_n hC dL_set_3 rfl ?_
  refine kL_49 hC rfl hM dL_set_4 (tg_0 hT) rfl a_le a_le a_le a_le a_le rfl (fun E9 T9 I9 J9 R9 hp9 hQ => ?_) (fun v9 T9 I9 J9 R9 hp9 hQ => ?_)
  · rcases hQ with ⟨hf, ⟨v, m2, e1, hs, hg⟩ | ⟨j, E, hj, e1, hs, hg⟩⟩
    · cases e1
    · cases e1
      rcases j with _ | j
      · cases hj
        refine ae_catch hC [] ⟨0, 9, 12, 13⟩ [] rfl (by simp) (fun z hz => nomatch hz) (by decide) (by decide) gW_L_13 (i := 3) (len := 1) (L2 := [some (.ref 0), some (.int x0), some (.ref 94), none]) (Or.inr ⟨3, dL_set_12, rfl, rfl⟩) (by decide) rfl ?_
        show AW X (0 + 3) (0 + 200) 13 [some (.ref 0), some (.int x0), some (.ref 94), none] [] T9 I9 J9 R9
        refine aw_iconst (v := 1) hC dL_set_13 (by decide) ?_
        exact aw_ireturn hC hq rfl dL_set_14 a_le a_le (LwP.th (k := 0) (by decide) (by decide) hf hs hg)
      · cases hj
  · rcases hQ with ⟨hf, ⟨v, m2, e1, hs, hg⟩ | ⟨j, E, hj, e1, hs, hg⟩⟩
    · cases e1
      have hR9 := hg.hR
      show AW X (0 + 3) (0 + 200) 7 [some (.ref 0), some (.int x0), some (.ref 94), none] [.int v, .int 0, .ref 94] T9 I9 J9 R9
      refine aw_i2l hC dL_set_7 ?_
      refine aw_lastore_k (j := 0) hC dL_set_8 (tg_94 (hT.next hp9)) (by decide) (by unfold vp_in; decide) ?_
      refine aw_goto (tgt := 15) hC dL_set_9 (by decide) ?_
      refine aw_iconst (v := 0) hC dL_set_15 (by decide) ?_
      exact aw_ireturn hC hq rfl dL_set_16 a_le a_le (LwP.ok hf hs hg rfl)
    · cases e1
set_option maxRecDepth 100000 in
theorem m_L_setAnew {T : List aT} {I : aI} {J : aJ} {R : aR} {m : aI} {c : Nat} (hT : aPT T) (x0 : Int32) {Sp : Nat → Int32 → aI → Prop} (hM : MX11_setAnew 3 200 [.ref 0, .int x0] T I J R (CP [exI] I J m c Sp)) : ML_setAnew 3 200 [.ref 0, .int x0, .ref 94] T I J R (LwP I J c Sp) := by
  refine a_metW (by decide +kernel) a_le (fun X hC hq => ?_)
  show AW X 0 0 0 [some (.ref 0), some (.int x0), some (.ref 94), none] [] T I J R
  refine aw_aload_n hC dL_setAnew_0 rfl ?_
  refine aw_iconst (v := 0) hC dL_setAnew_1 (by decide) ?_
  refine aw_aload_n hC dL_setAnew_2 rfl ?_
  refine aw_iload_n hC dL_setAnew_3 rfl ?_
  refine kL_52 hC rfl hM dL_setAnew_4 (tg_0 hT) rfl a_le a_le a_le a_le a_le rfl (fun E9 T9 I9 J9 R9 hp9 hQ => ?_) (fun v9 T9 I9 J9 R9 hp9 hQ => ?_)
  · rcases hQ with ⟨hf, ⟨v, m2, e1, hs, hg⟩ | ⟨j, E, hj, e1, hs, hg⟩⟩
    · cases e1
    · cases e1
      rcases j with _ | j
      · cases hj
        refine ae_catch hC [] ⟨0, 9, 12, 13⟩ [] rfl (by simp) (fun z hz => nomatch hz) (by decide) (by decide) gW_L_13 (i := 3) (len := 1) (L2 := [some (.ref 0), some (.int x0), some (.ref 94), none]) (Or.inr ⟨3, dL_setAnew_12, rfl, rfl⟩) (by decide) rfl ?_
        show AW X (0 + 3) (0 + 200) 13 [some (.ref 0), some (.int x0), some (.ref 94), none] [] T9 I9 J9 R9
        refine aw_iconst (v := 1) hC dL_setAnew_13 (by decide) ?_
        exact aw_ireturn hC hq rfl dL_setAnew_14 a_le a_le (LwP.th (k := 0) (by decide) (by decide) hf hs hg)
      · cases hj
  · rcases hQ with ⟨hf, ⟨v, m2, e1, hs, hg⟩ | ⟨j, E, hj, e1, hs, hg⟩⟩
    · cases e1
      have hR9 := hg.hR
      show AW X (0 + 3) (0 + 200) 7 [some (.ref 0), some (.int x0), some (.ref 94), none] [.int v, .int 0, .ref 94] T9 I9 J9 R9
      refine aw_i2l hC dL_setAnew_7 ?_
      refine aw_lastore_k (j := 0) hC dL_setAnew_8 (tg_94 (hT.next hp9)) (by decide) (by unfold vp_in; decide) ?_
      refine aw_goto (tgt := 15) hC dL_setAnew_9 (by decide) ?_
      refine aw_iconst (v := 0) hC dL_setAnew_15 (by decide) ?_
      exact aw_ireturn hC hq rfl dL_setAnew_16 a_le a_le (LwP.ok hf hs hg rfl)
    · cases e1
set_option maxRecDepth 100000 in
theorem m_L_setLayer {T : List aT} {I : aI} {J : aJ} {R : aR} {m : aI} {c : Nat} (hT : aPT T) (x0 x1 : Int32) {Sp : Nat → Int32 → aI → Prop} (hM : MX11_setLayer 3 200 [.ref 0, .int x0, .int x1] T I J R (CP [exI] I J m c Sp)) : ML_setLayer 3 200 [.ref 0, .int x0, .int x1, .ref 94] T I J R (LwP I J c Sp) := by
  refine a_metW (by decide +kernel) a_le (fun X hC hq => ?_)
  show AW X 0 0 0 [some (.ref 0), some (.int x0), some (.int x1), some (.ref 94), none] [] T I J R
  refine aw_aload_n hC dL_setLayer_0 rfl ?_
  refine aw_iconst (v := 0) hC dL_setLayer_1 (by decide) ?_
  refine aw_aload_n hC dL_setLayer_2 rfl ?_
  refine aw_iload_n hC dL_setLayer_3 rfl ?_
  refine aw_iload_n hC dL_setLayer_4 rfl ?_
  refine kL_29 hC rfl hM dL_setLayer_5 (tg_0 hT) rfl a_le a_le a_le a_le a_le rfl (fun E9 T9 I9 J9 R9 hp9 hQ => ?_) (fun v9 T9 I9 J9 R9 hp9 hQ => ?_)
  · rcases hQ with ⟨hf, ⟨v, m2, e1, hs, hg⟩ | ⟨j, E, hj, e1, hs, hg⟩⟩
    · cases e1
    · cases e1
      rcases j with _ | j
      · cases hj
        refine ae_catch hC [] ⟨0, 10, 13, 13⟩ [] rfl (by simp) (fun z hz => nomatch hz) (by decide) (by decide) gW_L_13 (i := 4) (len := 2) (L2 := [some (.ref 0), some (.int x0), some (.int x1), some (.ref 94), none]) (Or.inl ⟨dL_setLayer_13, rfl⟩) (by decide) rfl ?_
        show AW X (0 + 3) (0 + 200) 15 [some (.ref 0), some (.int x0), some (.int x1), some (.ref 94), none] [] T9 I9 J9 R9
        refine aw_iconst (v := 1) hC dL_setLayer_15 (by decide) ?_
        exact aw_ireturn hC hq rfl dL_setLayer_16 a_le a_le (LwP.th (k := 0) (by decide) (by decide) hf hs hg)
      · cases hj
  · rcases hQ with ⟨hf, ⟨v, m2, e1, hs, hg⟩ | ⟨j, E, hj, e1, hs, hg⟩⟩
    · cases e1
      have hR9 := hg.hR
      show AW X (0 + 3) (0 + 200) 8 [some (.ref 0), some (.int x0), some (.int x1), some (.ref 94), none] [.int v, .int 0, .ref 94] T9 I9 J9 R9
      refine aw_i2l hC dL_setLayer_8 ?_
      refine aw_lastore_k (j := 0) hC dL_setLayer_9 (tg_94 (hT.next hp9)) (by decide) (by unfold vp_in; decide) ?_
      refine aw_goto (tgt := 17) hC dL_setLayer_10 (by decide) ?_
      refine aw_iconst (v := 0) hC dL_setLayer_17 (by decide) ?_
      exact aw_ireturn hC hq rfl dL_setLayer_18 a_le a_le (LwP.ok hf hs hg rfl)
    · cases e1
set_option maxRecDepth 100000 in
theorem m_L_setType {T : List aT} {I : aI} {J : aJ} {R : aR} {m : aI} {c : Nat} (hT : aPT T) (x0 x1 x2 x3 x4 x5 : Int32) {Sp : Nat → Int32 → aI → Prop} (hM : MX11_setType 3 200 [.ref 0, .int x0, .int x1, .int x2, .int x3, .int x4, .int x5] T I J R (CPv [exI, exA, exS] I J m c Sp)) : ML_setType 3 200 [.ref 0, .int x0, .int x1, .int x2, .int x3, .int x4, .int x5] T I J R (LwPv I J c Sp) := by
  refine a_metW (by decide +kernel) a_le (fun X hC hq => ?_)
  show AW X 0 0 0 [some (.ref 0), some (.int x0), some (.int x1), some (.int x2), some (.int x3), some (.int x4), some (.int x5), none] [] T I J R
  refine aw_aload_n hC dL_setType_0 rfl ?_
  refine aw_iload_n hC dL_setType_1 rfl ?_
  refine aw_iload_n hC dL_setType_2 rfl ?_
  refine aw_iload_n hC dL_setType_3 rfl ?_
  refine aw_iload hC dL_setType_4 rfl ?_
  refine aw_iload hC dL_setType_6 rfl ?_
  refine aw_iload hC dL_setType_8 rfl ?_
  refine kL_61 hC rfl hM dL_setType_10 (tg_0 hT) rfl a_le a_le a_le a_le a_le rfl (fun E9 T9 I9 J9 R9 hp9 hQ => ?_) (fun v9 T9 I9 J9 R9 hp9 hQ => ?_)
  · rcases hQ with ⟨hf, ⟨m2, e1, hs, hg⟩ | ⟨j, E, hj, e1, hs, hg⟩⟩
    · cases e1
    · cases e1
      rcases j with _ | _ | _ | j
      · cases hj
        refine ae_catch hC [] ⟨0, 13, 16, 13⟩ [⟨0, 13, 20, 15⟩, ⟨0, 13, 24, 17⟩] rfl (by simp) (fun z hz => nomatch hz) (by decide) (by decide) gW_L_13 (i := 7) (len := 2) (L2 := [some (.ref 0), some (.int x0), some (.int x1), some (.int x2), some (.int x3), some (.int x4), some (.int x5), none]) (Or.inl ⟨dL_setType_16, rfl⟩) (by decide) rfl ?_
        show AW X (0 + 3) (0 + 200) 18 [some (.ref 0), some (.int x0), some (.int x1), some (.int x2), some (.int x3), some (.int x4), some (.int x5), none] [] T9 I9 J9 R9
        refine aw_iconst (v := 1) hC dL_setType_18 (by decide) ?_
        exact aw_ireturn hC hq rfl dL_setType_19 a_le a_le ⟨0 + 1, m, by decide, by decide, hs, hg, fun o a b => (hf o a b).1, fun o a b => (hf o a (by omega)).2⟩
      · cases hj
        refine ae_catch hC [⟨0, 13, 16, 13⟩] ⟨0, 13, 20, 15⟩ [⟨0, 13, 24, 17⟩] rfl (by simp) (fun z hz => by simp only [List.mem_cons, List.not_mem_nil, or_false] at hz; rcases hz with rfl; exact Or.inr ⟨by decide, exI, by simp, by decide, gW_L_13⟩) (by decide) (by decide) gW_L_15 (i := 7) (len := 2) (L2 := [some (.ref 0), some (.int x0), some (.int x1), some (.int x2), some (.int x3), some (.int x4), some (.int x5), none]) (Or.inl ⟨dL_setType_20, rfl⟩) (by decide) rfl ?_
        show AW X (0 + 3) (0 + 200) 22 [some (.ref 0), some (.int x0), some (.int x1), some (.int x2), some (.int x3), some (.int x4), some (.int x5), none] [] T9 I9 J9 R9
        refine aw_iconst (v := 2) hC dL_setType_22 (by decide) ?_
        exact aw_ireturn hC hq rfl dL_setType_23 a_le a_le ⟨1 + 1, m, by decide, by decide, hs, hg, fun o a b => (hf o a b).1, fun o a b => (hf o a (by omega)).2⟩
      · cases hj
        refine ae_catch hC [⟨0, 13, 16, 13⟩, ⟨0, 13, 20, 15⟩] ⟨0, 13, 24, 17⟩ [] rfl (by simp) (fun z hz => by simp only [List.mem_cons, List.not_mem_nil, or_false] at hz; rcases hz with rfl | rfl; (exact Or.inr ⟨by decide, exI, by simp, by decide, gW_L_13⟩) ; (exact Or.inr ⟨by decide, exA, by simp, by decide, gW_L_15⟩)) (by decide) (by decide) gW_L_17 (i := 7) (len := 2) (L2 := [some (.ref 0), some (.int x0), some (.int x1), some (.int x2), some (.int x3), some (.int x4), some (.int x5), none]) (Or.inl ⟨dL_setType_24, rfl⟩) (by decide) rfl ?_
        show AW X (0 + 3) (0 + 200) 26 [some (.ref 0), some (.int x0), some (.int x1), some (.int x2), some (.int x3), some (.int x4), some (.int x5), none] [] T9 I9 J9 R9
        refine aw_iconst (v := 3) hC dL_setType_26 (by decide) ?_
        exact aw_ireturn hC hq rfl dL_setType_27 a_le a_le ⟨2 + 1, m, by decide, by decide, hs, hg, fun o a b => (hf o a b).1, fun o a b => (hf o a (by omega)).2⟩
      · cases hj
  · rcases hQ with ⟨hf, ⟨m2, e1, hs, hg⟩ | ⟨j, E, hj, e1, hs, hg⟩⟩
    · cases e1
      have hR9 := hg.hR
      show AW X (0 + 3) (0 + 200) 13 [some (.ref 0), some (.int x0), some (.int x1), some (.int x2), some (.int x3), some (.int x4), some (.int x5), none] [] T9 I9 J9 R9
      refine aw_goto (tgt := 28) hC dL_setType_13 (by decide) ?_
      refine aw_iconst (v := 0) hC dL_setType_28 (by decide) ?_
      exact aw_ireturn hC hq rfl dL_setType_29 a_le a_le ⟨0, m2, rfl, by decide, hs, hg, fun o a b => (hf o a b).1, fun o a b => (hf o a (by omega)).2⟩
    · cases e1
set_option maxRecDepth 100000 in
theorem m_L_standing {T : List aT} {I : aI} {J : aJ} {R : aR} {m : aI} {c : Nat} (hT : aPT T) (x0 : Int32) {Sp : Nat → Int32 → aI → Prop} (hM : MX11_standing 3 200 [.ref 0, .int x0] T I J R (CP [exI] I J m c Sp)) : ML_standing 3 200 [.ref 0, .int x0, .ref 94] T I J R (LwP I J c Sp) := by
  refine a_metW (by decide +kernel) a_le (fun X hC hq => ?_)
  show AW X 0 0 0 [some (.ref 0), some (.int x0), some (.ref 94), none] [] T I J R
  refine aw_aload_n hC dL_standing_0 rfl ?_
  refine aw_iconst (v := 0) hC dL_standing_1 (by decide) ?_
  refine aw_aload_n hC dL_standing_2 rfl ?_
  refine aw_iload_n hC dL_standing_3 rfl ?_
  refine kL_43 hC rfl hM dL_standing_4 (tg_0 hT) rfl a_le a_le a_le a_le a_le rfl (fun E9 T9 I9 J9 R9 hp9 hQ => ?_) (fun v9 T9 I9 J9 R9 hp9 hQ => ?_)
  · rcases hQ with ⟨hf, ⟨v, m2, e1, hs, hg⟩ | ⟨j, E, hj, e1, hs, hg⟩⟩
    · cases e1
    · cases e1
      rcases j with _ | j
      · cases hj
        refine ae_catch hC [] ⟨0, 9, 12, 13⟩ [] rfl (by simp) (fun z hz => nomatch hz) (by decide) (by decide) gW_L_13 (i := 3) (len := 1) (L2 := [some (.ref 0), some (.int x0), some (.ref 94), none]) (Or.inr ⟨3, dL_standing_12, rfl, rfl⟩) (by decide) rfl ?_
        show AW X (0 + 3) (0 + 200) 13 [some (.ref 0), some (.int x0), some (.ref 94), none] [] T9 I9 J9 R9
        refine aw_iconst (v := 1) hC dL_standing_13 (by decide) ?_
        exact aw_ireturn hC hq rfl dL_standing_14 a_le a_le (LwP.th (k := 0) (by decide) (by decide) hf hs hg)
      · cases hj
  · rcases hQ with ⟨hf, ⟨v, m2, e1, hs, hg⟩ | ⟨j, E, hj, e1, hs, hg⟩⟩
    · cases e1
      have hR9 := hg.hR
      show AW X (0 + 3) (0 + 200) 7 [some (.ref 0), some (.int x0), some (.ref 94), none] [.int v, .int 0, .ref 94] T9 I9 J9 R9
      refine aw_i2l hC dL_standing_7 ?_
      refine aw_lastore_k (j := 0) hC dL_standing_8 (tg_94 (hT.next hp9)) (by decide) (by unfold vp_in; decide) ?_
      refine aw_goto (tgt := 15) hC dL_standing_9 (by decide) ?_
      refine aw_iconst (v := 0) hC dL_standing_15 (by decide) ?_
      exact aw_ireturn hC hq rfl dL_standing_16 a_le a_le (LwP.ok hf hs hg rfl)
    · cases e1
set_option maxRecDepth 100000 in
theorem m_L_step {T : List aT} {I : aI} {J : aJ} {R : aR} {m : aI} {c : Nat} (hT : aPT T) (x0 : Int32) {Sp : Nat → Int32 → aI → Prop} (hM : MX11_step 3 200 [.ref 0, .int x0] T I J R (CP [exA, exS] I J m c Sp)) : ML_step 3 200 [.ref 0, .int x0, .ref 94] T I J R (LwP I J c Sp) := by
  refine a_metW (by decide +kernel) a_le (fun X hC hq => ?_)
  show AW X 0 0 0 [some (.ref 0), some (.int x0), some (.ref 94), none] [] T I J R
  refine aw_aload_n hC dL_step_0 rfl ?_
  refine aw_iconst (v := 0) hC dL_step_1 (by decide) ?_
  refine aw_aload_n hC dL_step_2 rfl ?_
  refine aw_iload_n hC dL_step_3 rfl ?_
  refine kL_103 hC rfl hM dL_step_4 (tg_0 hT) rfl a_le a_le a_le a_le a_le rfl (fun E9 T9 I9 J9 R9 hp9 hQ => ?_) (fun v9 T9 I9 J9 R9 hp9 hQ => ?_)
  · rcases hQ with ⟨hf, ⟨v, m2, e1, hs, hg⟩ | ⟨j, E, hj, e1, hs, hg⟩⟩
    · cases e1
    · cases e1
      rcases j with _ | _ | j
      · cases hj
        refine ae_catch hC [] ⟨0, 9, 12, 15⟩ [⟨0, 9, 15, 17⟩] rfl (by simp) (fun z hz => nomatch hz) (by decide) (by decide) gW_L_15 (i := 3) (len := 1) (L2 := [some (.ref 0), some (.int x0), some (.ref 94), none]) (Or.inr ⟨3, dL_step_12, rfl, rfl⟩) (by decide) rfl ?_
        show AW X (0 + 3) (0 + 200) 13 [some (.ref 0), some (.int x0), some (.ref 94), none] [] T9 I9 J9 R9
        refine aw_iconst (v := 1) hC dL_step_13 (by decide) ?_
        exact aw_ireturn hC hq rfl dL_step_14 a_le a_le (LwP.th (k := 0) (by decide) (by decide) hf hs hg)
      · cases hj
        refine ae_catch hC [⟨0, 9, 12, 15⟩] ⟨0, 9, 15, 17⟩ [] rfl (by simp) (fun z hz => by simp only [List.mem_cons, List.not_mem_nil, or_false] at hz; rcases hz with rfl; exact Or.inr ⟨by decide, exA, by simp, by decide, gW_L_15⟩) (by decide) (by decide) gW_L_17 (i := 3) (len := 1) (L2 := [some (.ref 0), some (.int x0), some (.ref 94), none]) (Or.inr ⟨3, dL_step_15, rfl, rfl⟩) (by decide) rfl ?_
        show AW X (0 + 3) (0 + 200) 16 [some (.ref 0), some (.int x0), some (.ref 94), none] [] T9 I9 J9 R9
        refine aw_iconst (v := 2) hC dL_step_16 (by decide) ?_
        exact aw_ireturn hC hq rfl dL_step_17 a_le a_le (LwP.th (k := 1) (by decide) (by decide) hf hs hg)
      · cases hj
  · rcases hQ with ⟨hf, ⟨v, m2, e1, hs, hg⟩ | ⟨j, E, hj, e1, hs, hg⟩⟩
    · cases e1
      have hR9 := hg.hR
      show AW X (0 + 3) (0 + 200) 7 [some (.ref 0), some (.int x0), some (.ref 94), none] [.int v, .int 0, .ref 94] T9 I9 J9 R9
      refine aw_i2l hC dL_step_7 ?_
      refine aw_lastore_k (j := 0) hC dL_step_8 (tg_94 (hT.next hp9)) (by decide) (by unfold vp_in; decide) ?_
      refine aw_goto (tgt := 18) hC dL_step_9 (by decide) ?_
      refine aw_iconst (v := 0) hC dL_step_18 (by decide) ?_
      exact aw_ireturn hC hq rfl dL_step_19 a_le a_le (LwP.ok hf hs hg rfl)
    · cases e1
set_option maxRecDepth 100000 in
theorem m_L_stored {T : List aT} {I : aI} {J : aJ} {R : aR} {m : aI} {c : Nat} (hT : aPT T) (x0 x1 : Int32) {Sp : Nat → Int32 → aI → Prop} (hM : MX11_stored 3 200 [.ref 0, .int x0, .int x1] T I J R (CP [exI] I J m c Sp)) : ML_stored 3 200 [.ref 0, .int x0, .int x1, .ref 94] T I J R (LwP I J c Sp) := by
  refine a_metW (by decide +kernel) a_le (fun X hC hq => ?_)
  show AW X 0 0 0 [some (.ref 0), some (.int x0), some (.int x1), some (.ref 94), none] [] T I J R
  refine aw_aload_n hC dL_stored_0 rfl ?_
  refine aw_iconst (v := 0) hC dL_stored_1 (by decide) ?_
  refine aw_aload_n hC dL_stored_2 rfl ?_
  refine aw_iload_n hC dL_stored_3 rfl ?_
  refine aw_iload_n hC dL_stored_4 rfl ?_
  refine kL_109 hC rfl hM dL_stored_5 (tg_0 hT) rfl a_le a_le a_le a_le a_le rfl (fun E9 T9 I9 J9 R9 hp9 hQ => ?_) (fun v9 T9 I9 J9 R9 hp9 hQ => ?_)
  · rcases hQ with ⟨hf, ⟨v, m2, e1, hs, hg⟩ | ⟨j, E, hj, e1, hs, hg⟩⟩
    · cases e1
    · cases e1
      rcases j with _ | j
      · cases hj
        refine ae_catch hC [] ⟨0, 10, 13, 13⟩ [] rfl (by simp) (fun z hz => nomatch hz) (by decide) (by decide) gW_L_13 (i := 4) (len := 2) (L2 := [some (.ref 0), some (.int x0), some (.int x1), some (.ref 94), none]) (Or.inl ⟨dL_stored_13, rfl⟩) (by decide) rfl ?_
        show AW X (0 + 3) (0 + 200) 15 [some (.ref 0), some (.int x0), some (.int x1), some (.ref 94), none] [] T9 I9 J9 R9
        refine aw_iconst (v := 1) hC dL_stored_15 (by decide) ?_
        exact aw_ireturn hC hq rfl dL_stored_16 a_le a_le (LwP.th (k := 0) (by decide) (by decide) hf hs hg)
      · cases hj
  · rcases hQ with ⟨hf, ⟨v, m2, e1, hs, hg⟩ | ⟨j, E, hj, e1, hs, hg⟩⟩
    · cases e1
      have hR9 := hg.hR
      show AW X (0 + 3) (0 + 200) 8 [some (.ref 0), some (.int x0), some (.int x1), some (.ref 94), none] [.int v, .int 0, .ref 94] T9 I9 J9 R9
      refine aw_i2l hC dL_stored_8 ?_
      refine aw_lastore_k (j := 0) hC dL_stored_9 (tg_94 (hT.next hp9)) (by decide) (by unfold vp_in; decide) ?_
      refine aw_goto (tgt := 17) hC dL_stored_10 (by decide) ?_
      refine aw_iconst (v := 0) hC dL_stored_17 (by decide) ?_
      exact aw_ireturn hC hq rfl dL_stored_18 a_le a_le (LwP.ok hf hs hg rfl)
    · cases e1
set_option maxRecDepth 100000 in
theorem m_L_take {T : List aT} {I : aI} {J : aJ} {R : aR} {m : aI} {c : Nat} (hT : aPT T) (x0 x1 : Int32) {Sp : Nat → Int32 → aI → Prop} (hM : MX11_take 3 200 [.ref 0, .int x0, .int x1] T I J R (CP [exI, exS] I J m c Sp)) : ML_take 3 200 [.ref 0, .int x0, .int x1, .ref 94] T I J R (LwP I J c Sp) := by
  refine a_metW (by decide +kernel) a_le (fun X hC hq => ?_)
  show AW X 0 0 0 [some (.ref 0), some (.int x0), some (.int x1), some (.ref 94), none] [] T I J R
  refine aw_aload_n hC dL_take_0 rfl ?_
  refine aw_iconst (v := 0) hC dL_take_1 (by decide) ?_
  refine aw_aload_n hC dL_take_2 rfl ?_
  refine aw_iload_n hC dL_take_3 rfl ?_
  refine aw_iload_n hC dL_take_4 rfl ?_
  refine kL_131 hC rfl hM dL_take_5 (tg_0 hT) rfl a_le a_le a_le a_le a_le rfl (fun E9 T9 I9 J9 R9 hp9 hQ => ?_) (fun v9 T9 I9 J9 R9 hp9 hQ => ?_)
  · rcases hQ with ⟨hf, ⟨v, m2, e1, hs, hg⟩ | ⟨j, E, hj, e1, hs, hg⟩⟩
    · cases e1
    · cases e1
      rcases j with _ | _ | j
      · cases hj
        refine ae_catch hC [] ⟨0, 10, 13, 13⟩ [⟨0, 10, 17, 17⟩] rfl (by simp) (fun z hz => nomatch hz) (by decide) (by decide) gW_L_13 (i := 4) (len := 2) (L2 := [some (.ref 0), some (.int x0), some (.int x1), some (.ref 94), none]) (Or.inl ⟨dL_take_13, rfl⟩) (by decide) rfl ?_
        show AW X (0 + 3) (0 + 200) 15 [some (.ref 0), some (.int x0), some (.int x1), some (.ref 94), none] [] T9 I9 J9 R9
        refine aw_iconst (v := 1) hC dL_take_15 (by decide) ?_
        exact aw_ireturn hC hq rfl dL_take_16 a_le a_le (LwP.th (k := 0) (by decide) (by decide) hf hs hg)
      · cases hj
        refine ae_catch hC [⟨0, 10, 13, 13⟩] ⟨0, 10, 17, 17⟩ [] rfl (by simp) (fun z hz => by simp only [List.mem_cons, List.not_mem_nil, or_false] at hz; rcases hz with rfl; exact Or.inr ⟨by decide, exI, by simp, by decide, gW_L_13⟩) (by decide) (by decide) gW_L_17 (i := 4) (len := 2) (L2 := [some (.ref 0), some (.int x0), some (.int x1), some (.ref 94), none]) (Or.inl ⟨dL_take_17, rfl⟩) (by decide) rfl ?_
        show AW X (0 + 3) (0 + 200) 19 [some (.ref 0), some (.int x0), some (.int x1), some (.ref 94), none] [] T9 I9 J9 R9
        refine aw_iconst (v := 2) hC dL_take_19 (by decide) ?_
        exact aw_ireturn hC hq rfl dL_take_20 a_le a_le (LwP.th (k := 1) (by decide) (by decide) hf hs hg)
      · cases hj
  · rcases hQ with ⟨hf, ⟨v, m2, e1, hs, hg⟩ | ⟨j, E, hj, e1, hs, hg⟩⟩
    · cases e1
      have hR9 := hg.hR
      show AW X (0 + 3) (0 + 200) 8 [some (.ref 0), some (.int x0), some (.int x1), some (.ref 94), none] [.int v, .int 0, .ref 94] T9 I9 J9 R9
      refine aw_i2l hC dL_take_8 ?_
      refine aw_lastore_k (j := 0) hC dL_take_9 (tg_94 (hT.next hp9)) (by decide) (by unfold vp_in; decide) ?_
      refine aw_goto (tgt := 21) hC dL_take_10 (by decide) ?_
      refine aw_iconst (v := 0) hC dL_take_21 (by decide) ?_
      exact aw_ireturn hC hq rfl dL_take_22 a_le a_le (LwP.ok hf hs hg rfl)
    · cases e1
set_option maxRecDepth 100000 in
theorem m_L_tell {T : List aT} {I : aI} {J : aJ} {R : aR} {m : aI} {c : Nat} (hT : aPT T) (x0 x1 x2 x3 x4 : Int32) {Sp : Nat → Int32 → aI → Prop} (hM : MX11_tell 3 200 [.ref 0, .int x0, .int x1, .int x2, .int x3, .int x4] T I J R (CP [exI, exA, exS] I J m c Sp)) : ML_tell 3 200 [.ref 0, .int x0, .int x1, .int x2, .int x3, .int x4, .ref 94] T I J R (LwP I J c Sp) := by
  refine a_metW (by decide +kernel) a_le (fun X hC hq => ?_)
  show AW X 0 0 0 [some (.ref 0), some (.int x0), some (.int x1), some (.int x2), some (.int x3), some (.int x4), some (.ref 94), none] [] T I J R
  refine aw_aload hC dL_tell_0 rfl ?_
  refine aw_iconst (v := 0) hC dL_tell_2 (by decide) ?_
  refine aw_aload_n hC dL_tell_3 rfl ?_
  refine aw_iload_n hC dL_tell_4 rfl ?_
  refine aw_iload_n hC dL_tell_5 rfl ?_
  refine aw_iload_n hC dL_tell_6 rfl ?_
  refine aw_iload hC dL_tell_7 rfl ?_
  refine aw_iload hC dL_tell_9 rfl ?_
  refine kL_7 hC rfl hM dL_tell_11 (tg_0 hT) rfl a_le a_le a_le a_le a_le rfl (fun E9 T9 I9 J9 R9 hp9 hQ => ?_) (fun v9 T9 I9 J9 R9 hp9 hQ => ?_)
  · rcases hQ with ⟨hf, ⟨v, m2, e1, hs, hg⟩ | ⟨j, E, hj, e1, hs, hg⟩⟩
    · cases e1
    · cases e1
      rcases j with _ | _ | _ | j
      · cases hj
        refine ae_catch hC [] ⟨0, 16, 19, 13⟩ [⟨0, 16, 23, 15⟩, ⟨0, 16, 27, 17⟩] rfl (by simp) (fun z hz => nomatch hz) (by decide) (by decide) gW_L_13 (i := 7) (len := 2) (L2 := [some (.ref 0), some (.int x0), some (.int x1), some (.int x2), some (.int x3), some (.int x4), some (.ref 94), none]) (Or.inl ⟨dL_tell_19, rfl⟩) (by decide) rfl ?_
        show AW X (0 + 3) (0 + 200) 21 [some (.ref 0), some (.int x0), some (.int x1), some (.int x2), some (.int x3), some (.int x4), some (.ref 94), none] [] T9 I9 J9 R9
        refine aw_iconst (v := 1) hC dL_tell_21 (by decide) ?_
        exact aw_ireturn hC hq rfl dL_tell_22 a_le a_le (LwP.th (k := 0) (by decide) (by decide) hf hs hg)
      · cases hj
        refine ae_catch hC [⟨0, 16, 19, 13⟩] ⟨0, 16, 23, 15⟩ [⟨0, 16, 27, 17⟩] rfl (by simp) (fun z hz => by simp only [List.mem_cons, List.not_mem_nil, or_false] at hz; rcases hz with rfl; exact Or.inr ⟨by decide, exI, by simp, by decide, gW_L_13⟩) (by decide) (by decide) gW_L_15 (i := 7) (len := 2) (L2 := [some (.ref 0), some (.int x0), some (.int x1), some (.int x2), some (.int x3), some (.int x4), some (.ref 94), none]) (Or.inl ⟨dL_tell_23, rfl⟩) (by decide) rfl ?_
        show AW X (0 + 3) (0 + 200) 25 [some (.ref 0), some (.int x0), some (.int x1), some (.int x2), some (.int x3), some (.int x4), some (.ref 94), none] [] T9 I9 J9 R9
        refine aw_iconst (v := 2) hC dL_tell_25 (by decide) ?_
        exact aw_ireturn hC hq rfl dL_tell_26 a_le a_le (LwP.th (k := 1) (by decide) (by decide) hf hs hg)
      · cases hj
        refine ae_catch hC [⟨0, 16, 19, 13⟩, ⟨0, 16, 23, 15⟩] ⟨0, 16, 27, 17⟩ [] rfl (by simp) (fun z hz => by simp only [List.mem_cons, List.not_mem_nil, or_false] at hz; rcases hz with rfl | rfl; (exact Or.inr ⟨by decide, exI, by simp, by decide, gW_L_13⟩) ; (exact Or.inr ⟨by decide, exA, by simp, by decide, gW_L_15⟩)) (by decide) (by decide) gW_L_17 (i := 7) (len := 2) (L2 := [some (.ref 0), some (.int x0), some (.int x1), some (.int x2), some (.int x3), some (.int x4), some (.ref 94), none]) (Or.inl ⟨dL_tell_27, rfl⟩) (by decide) rfl ?_
        show AW X (0 + 3) (0 + 200) 29 [some (.ref 0), some (.int x0), some (.int x1), some (.int x2), some (.int x3), some (.int x4), some (.ref 94), none] [] T9 I9 J9 R9
        refine aw_iconst (v := 3) hC dL_tell_29 (by decide) ?_
        exact aw_ireturn hC hq rfl dL_tell_30 a_le a_le (LwP.th (k := 2) (by decide) (by decide) hf hs hg)
      · cases hj
  · rcases hQ with ⟨hf, ⟨v, m2, e1, hs, hg⟩ | ⟨j, E, hj, e1, hs, hg⟩⟩
    · cases e1
      have hR9 := hg.hR
      show AW X (0 + 3) (0 + 200) 14 [some (.ref 0), some (.int x0), some (.int x1), some (.int x2), some (.int x3), some (.int x4), some (.ref 94), none] [.int v, .int 0, .ref 94] T9 I9 J9 R9
      refine aw_i2l hC dL_tell_14 ?_
      refine aw_lastore_k (j := 0) hC dL_tell_15 (tg_94 (hT.next hp9)) (by decide) (by unfold vp_in; decide) ?_
      refine aw_goto (tgt := 31) hC dL_tell_16 (by decide) ?_
      refine aw_iconst (v := 0) hC dL_tell_31 (by decide) ?_
      exact aw_ireturn hC hq rfl dL_tell_32 a_le a_le (LwP.ok hf hs hg rfl)
    · cases e1
set_option maxRecDepth 100000 in
theorem m_L_unkey {T : List aT} {I : aI} {J : aJ} {R : aR} {m : aI} {c : Nat} (hT : aPT T) (x0 x1 : Int32) {Sp : Nat → Int32 → aI → Prop} (hM : MX11_unkey 3 200 [.ref 0, .int x0, .int x1] T I J R (CP [exI] I J m c Sp)) : ML_unkey 3 200 [.ref 0, .int x0, .int x1, .ref 94] T I J R (LwP I J c Sp) := by
  refine a_metW (by decide +kernel) a_le (fun X hC hq => ?_)
  show AW X 0 0 0 [some (.ref 0), some (.int x0), some (.int x1), some (.ref 94), none] [] T I J R
  refine aw_aload_n hC dL_unkey_0 rfl ?_
  refine aw_iconst (v := 0) hC dL_unkey_1 (by decide) ?_
  refine aw_aload_n hC dL_unkey_2 rfl ?_
  refine aw_iload_n hC dL_unkey_3 rfl ?_
  refine aw_iload_n hC dL_unkey_4 rfl ?_
  refine kL_71 hC rfl hM dL_unkey_5 (tg_0 hT) rfl a_le a_le a_le a_le a_le rfl (fun E9 T9 I9 J9 R9 hp9 hQ => ?_) (fun v9 T9 I9 J9 R9 hp9 hQ => ?_)
  · rcases hQ with ⟨hf, ⟨v, m2, e1, hs, hg⟩ | ⟨j, E, hj, e1, hs, hg⟩⟩
    · cases e1
    · cases e1
      rcases j with _ | j
      · cases hj
        refine ae_catch hC [] ⟨0, 10, 13, 13⟩ [] rfl (by simp) (fun z hz => nomatch hz) (by decide) (by decide) gW_L_13 (i := 4) (len := 2) (L2 := [some (.ref 0), some (.int x0), some (.int x1), some (.ref 94), none]) (Or.inl ⟨dL_unkey_13, rfl⟩) (by decide) rfl ?_
        show AW X (0 + 3) (0 + 200) 15 [some (.ref 0), some (.int x0), some (.int x1), some (.ref 94), none] [] T9 I9 J9 R9
        refine aw_iconst (v := 1) hC dL_unkey_15 (by decide) ?_
        exact aw_ireturn hC hq rfl dL_unkey_16 a_le a_le (LwP.th (k := 0) (by decide) (by decide) hf hs hg)
      · cases hj
  · rcases hQ with ⟨hf, ⟨v, m2, e1, hs, hg⟩ | ⟨j, E, hj, e1, hs, hg⟩⟩
    · cases e1
      have hR9 := hg.hR
      show AW X (0 + 3) (0 + 200) 8 [some (.ref 0), some (.int x0), some (.int x1), some (.ref 94), none] [.int v, .int 0, .ref 94] T9 I9 J9 R9
      refine aw_i2l hC dL_unkey_8 ?_
      refine aw_lastore_k (j := 0) hC dL_unkey_9 (tg_94 (hT.next hp9)) (by decide) (by unfold vp_in; decide) ?_
      refine aw_goto (tgt := 17) hC dL_unkey_10 (by decide) ?_
      refine aw_iconst (v := 0) hC dL_unkey_17 (by decide) ?_
      exact aw_ireturn hC hq rfl dL_unkey_18 a_le a_le (LwP.ok hf hs hg rfl)
    · cases e1
set_option maxRecDepth 100000 in
theorem m_L_upgrade {T : List aT} {I : aI} {J : aJ} {R : aR} {m : aI} {c : Nat} (hT : aPT T) (x0 : Int32) {Sp : Nat → Int32 → aI → Prop} (hM : MX11_upgrade 3 200 [.ref 0, .int x0] T I J R (CP [exI, exS] I J m c Sp)) : ML_upgrade 3 200 [.ref 0, .int x0, .ref 94] T I J R (LwP I J c Sp) := by
  refine a_metW (by decide +kernel) a_le (fun X hC hq => ?_)
  show AW X 0 0 0 [some (.ref 0), some (.int x0), some (.ref 94), none] [] T I J R
  refine aw_aload_n hC dL_upgrade_0 rfl ?_
  refine aw_iconst (v := 0) hC dL_upgrade_1 (by decide) ?_
  refine aw_aload_n hC dL_upgrade_2 rfl ?_
  refine aw_iload_n hC dL_upgrade_3 rfl ?_
  refine kL_77 hC rfl hM dL_upgrade_4 (tg_0 hT) rfl a_le a_le a_le a_le a_le rfl (fun E9 T9 I9 J9 R9 hp9 hQ => ?_) (fun v9 T9 I9 J9 R9 hp9 hQ => ?_)
  · rcases hQ with ⟨hf, ⟨v, m2, e1, hs, hg⟩ | ⟨j, E, hj, e1, hs, hg⟩⟩
    · cases e1
    · cases e1
      rcases j with _ | _ | j
      · cases hj
        refine ae_catch hC [] ⟨0, 9, 12, 13⟩ [⟨0, 9, 15, 17⟩] rfl (by simp) (fun z hz => nomatch hz) (by decide) (by decide) gW_L_13 (i := 3) (len := 1) (L2 := [some (.ref 0), some (.int x0), some (.ref 94), none]) (Or.inr ⟨3, dL_upgrade_12, rfl, rfl⟩) (by decide) rfl ?_
        show AW X (0 + 3) (0 + 200) 13 [some (.ref 0), some (.int x0), some (.ref 94), none] [] T9 I9 J9 R9
        refine aw_iconst (v := 1) hC dL_upgrade_13 (by decide) ?_
        exact aw_ireturn hC hq rfl dL_upgrade_14 a_le a_le (LwP.th (k := 0) (by decide) (by decide) hf hs hg)
      · cases hj
        refine ae_catch hC [⟨0, 9, 12, 13⟩] ⟨0, 9, 15, 17⟩ [] rfl (by simp) (fun z hz => by simp only [List.mem_cons, List.not_mem_nil, or_false] at hz; rcases hz with rfl; exact Or.inr ⟨by decide, exI, by simp, by decide, gW_L_13⟩) (by decide) (by decide) gW_L_17 (i := 3) (len := 1) (L2 := [some (.ref 0), some (.int x0), some (.ref 94), none]) (Or.inr ⟨3, dL_upgrade_15, rfl, rfl⟩) (by decide) rfl ?_
        show AW X (0 + 3) (0 + 200) 16 [some (.ref 0), some (.int x0), some (.ref 94), none] [] T9 I9 J9 R9
        refine aw_iconst (v := 2) hC dL_upgrade_16 (by decide) ?_
        exact aw_ireturn hC hq rfl dL_upgrade_17 a_le a_le (LwP.th (k := 1) (by decide) (by decide) hf hs hg)
      · cases hj
  · rcases hQ with ⟨hf, ⟨v, m2, e1, hs, hg⟩ | ⟨j, E, hj, e1, hs, hg⟩⟩
    · cases e1
      have hR9 := hg.hR
      show AW X (0 + 3) (0 + 200) 7 [some (.ref 0), some (.int x0), some (.ref 94), none] [.int v, .int 0, .ref 94] T9 I9 J9 R9
      refine aw_i2l hC dL_upgrade_7 ?_
      refine aw_lastore_k (j := 0) hC dL_upgrade_8 (tg_94 (hT.next hp9)) (by decide) (by unfold vp_in; decide) ?_
      refine aw_goto (tgt := 18) hC dL_upgrade_9 (by decide) ?_
      refine aw_iconst (v := 0) hC dL_upgrade_18 (by decide) ?_
      exact aw_ireturn hC hq rfl dL_upgrade_19 a_le a_le (LwP.ok hf hs hg rfl)
    · cases e1
set_option maxRecDepth 100000 in
theorem m_L_value {T : List aT} {I : aI} {J : aJ} {R : aR} {m : aI} {c : Nat} (hT : aPT T) (x0 : Int32) {Sp : Nat → Int32 → aI → Prop} (hM : MX11_value 3 200 [.ref 0, .int x0] T I J R (CP [exI] I J m c Sp)) : ML_value 3 200 [.ref 0, .int x0, .ref 94] T I J R (LwP I J c Sp) := by
  refine a_metW (by decide +kernel) a_le (fun X hC hq => ?_)
  show AW X 0 0 0 [some (.ref 0), some (.int x0), some (.ref 94), none] [] T I J R
  refine aw_aload_n hC dL_value_0 rfl ?_
  refine aw_iconst (v := 0) hC dL_value_1 (by decide) ?_
  refine aw_aload_n hC dL_value_2 rfl ?_
  refine aw_iload_n hC dL_value_3 rfl ?_
  refine kL_46 hC rfl hM dL_value_4 (tg_0 hT) rfl a_le a_le a_le a_le a_le rfl (fun E9 T9 I9 J9 R9 hp9 hQ => ?_) (fun v9 T9 I9 J9 R9 hp9 hQ => ?_)
  · rcases hQ with ⟨hf, ⟨v, m2, e1, hs, hg⟩ | ⟨j, E, hj, e1, hs, hg⟩⟩
    · cases e1
    · cases e1
      rcases j with _ | j
      · cases hj
        refine ae_catch hC [] ⟨0, 9, 12, 13⟩ [] rfl (by simp) (fun z hz => nomatch hz) (by decide) (by decide) gW_L_13 (i := 3) (len := 1) (L2 := [some (.ref 0), some (.int x0), some (.ref 94), none]) (Or.inr ⟨3, dL_value_12, rfl, rfl⟩) (by decide) rfl ?_
        show AW X (0 + 3) (0 + 200) 13 [some (.ref 0), some (.int x0), some (.ref 94), none] [] T9 I9 J9 R9
        refine aw_iconst (v := 1) hC dL_value_13 (by decide) ?_
        exact aw_ireturn hC hq rfl dL_value_14 a_le a_le (LwP.th (k := 0) (by decide) (by decide) hf hs hg)
      · cases hj
  · rcases hQ with ⟨hf, ⟨v, m2, e1, hs, hg⟩ | ⟨j, E, hj, e1, hs, hg⟩⟩
    · cases e1
      have hR9 := hg.hR
      show AW X (0 + 3) (0 + 200) 7 [some (.ref 0), some (.int x0), some (.ref 94), none] [.int v, .int 0, .ref 94] T9 I9 J9 R9
      refine aw_i2l hC dL_value_7 ?_
      refine aw_lastore_k (j := 0) hC dL_value_8 (tg_94 (hT.next hp9)) (by decide) (by unfold vp_in; decide) ?_
      refine aw_goto (tgt := 15) hC dL_value_9 (by decide) ?_
      refine aw_iconst (v := 0) hC dL_value_15 (by decide) ?_
      exact aw_ireturn hC hq rfl dL_value_16 a_le a_le (LwP.ok hf hs hg rfl)
    · cases e1
