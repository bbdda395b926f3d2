theorem a_tags_5 : ∀ i, i < 44 → a_tags[i]? ≠ some (.inr 5) := by decide +kernel
theorem a_tags_3 : ∀ i, i < 44 → a_tags[i]? ≠ some (.inr 3) := by decide +kernel
theorem a_ge {T : List aT} {q : Nat} {t : aT} (hT : aPT T) (h : T[q]? = some t) (hn : ∀ i, i < 44 → a_tags[i]? ≠ some t) : 44 ≤ q := by
  apply Classical.byContradiction; intro c
  have h2 : q < a_tags.length := by rw [show a_tags.length = 44 from by decide +kernel]; omega
  have h3 := a_pfx hT (List.getElem?_eq_getElem h2)
  rw [h] at h3
  exact hn q (by omega) (by rw [List.getElem?_eq_getElem h2, ← h3])
theorem CGn.ge {T : List aT} {I : aI} {R : aR} {m : aI} {g : Nat} {gq : Nat → Nat} (h : CGn T I R m g gq) (hT : aPT T) {i : Nat} (hi : i < g) : 44 ≤ gq i := a_ge hT (h.tg hi) a_tags_5
theorem CEn.ge {T : List aT} {I : aI} {R : aR} {m : aI} {eq : Nat → Nat} (h : CEn T I R m eq) (hT : aPT T) {x : Nat} (hx : x < 64) (h0 : m 69 x ≠ 0) : 44 ≤ eq x := a_ge hT (h.tg hx h0) a_tags_3
theorem CGn.fr {T : List aT} {I I2 : aI} {R : aR} {m : aI} {g : Nat} {gq : Nat → Nat} (h : CGn T I R m g gq) (hT : aPT T) (hf : ∀ o, 44 ≤ o → I2 o = I o) (h19 : I2 19 2 = I 19 2) : CGn T I2 R m g gq := ⟨h19.trans h.1, fun i hi => ⟨h.rf hi, by
  have h95 := h.ge hT hi
  have q := h.at hi
  unfold GnAt at *
  rw [hf (gq i) h95, hf (gq i + 1) (by omega), hf (gq i + 2) (by omega)]; exact q⟩, h.2.2⟩
theorem CEn.fr {T : List aT} {I I2 : aI} {R : aR} {m : aI} {eq : Nat → Nat} (h : CEn T I R m eq) (hT : aPT T) (hf : ∀ o, 44 ≤ o → I2 o = I o) : CEn T I2 R m eq := ⟨fun x hx => ⟨fun h0 => h.no hx h0, fun h0 => ⟨h.rf hx h0, by
  have h95 := h.ge hT hx h0
  have q := h.at hx h0
  unfold EnAt at *
  rw [hf (eq x) h95, hf (eq x + 1) (by omega), hf (eq x + 2) (by omega)]; exact q⟩⟩, h.2⟩
theorem CTy.fr {I I2 m : aI} (h : CTy I m) (hf : ∀ o, 27 ≤ o → o ≤ 32 → I2 o = I o) : CTy I2 m := fun t ht => by rw [hf (28 + 2 * t) (by omega) (by omega), hf (27 + 2 * t) (by omega) (by omega)]; exact h t ht
theorem CGn.cgm {T : List aT} {I : aI} {R : aR} {m m2 : aI} {g : Nat} {gq : Nat → Nat} (h : CGn T I R m g gq) (h62 : m2 62 = m 62) (h63 : m2 63 = m 63) (h64 : m2 64 = m 64) (h65 : m2 65 = m 65) : CGn T I R m2 g gq := ⟨h.1, fun i hi => ⟨h.rf hi, by have q := h.at hi; unfold GnAt at *; rw [h62, h63, h64, h65]; exact q⟩, h.2.2⟩
theorem CEn.cgm {T : List aT} {I : aI} {R : aR} {m m2 : aI} {eq : Nat → Nat} (h : CEn T I R m eq) (h69 : m2 69 = m 69) (h70 : m2 70 = m 70) (h71 : m2 71 = m 71) (h72 : m2 72 = m 72) (h73 : m2 73 = m 73) : CEn T I R m2 eq := by
  unfold CEn EnAt at *; rw [h69, h70, h71, h72, h73]; exact h
theorem CTy.cgm {I m m2 : aI} (h : CTy I m) (h58 : m2 58 = m 58) (h59 : m2 59 = m 59) (h60 : m2 60 = m 60) (h61 : m2 61 = m 61) : CTy I m2 := by
  unfold CTy at *; rw [h58, h59, h60, h61]; exact h
theorem InvE.cgm {m m2 : aI} {g : Nat} (h : InvE m g) (h58 : m2 58 = m 58) (h62 : m2 62 = m 62) (h65 : m2 65 = m 65) (h69 : m2 69 = m 69) (h72 : m2 72 = m 72) (h73 : m2 73 = m 73) (h61 : m2 61 = m 61) : InvE m2 g := by
  unfold InvE bsM iN at *; rw [h58, h62, h65, h69, h72, h73, h61]; exact h
abbrev gvR (I m : aI) (mj : aJ) (x k : Nat) : Nat → Int32 := fun j => if 3 * x ≤ j ∧ j < 3 * x + k then sGives m mj x (j - 3 * x) else I 34 j
theorem gvR_put {I m : aI} {mj : aJ} {x k : Nat} (j : Nat) : (if j = x * 3 + k then sGives m mj x k else gvR I m mj x k j) = gvR I m mj x (k + 1) j := by
  simp only [gvR]
  by_cases e : j = x * 3 + k
  · rw [if_pos e, if_pos (by omega), show j - 3 * x = k by omega]
  · rw [if_neg e]
    by_cases f : 3 * x ≤ j ∧ j < 3 * x + k
    · rw [if_pos f, if_pos (by omega)]
    · rw [if_neg f, if_neg (by omega)]
theorem gvR_at {I m : aI} {mj : aJ} {x a : Nat} (ha : a < 3) : gvR I m mj x 3 (3 * x + a) = sGives m mj x a := by
  simp only [gvR]; rw [if_pos (by omega), show 3 * x + a - 3 * x = a by omega]
set_option maxRecDepth 100000 in
theorem m_X2_lookAt {T : List aT} {I : aI} {J : aJ} {R : aR} (hT : aPT T) (hR : aPR R) {m : aI} {g : Nat} {gq : Nat → Nat} (hG : CGn T I R m g gq) (hg : GW m g) (hY : CTy I m) {eq : Nat → Nat} (hE : CEn T I R m eq) {mj : aJ} (hV : CFo I m mj) (hi : InvE m g) {x : Nat} (hx : x < 16 * g) (hN : ∀ y, y < 16 * (x / 16) → I 36 y = m 91 y ∧ (0 ≤ m 91 y ∧ m 91 y ≤ 4)) : MX2_lookAt 0 0 [.ref 33, .int (nI x)] T I J R (aPure none T (a_u (a_ur I 34 (gvR I m mj x 3)) 36 x (sCmp m mj x)) J R) := by
  refine a_met (by decide +kernel) a_le (fun X hC hq => ?_)
  show AW X 0 0 0 [some (.ref 33), some (.int (nI x)), none] [] T I J R
  have hg4 := hg.g4
  have hty := hg.ty (x / 16) (by omega)
  refine aw_iconst (v := 0) hC dX2_lookAt_0 (by decide) ?_
  refine aw_istore_n (L2 := [some (.ref 33), some (.int (nI x)), some (.int 0)]) hC dX2_lookAt_1 rfl (by decide) rfl ?_
  refine aw_setI (I2 := a_ur I 34 (gvR I m mj x 0)) (a_ur_id (fun j => if_neg (by omega))).symm ?_
  have loop : ∀ k, k ≤ 3 → AW X 0 0 2 [some (.ref 33), some (.int (nI x)), some (.int (nI k))] [] T (a_ur I 34 (gvR I m mj x k)) J R := by
    refine a_down 3 (fun k hk_k ih_k => ?_)
    have hG2 : CGn T (a_ur I 34 (gvR I m mj x k)) R m g gq := hG.fr hT (fun o ho => a_ur_ne (by omega)) (by rw [a_ur_ne (by decide)])
    have hE2 : CEn T (a_ur I 34 (gvR I m mj x k)) R m eq := hE.fr hT (fun o ho => a_ur_ne (by omega))
    have hY2 : CTy (a_ur I 34 (gvR I m mj x k)) m := hY.fr (fun o h1 h2 => a_ur_ne (by omega))
    have hV2 : CFo (a_ur I 34 (gvR I m mj x k)) m mj := fun f hf => by rw [a_ur_ne (by decide)]; exact hV f hf
    have hN2 : ∀ y, y < 16 * (x / 16) → (a_ur I 34 (gvR I m mj x k)) 36 y = m 91 y ∧ (0 ≤ m 91 y ∧ m 91 y ≤ 4) := fun y hy => by rw [a_ur_ne (by decide)]; exact hN y hy
    refine aw_iload_n hC dX2_lookAt_2 rfl ?_
    refine aw_iconst (v := 3) hC dX2_lookAt_3 (by decide) ?_
    refine aw_icmp_ge (tgt := 29) hC dX2_lookAt_4 (by decide) (fun h1 => ?_) (fun h1 => ?_)
    · show AW X 0 0 29 [some (.ref 33), some (.int (nI x)), some (.int (nI k))] [] T (a_ur I 34 (gvR I m mj x k)) J R
      have h1n : 3 ≤ k := (nI_leI (a := 3) (b := k) (by omega) (by omega)).mp h1
      have e9 : k = 3 := by omega
      subst e9
      show AW X 0 0 29 [some (.ref 33), some (.int (nI x)), some (.int (nI 3))] [] T (a_ur I 34 (gvR I m mj x 3)) J R
      refine aw_aload_n hC dX2_lookAt_29 rfl ?_
      refine aw_getR hC dX2_lookAt_30 aF_X2_18 rfl (tg_33 hT) (pr_33_4 hR) ?_
      refine aw_iload_n hC dX2_lookAt_33 rfl ?_
      refine aw_aload_n hC dX2_lookAt_34 rfl ?_
      refine aw_iload_n hC dX2_lookAt_35 rfl ?_
      refine kX2_46 hC rfl (m_X2_findNeed (I := a_ur I 34 (gvR I m mj x 3)) hT hR hG2 hg hY2 hE2 (x := x) (by omega) hi (fun a ha => by rw [a_ur_self]; exact gvR_at ha)) dX2_lookAt_36 (tg_33 hT) rfl a_le a_le a_le a_le a_le rfl aPure_x (aPure_k ?_)
      show AW X 0 0 39 [some (.ref 33), some (.int (nI x)), some (.int (nI 3))] [.int (sCmp m mj x), .int (nI x), .ref 36] T (a_ur I 34 (gvR I m mj x 3)) J R
      refine aw_iastore_k (j := x) hC dX2_lookAt_39 (tg_36 hT) (nI_clamp (by omega)) (vp_in_nI (by omega) (by decide)) ?_
      exact aw_return hC hq rfl dX2_lookAt_40 a_le a_le aPure_v
    · show AW X 0 0 7 [some (.ref 33), some (.int (nI x)), some (.int (nI k))] [] T (a_ur I 34 (gvR I m mj x k)) J R
      have h1n : ¬ 3 ≤ k := fun q9 => h1 ((nI_leI (a := 3) (b := k) (by omega) (by omega)).mpr q9)
      refine aw_aload_n hC dX2_lookAt_7 rfl ?_
      refine aw_getR hC dX2_lookAt_8 aF_X2_9 rfl (tg_33 hT) (pr_33_0 hR) ?_
      refine aw_iload_n hC dX2_lookAt_11 rfl ?_
      refine aw_iconst (v := 3) hC dX2_lookAt_12 (by decide) ?_
      refine aw_imul hC dX2_lookAt_13 ?_
      rw [show (nI x) * 3 = nI (x * 3) from pk_mul x 3]
      refine aw_iload_n hC dX2_lookAt_14 rfl ?_
      refine aw_iadd hC dX2_lookAt_15 ?_
      rw [show (nI (x * 3)) + (nI k) = nI ((x * 3) + k) from nI_add (x * 3) k]
      refine aw_aload_n hC dX2_lookAt_16 rfl ?_
      refine aw_iload_n hC dX2_lookAt_17 rfl ?_
      refine aw_iload_n hC dX2_lookAt_18 rfl ?_
      refine kX2_42 hC rfl (m_X2_sourceGives (I := a_ur I 34 (gvR I m mj x k)) hT hR hG2 hg hY2 hE2 (x := x) (by omega) hV2 hi hN2 (a := k) (by omega)) dX2_lookAt_19 (tg_33 hT) rfl a_le a_le a_le a_le a_le rfl aPure_x (aPure_k ?_)
      show AW X 0 0 22 [some (.ref 33), some (.int (nI x)), some (.int (nI k))] [.int (sGives m mj x k), .int (nI ((x * 3) + k)), .ref 34] T (a_ur I 34 (gvR I m mj x k)) J R
      refine aw_iastore_k (j := ((x * 3) + k)) hC dX2_lookAt_22 (tg_34 hT) (nI_clamp (by omega)) (vp_in_nI (by omega) (by decide)) ?_
      refine aw_iinc (v := nI (k + 1)) (L2 := [some (.ref 33), some (.int (nI x)), some (.int (nI (k + 1)))]) hC dX2_lookAt_23 rfl (nI_inc _) (by decide) rfl ?_
      refine aw_goto (tgt := 2) hC dX2_lookAt_26 (by decide) ?_
      rw [show a_u (a_ur I 34 (gvR I m mj x k)) 34 ((x * 3) + k) (sGives m mj x k) = a_ur I 34 (gvR I m mj x (k + 1)) from by rw [a_ur_put]; exact a_ur_ext gvR_put]
      exact ih_k (by omega)
  exact loop 0 (Nat.zero_le _)
/-- all below k are looked at: N the needs, G what the sources give -/
def LkR (m : aI) (mj : aJ) (N G : Nat → Int32) (k : Nat) : Prop := ∀ x, x < k → N x = sCmp (a_ur m 91 N) mj x ∧ ∀ a, a < 3 → G (3 * x + a) = sGives (a_ur m 91 N) mj x a
theorem LkR.step {m : aI} {mj : aJ} {N G : Nat → Int32} {k g : Nat} {I : aI} (hg : g ≤ 4) (hk : k < 16 * g) (hso : SO3 m) (h : LkR m mj N G k) (hG : ∀ j, I 34 j = G j) :
    LkR m mj (fun j => if j = k then sCmp (a_ur m 91 N) mj k else N j) (gvR I (a_ur m 91 N) mj k 3) (k + 1) := fun x hx => by
  refine ⟨cmp_put hg hk hso (fun x hx => (h x hx).1) x hx, fun a ha => ?_⟩
  have e : sGives (a_ur m 91 (fun j => if j = k then sCmp (a_ur m 91 N) mj k else N j)) mj x a = sGives (a_ur m 91 N) mj x a := by
    refine sGives_cg (by unfold SO3 iN at *; rw [a_ur_ne (by decide)]; exact hso) (by omega) ha (by rw [a_ur_ne (by decide), a_ur_ne (by decide)]) rfl ?_ ?_ ?_ ?_ ?_ ?_ (fun y hy => by rw [a_ur_self, a_ur_self]; exact if_neg (by omega)) <;> rw [a_ur_ne (by decide), a_ur_ne (by decide)]
  rw [e]
  by_cases c : x = k
  · rw [c]; exact gvR_at ha
  · simp only [gvR]; rw [if_neg (by omega), hG]; exact (h x (by omega)).2 a ha
theorem lk_st {I : aI} {G N G2 : Nat → Int32} {k : Nat} {v : Int32} : a_u (a_ur (a_ur (a_ur I 34 G) 36 N) 34 G2) 36 k v = a_ur (a_ur I 34 G2) 36 (fun j => if j = k then v else N j) := by
  rw [a_ur_swap (o := 34) (by decide), a_ur_2, a_ur_put]
set_option maxRecDepth 100000 in
theorem m_X2_lookAtAll {T : List aT} {I : aI} {J : aJ} {R : aR} (hT : aPT T) (hR : aPR R) {m : aI} {g : Nat} {gq : Nat → Nat} (hG : CGn T I R m g gq) (hg : GW m g) (hY : CTy I m) {eq : Nat → Nat} (hE : CEn T I R m eq) {mj : aJ} (hV : CFo I m mj) (hi : InvE m g) : MX2_lookAtAll 0 0 [.ref 33] T I J R (aRelV (fun v I2 J2 => v = none ∧ J2 = J ∧ ∃ G N, I2 = a_ur (a_ur I 34 G) 36 N ∧ LkR m mj N G (16 * g)) T R) := by
  refine a_met (by decide +kernel) a_le (fun X hC hq => ?_)
  show AW X 0 0 0 [some (.ref 33), none] [] T I J R
  refine aw_iconst (v := 0) hC dX2_lookAtAll_0 (by decide) ?_
  refine aw_istore_n (L2 := [some (.ref 33), some (.int 0)]) hC dX2_lookAtAll_1 rfl (by decide) rfl ?_
  refine aw_setI (I2 := a_ur (a_ur I 34 (I 34)) 36 (I 36)) (by rw [a_ur_id (fun j => rfl), a_ur_id (fun j => rfl)]) ?_
  have loop : ∀ k, k ≤ 16 * g → ∀ G N : Nat → Int32, LkR m mj N G k → AW X 0 0 2 [some (.ref 33), some (.int (nI k))] [] T (a_ur (a_ur I 34 G) 36 N) J R := by
    refine a_down (16 * g) (fun k hk_k ih_k => ?_)
    intro G N hL
    have hg4 := hg.g4
    have hgn : (a_ur (a_ur I 34 G) 36 N) 19 2 = nI g := by rw [a_ur_ne (by decide), a_ur_ne (by decide)]; exact hG.cnt
    have hG2 : CGn T (a_ur (a_ur I 34 G) 36 N) R (a_ur m 91 N) g gq := (hG.fr hT (fun o ho => by rw [a_ur_ne (by omega), a_ur_ne (by omega)]) (by rw [a_ur_ne (by decide), a_ur_ne (by decide)])).cgm (a_ur_ne (by decide)) (a_ur_ne (by decide)) (a_ur_ne (by decide)) (a_ur_ne (by decide))
    have hE2 : CEn T (a_ur (a_ur I 34 G) 36 N) R (a_ur m 91 N) eq := (hE.fr hT (fun o ho => by rw [a_ur_ne (by omega), a_ur_ne (by omega)])).cgm (a_ur_ne (by decide)) (a_ur_ne (by decide)) (a_ur_ne (by decide)) (a_ur_ne (by decide)) (a_ur_ne (by decide))
    have hY2 : CTy (a_ur (a_ur I 34 G) 36 N) (a_ur m 91 N) := (hY.fr (fun o h1 h2 => by rw [a_ur_ne (by omega), a_ur_ne (by omega)])).cgm (a_ur_ne (by decide)) (a_ur_ne (by decide)) (a_ur_ne (by decide)) (a_ur_ne (by decide))
    have hV2 : CFo (a_ur (a_ur I 34 G) 36 N) (a_ur m 91 N) mj := fun f hf => by rw [a_ur_ne (by decide), a_ur_ne (by decide), sVal_cg (I := m) (J := mj) (by rw [a_ur_ne (by decide)]) rfl]; exact hV f hf
    have hg2 : GW (a_ur m 91 N) g := GW_cg (by rw [a_ur_ne (by decide)]) (a_ur_ne (by decide)) (a_ur_ne (by decide)) (a_ur_ne (by decide)) (a_ur_ne (by decide)) (a_ur_ne (by decide)) hg
    have hi2 : InvE (a_ur m 91 N) g := hi.cgm (a_ur_ne (by decide)) (a_ur_ne (by decide)) (a_ur_ne (by decide)) (a_ur_ne (by decide)) (a_ur_ne (by decide)) (a_ur_ne (by decide)) (a_ur_ne (by decide))
    have hN2 : ∀ y, y < 16 * (k / 16) → (a_ur (a_ur I 34 G) 36 N) 36 y = (a_ur m 91 N) 91 y ∧ (0 ≤ (a_ur m 91 N) 91 y ∧ (a_ur m 91 N) 91 y ≤ 4) := fun y hy => by rw [a_ur_self, a_ur_self]; exact ⟨rfl, by rw [(hL y (by omega)).1]; exact sCmp_rng⟩
    refine aw_iload_n hC dX2_lookAtAll_2 rfl ?_
    refine aw_aload_n hC dX2_lookAtAll_3 rfl ?_
    refine aw_getR hC dX2_lookAtAll_4 aF_X2_28 rfl (tg_33 hT) (pr_33_3 hR) ?_
    refine kX2_32 hC rfl (m_X4_names (I := a_ur (a_ur I 34 G) 36 N) hT hR (g := g) hgn) dX2_lookAtAll_7 (tg_19 hT) rfl a_le a_le a_le a_le a_le rfl aPure_x (aPure_k ?_)
    show AW X 0 0 10 [some (.ref 33), some (.int (nI k))] [.int (nI (16 * g)), .int (nI k)] T (a_ur (a_ur I 34 G) 36 N) J R
    refine aw_icmp_ge (tgt := 24) hC dX2_lookAtAll_10 (by decide) (fun h1 => ?_) (fun h1 => ?_)
    · show AW X 0 0 24 [some (.ref 33), some (.int (nI k))] [] T (a_ur (a_ur I 34 G) 36 N) J R
      have h1n : (16 * g) ≤ k := (nI_leI (a := (16 * g)) (b := k) (by omega) (by omega)).mp h1
      exact aw_return hC hq rfl dX2_lookAtAll_24 a_le a_le ⟨_, rfl, rfl, rfl, rfl, rfl, G, N, rfl, by have e9 : k = 16 * g := (by omega); rw [e9] at hL; exact hL⟩
    · show AW X 0 0 13 [some (.ref 33), some (.int (nI k))] [] T (a_ur (a_ur I 34 G) 36 N) J R
      have h1n : ¬ (16 * g) ≤ k := fun q9 => h1 ((nI_leI (a := (16 * g)) (b := k) (by omega) (by omega)).mpr q9)
      refine aw_aload_n hC dX2_lookAtAll_13 rfl ?_
      refine aw_iload_n hC dX2_lookAtAll_14 rfl ?_
      refine kX2_38 hC rfl (m_X2_lookAt (I := (a_ur (a_ur I 34 G) 36 N)) (m := (a_ur m 91 N)) hT hR hG2 hg2 hY2 hE2 hV2 hi2 (x := k) (by omega) hN2) dX2_lookAtAll_15 (tg_33 hT) rfl a_le a_le a_le a_le a_le rfl aPure_x (aPure_k ?_)
      rw [lk_st]
      show AW X 0 0 18 [some (.ref 33), some (.int (nI k))] [] T (a_ur (a_ur I 34 (gvR (a_ur (a_ur I 34 G) 36 N) (a_ur m 91 N) mj k 3)) 36 (fun j => if j = k then sCmp (a_ur m 91 N) mj k else N j)) J R
      refine aw_iinc (v := nI (k + 1)) (L2 := [some (.ref 33), some (.int (nI (k + 1)))]) hC dX2_lookAtAll_18 rfl (nI_inc _) (by decide) rfl ?_
      refine aw_goto (tgt := 2) hC dX2_lookAtAll_21 (by decide) ?_
      exact ih_k (by omega) _ _ (LkR.step hg4 (by omega) hg.so hL (fun j => by rw [a_ur_ne (by decide), a_ur_self]))
  exact loop 0 (Nat.zero_le _) _ _ (fun x hx => absurd hx (by omega))
