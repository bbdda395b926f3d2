/-- the differences of the name x that are written so far: k attributes -/
def WdI (I I2 m : aI) (mj : aJ) (x r : Nat) (w : Bool) (q k : Nat) : Prop := (∀ o p, o ≠ 23 → o ≠ q + 1 → ¬ (o = q ∧ p = 3) → I2 o p = I o p) ∧ I2 q 3 = chAd m mj x w k ∧ (∀ a, a < 3 → I2 (q + 1) a = ch70 m mj x w k (3 * x + a)) ∧ ∀ j, j < 60 → m 68 j = 0 → ∀ a, a < 3 → I2 23 (3 * j + a) = ch67 m mj x r k (3 * j + a)
theorem chAd_sub {m : aI} {mj : aJ} {x : Nat} {w : Bool} {i : Nat} : ∀ k, bt (chAd m mj x w k) i = true → bt (m 72 x) i = true
  | 0, h => h
  | k + 1, h => by
    rw [chAd] at h
    split at h
    · rw [b_and, Bool.and_eq_true] at h; exact chAd_sub k h.1
    · exact chAd_sub k h
theorem chAd_bt {m : aI} {mj : aJ} {x : Nat} {w : Bool} {i : Nat} (hi : i < 32) : ∀ k, k ≤ i → bt (chAd m mj x w k) i = bt (m 72 x) i
  | 0, _ => rfl
  | k + 1, h => by
    have ih := chAd_bt (m := m) (mj := mj) (x := x) (w := w) hi k (by omega)
    rw [chAd]
    split
    · rw [b_and, b_xor, b_m1 i hi, bt_bK (by omega) hi, ih, decide_eq_false (show ¬ i = k by omega)]; simp
    · exact ih
theorem ch70_k {m : aI} {mj : aJ} {x k a : Nat} {w : Bool} (h : k ≤ a) : ch70 m mj x w k (3 * x + a) = m 70 (3 * x + a) := by unfold ch70; rw [if_neg (by omega)]
theorem ch70_o {m : aI} {mj : aJ} {x y k a : Nat} {w : Bool} (h : y ≠ x) (hk : k ≤ 3) (ha : a < 3) : ch70 m mj x w k (3 * y + a) = m 70 (3 * y + a) := by unfold ch70; rw [if_neg (by omega)]
theorem chS_67 {m : aI} {mj : aJ} {x r k : Nat} {w : Bool} : chS m mj x r w k 67 = ch67 m mj x r k := by unfold chS; rw [a_ur_ne (by decide), a_ur_ne (by decide), a_ur_self]
theorem chS_70 {m : aI} {mj : aJ} {x r k : Nat} {w : Bool} : chS m mj x r w k 70 = ch70 m mj x w k := by unfold chS; rw [a_ur_ne (by decide), a_ur_self]
theorem chS_72 {m : aI} {mj : aJ} {x r k : Nat} {w : Bool} : chS m mj x r w k 72 x = chAd m mj x w k := by unfold chS; rw [a_ur_self]; exact if_pos rfl
theorem chS_72o {m : aI} {mj : aJ} {x y r k : Nat} {w : Bool} (h : y ≠ x) : chS m mj x r w k 72 y = m 72 y := by unfold chS; rw [a_ur_self]; exact if_neg h
theorem chS_o {m : aI} {mj : aJ} {x r k o : Nat} {w : Bool} (h : o ≠ 67) (h2 : o ≠ 70) (h3 : o ≠ 72) : chS m mj x r w k o = m o := by unfold chS; rw [a_ur_ne h3, a_ur_ne h2, a_ur_ne h]
theorem dfC_ch {m : aI} {mj : aJ} {x r k : Nat} {w : Bool} {v : Int32} (hk : k < 3) : dfC (chS m mj x r w k) x k v ↔ dfC m x k v := by
  have e62 : iN (chS m mj x r w k) 62 (x / 16) = iN m 62 (x / 16) := by unfold iN; rw [chS_o (by decide) (by decide) (by decide)]
  unfold dfC
  rw [chS_o (o := 69) (by decide) (by decide) (by decide), chS_o (o := 58) (by decide) (by decide) (by decide), e62, chS_70, ch70_k (Nat.le_refl _), chS_72, chAd_bt (by omega) k (Nat.le_refl _), chS_o (o := 73) (by decide) (by decide) (by decide)]
theorem WdI.en {T : List aT} {I I2 m : aI} {R : aR} {mj : aJ} {eq : Nat → Nat} {x r k : Nat} {w : Bool} (hT : aPT T) (hE : CEn T I R m eq) (hx : x < 64) (h0 : m 69 x ≠ 0) (hk : k ≤ 3) (h : WdI I I2 m mj x r w (eq x) k) : CEn T I2 R (chS m mj x r w k) eq := by
  have h95 := hE.ge hT hx h0
  have e1 : CEn T (a_ur I 23 (I2 23)) R m eq := hE.fr hT (fun o ho => a_ur_ne (by omega))
  refine e1.dr hx h0 ⟨fun o p h1 h2 h3 => ?_, ?_, fun a ha => ?_, fun a ha hb => ?_⟩ (chS_o (by decide) (by decide) (by decide)) (chS_o (by decide) (by decide) (by decide)) (fun z hz => ⟨chS_72o hz, fun a ha => ⟨by rw [chS_70]; exact ch70_o hz hk ha, by rw [chS_o (by decide) (by decide) (by decide)]⟩⟩)
  · by_cases c : o = 23
    · rw [c, a_ur_self]
    · rw [a_ur_ne c]; exact h.1 o p c h1 h3
  · rw [chS_72]; exact h.2.1
  · rw [chS_70]; exact h.2.2.1 a ha
  · rw [chS_72] at hb
    rw [chS_o (by decide) (by decide) (by decide), h.1 _ _ (by omega) (by omega) (by omega)]
    exact hE.bs hx h0 ha (chAd_sub k hb)
theorem WdI.n {I I2 m : aI} {mj : aJ} {x r k q : Nat} {w : Bool} (h : WdI I I2 m mj x r w q k) (hs : sDf m mj x k = false) : WdI I I2 m mj x r w q (k + 1) := by
  refine ⟨h.1, ?_, fun a ha => ?_, fun j hj hg a ha => ?_⟩
  · rw [chAd, if_neg (by rw [hs]; simp)]; exact h.2.1
  · rw [← ch70_n (Or.inl hs)]; exact h.2.2.1 a ha
  · rw [← ch67_n hs]; exact h.2.2.2 j hj hg a ha
theorem WdI.y {I I2 I3 m : aI} {mj : aJ} {x r k q : Nat} {w : Bool} (hk : k < 3) (h95 : 44 ≤ q) (h : WdI I I2 m mj x r w q k) (hs : sDf m mj x k = true) (e : I3 = if w = true then enW (a_u I2 23 (3 * r + k) (sGives m mj x k)) q k (sGives m mj x k) else a_u I2 23 (3 * r + k) (sGives m mj x k)) : WdI I I3 m mj x r w q (k + 1) := by
  have r23 : ∀ p, I3 23 p = if p = 3 * r + k then sGives m mj x k else I2 23 p := fun p => by
    rw [e]
    have z : a_u I2 23 (3 * r + k) (sGives m mj x k) 23 p = if p = 3 * r + k then sGives m mj x k else I2 23 p := by
      by_cases c : p = 3 * r + k
      · rw [c, a_u_self, if_pos rfl]
      · rw [a_u_ne (fun u => c u.2), if_neg c]
    split
    · rw [enW_o (by omega) (by omega)]; exact z
    · exact z
  have c67 : ∀ j, j < 60 → m 68 j = 0 → ∀ a, a < 3 → I3 23 (3 * j + a) = ch67 m mj x r (k + 1) (3 * j + a) := fun j hj hg a ha => by
    rw [r23]
    by_cases c : 3 * j + a = 3 * r + k
    · have ej : j = r := by omega
      have ea : a = k := by omega
      rw [if_pos c, ej, ea]
      unfold ch67
      rw [if_pos ⟨by omega, by rw [show 3 * r + k - 3 * r = k by omega]; exact hs, by rw [← ej]; exact hg⟩, show 3 * r + k - 3 * r = k by omega]
    · rw [if_neg c, h.2.2.2 j hj hg a ha]
      unfold ch67
      by_cases d : 3 * r ≤ 3 * j + a ∧ 3 * j + a < 3 * r + k
      · have d2 : 3 * r ≤ 3 * j + a ∧ 3 * j + a < 3 * r + (k + 1) := by omega
        simp only [d, d2]
      · have d2 : ¬ (3 * r ≤ 3 * j + a ∧ 3 * j + a < 3 * r + (k + 1)) := by omega
        simp only [d, d2, false_and, if_false]
  cases w with
  | true =>
    rw [if_pos rfl] at e
    refine ⟨fun o p h1 h2 h3 => ?_, ?_, fun a ha => ?_, c67⟩
    · rw [e, enW_o h2 h3, a_u_row h1]; exact h.1 o p h1 h2 h3
    · rw [e, enW_3, a_u_row (by omega), h.2.1, chAd, if_pos ⟨hs, rfl⟩]
    · rw [e, enW_v]
      by_cases c : a = k
      · rw [if_pos c, c]; unfold ch70
        rw [if_pos ⟨by omega, by rw [show 3 * x + k - 3 * x = k by omega]; exact hs, rfl⟩, show 3 * x + k - 3 * x = k by omega]
      · rw [if_neg c, a_u_row (by omega), h.2.2.1 a ha]
        unfold ch70
        by_cases d : 3 * x ≤ 3 * x + a ∧ 3 * x + a < 3 * x + k
        · have d2 : 3 * x ≤ 3 * x + a ∧ 3 * x + a < 3 * x + (k + 1) := by omega
          simp only [d, d2]
        · have d2 : ¬ (3 * x ≤ 3 * x + a ∧ 3 * x + a < 3 * x + (k + 1)) := by omega
          simp only [d, d2, false_and, if_false]
  | false =>
    rw [if_neg (by decide)] at e
    refine ⟨fun o p h1 h2 h3 => ?_, ?_, fun a ha => ?_, c67⟩
    · rw [e, a_u_row h1]; exact h.1 o p h1 h2 h3
    · rw [e, a_u_row (by omega), h.2.1, chAd, if_neg (by simp)]
    · rw [e, a_u_row (by omega), ← ch70_n (Or.inr rfl)]; exact h.2.2.1 a ha
set_option maxRecDepth 100000 in
theorem m_X0_endResource {T : List aT} {I : aI} {J : aJ} {R : aR} (hT : aPT T) (hR : aPR R) {m : aI} {eq : Nat → Nat} (hE : CEn T I R m eq) {x r hw : Nat} (hx : x < 64) (he : m 69 x = nI (r + 1)) (hr60 : r < 60) (hhw : hw < 3) : MX0_endResource 0 0 [.ref 38, .int (nI x), .int (nI hw)] T I J R (aPure none T (a_u I 24 r 1) J (if hw = 2 then R else a_u R 25 x none)) := by
  refine a_met (by decide +kernel) a_le (fun X hC hq => ?_)
  show AW X 0 0 0 [some (.ref 38), some (.int (nI x)), some (.int (nI hw)), none] [] T I J R
  have h69 : m 69 x ≠ 0 := by rw [he]; exact fun q => absurd ((nI_eq (a := r + 1) (b := 0) (by omega) (by omega)).mp q) (by omega)
  have h95 := hE.ge hT hx h69
  refine aw_aload_n hC dX0_endResource_0 rfl ?_
  refine aw_getR hC dX0_endResource_1 aF_X0_19 rfl (tg_38 hT) (pr_38_1 hR) ?_
  refine aw_getR hC dX0_endResource_4 aF_X0_132 rfl (tg_19 hT) (pr_19_7 hR) ?_
  refine aw_iload_n hC dX0_endResource_7 rfl ?_
  refine aw_aaloadR_k (j := x) hC dX0_endResource_8 (tg_25 hT) (nI_clamp (by omega)) (vp_in_nI (by omega) (by decide)) (hE.rf (by omega) h69) ?_
  refine aw_astore_n (L2 := [some (.ref 38), some (.int (nI x)), some (.int (nI hw)), some (.ref (eq x))]) hC dX0_endResource_9 rfl (by decide) rfl ?_
  refine aw_aload_n hC dX0_endResource_10 rfl ?_
  refine aw_ifnonnull (tgt := 15) hC dX0_endResource_11 (by decide) ?_
  refine aw_aload_n hC dX0_endResource_15 rfl ?_
  refine aw_getR hC dX0_endResource_16 aF_X0_19 rfl (tg_38 hT) (pr_38_1 hR) ?_
  refine aw_getR hC dX0_endResource_19 aF_X0_96 rfl (tg_19 hT) (pr_19_5 hR) ?_
  refine aw_aload_n hC dX0_endResource_22 rfl ?_
  refine aw_getI hC dX0_endResource_23 aF_X0_136 rfl (hE.tg (by omega) h69) ?_
  rw [(show I (eq x) 0 = nI r from by rw [hE.rs (by omega) h69, he]; exact nI_p1 _)]
  refine aw_iconst (v := 1) hC dX0_endResource_26 (by decide) ?_
  refine aw_bastore_k (j := r) hC dX0_endResource_27 (tg_24 hT) (nI_clamp (by omega)) (vp_in_nI (by omega) (by decide)) (Or.inr rfl) ?_
  refine aw_iload_n hC dX0_endResource_28 rfl ?_
  refine aw_iconst (v := 2) hC dX0_endResource_29 (by decide) ?_
  refine aw_icmp_eq (tgt := 43) hC dX0_endResource_30 (by decide) (fun h1 => ?_) (fun h1 => ?_)
  · show AW X 0 0 43 [some (.ref 38), some (.int (nI x)), some (.int (nI hw)), some (.ref (eq x))] [] T (a_u I 24 r 1) J R
    have h1n : hw = 2 := (nI_eq (a := hw) (b := 2) (by omega) (by omega)).mp h1
    exact aw_return hC hq rfl dX0_endResource_43 a_le a_le (by rw [if_pos (by assumption)]; exact aPure_v)
  · show AW X 0 0 33 [some (.ref 38), some (.int (nI x)), some (.int (nI hw)), some (.ref (eq x))] [] T (a_u I 24 r 1) J R
    have h1n : ¬ hw = 2 := fun q9 => h1 ((nI_eq (a := hw) (b := 2) (by omega) (by omega)).mpr q9)
    refine aw_aload_n hC dX0_endResource_33 rfl ?_
    refine aw_getR hC dX0_endResource_34 aF_X0_19 rfl (tg_38 hT) (pr_38_1 hR) ?_
    refine aw_getR hC dX0_endResource_37 aF_X0_132 rfl (tg_19 hT) (pr_19_7 hR) ?_
    refine aw_iload_n hC dX0_endResource_40 rfl ?_
    refine aw_null hC dX0_endResource_41 ?_
    refine aw_aastoreN_k (j := x) hC dX0_endResource_42 (tg_25 hT) (nI_clamp (by omega)) (vp_in_nI (by omega) (by decide)) ?_
    have hR2 : aPR (a_u R 25 x none) := hR.put (fun q9 h9 e9 => by have := a_refs_no25 q9 h9; omega)
    exact aw_return hC hq rfl dX0_endResource_43 a_le a_le (by rw [if_neg (by assumption)]; exact aPure_v)
set_option maxRecDepth 100000 in
theorem m_X0_writeDifferences {T : List aT} {I : aI} {J : aJ} {R : aR} (hT : aPT T) (hR : aPR R) {m : aI} {g : Nat} {gq : Nat → Nat} (hG : CGn T I R m g gq) (hg : GW m g) (hY : CTy I m) {eq : Nat → Nat} (hE : CEn T I R m eq) {x : Nat} (hx : x < 16 * g) {mj : aJ} (hi : InvE m g) {r0 : Nat} (hRs : CRs I m r0) {r hw : Nat} (he : m 69 x = nI (r + 1)) (hr60 : r < 60) (hhw : hw < 3) (hGv : ∀ a, a < 3 → I 34 (3 * x + a) = sGives m mj x a) : MX0_writeDifferences 0 0 [.ref 38, .int (nI x), .int (nI hw)] T I J R (aRelV (fun v I2 J2 => v = none ∧ J2 = J ∧ WdI I I2 m mj x r (!decide (hw = 2)) (eq x) 3) T R) := by
  refine a_met (by decide +kernel) a_le (fun X hC hq => ?_)
  show AW X 0 0 0 [some (.ref 38), some (.int (nI x)), some (.int (nI hw)), none, none, none] [] T I J R
  have hg4 := hg.g4
  have hty := hg.ty (x / 16) (by omega)
  have hx6 : x < 64 := by omega
  have h69 : m 69 x ≠ 0 := by rw [he]; exact fun q => absurd ((nI_eq (a := r + 1) (b := 0) (by omega) (by omega)).mp q) (by omega)
  have h95 := hE.ge hT hx6 h69
  refine aw_aload_n hC dX0_writeDifferences_0 rfl ?_
  refine aw_getR hC dX0_writeDifferences_1 aF_X0_19 rfl (tg_38 hT) (pr_38_1 hR) ?_
  refine aw_getR hC dX0_writeDifferences_4 aF_X0_132 rfl (tg_19 hT) (pr_19_7 hR) ?_
  refine aw_iload_n hC dX0_writeDifferences_7 rfl ?_
  refine aw_aaloadR_k (j := x) hC dX0_writeDifferences_8 (tg_25 hT) (nI_clamp (by omega)) (vp_in_nI (by omega) (by decide)) (hE.rf (by omega) h69) ?_
  refine aw_astore_n (L2 := [some (.ref 38), some (.int (nI x)), some (.int (nI hw)), some (.ref (eq x)), none, none]) hC dX0_writeDifferences_9 rfl (by decide) rfl ?_
  refine aw_aload_n hC dX0_writeDifferences_10 rfl ?_
  refine aw_ifnonnull (tgt := 15) hC dX0_writeDifferences_11 (by decide) ?_
  refine aw_iconst (v := 0) hC dX0_writeDifferences_15 (by decide) ?_
  refine aw_istore (L2 := [some (.ref 38), some (.int (nI x)), some (.int (nI hw)), some (.ref (eq x)), some (.int 0), none]) hC dX0_writeDifferences_16 (by decide) rfl ?_
  have hq9 : EnT T R (eq x) := ⟨hE.tg (by omega) h69, hE.r1 (by omega) h69, hE.t1 (by omega) h69, hE.r4 (by omega) h69, hE.t2 (by omega) h69⟩
  have loop : ∀ k, k ≤ 3 → ∀ I2 : aI, WdI I I2 m mj x r (!decide (hw = 2)) (eq x) k → AW X 0 0 18 [some (.ref 38), some (.int (nI x)), some (.int (nI hw)), some (.ref (eq x)), some (.int (nI k)), none] [] T I2 J R := by
    refine a_down 3 (fun k hk_k ih_k => ?_)
    intro I2 hW
    have ho9 : ∀ o, o < 44 → o ≠ 23 → I2 o = I o := fun o ho h2 => funext fun p => hW.1 o p h2 (by omega) (fun q => by omega)
    have hE2 : CEn T I2 R (chS m mj x r (!decide (hw = 2)) k) eq := hW.en hT hE hx6 h69 hk_k
    have hG2 : CGn T I2 R (chS m mj x r (!decide (hw = 2)) k) g gq := (hG.fe hT (by rw [ho9 19 (by decide) (by decide)]) (fun o h1 h2 => funext fun p => hW.1 o p (by omega) (fun q => h2 (by rw [q]; exact (hE.eno hx6 h69).2.1)) (fun q => h2 (by rw [q.1]; exact (hE.eno hx6 h69).1))) rfl (fun _ _ => rfl)).cgm (chS_o (by decide) (by decide) (by decide)) (chS_o (by decide) (by decide) (by decide)) (chS_o (by decide) (by decide) (by decide)) (chS_o (by decide) (by decide) (by decide))
    have hY2 : CTy I2 (chS m mj x r (!decide (hw = 2)) k) := (hY.fr (fun o h1 h2 => ho9 o (by omega) (by omega))).cgm (chS_o (by decide) (by decide) (by decide)) (chS_o (by decide) (by decide) (by decide)) (chS_o (by decide) (by decide) (by decide)) (chS_o (by decide) (by decide) (by decide))
    have hg2 : GW (chS m mj x r (!decide (hw = 2)) k) g := GW_cg (by rw [chS_o (by decide) (by decide) (by decide)]) (chS_o (by decide) (by decide) (by decide)) (chS_o (by decide) (by decide) (by decide)) (chS_o (by decide) (by decide) (by decide)) (chS_o (by decide) (by decide) (by decide)) (chS_o (by decide) (by decide) (by decide)) hg
    have hgk : k < 3 → I2 34 ((x * 3) + k) = sGives m mj x k := fun hk3 => by rw [ho9 34 (by decide) (by decide), Nat.mul_comm]; exact hGv k hk3
    refine aw_iload hC dX0_writeDifferences_18 rfl ?_
    refine aw_iconst (v := 3) hC dX0_writeDifferences_20 (by decide) ?_
    refine aw_icmp_ge (tgt := 96) hC dX0_writeDifferences_21 (by decide) (fun h1 => ?_) (fun h1 => ?_)
    · show AW X 0 0 96 [some (.ref 38), some (.int (nI x)), some (.int (nI hw)), some (.ref (eq x)), some (.int (nI k)), none] [] T I2 J R
      have h1n : 3 ≤ k := (nI_leI (a := 3) (b := k) (by omega) (by omega)).mp h1
      exact aw_return hC hq rfl dX0_writeDifferences_96 a_le a_le ⟨_, rfl, rfl, rfl, rfl, rfl, by have e9 : k = 3 := (by omega); rw [e9] at hW; exact hW⟩
    · show AW X 0 0 24 [some (.ref 38), some (.int (nI x)), some (.int (nI hw)), some (.ref (eq x)), some (.int (nI k)), none] [] T I2 J R
      have h1n : ¬ 3 ≤ k := fun q9 => h1 ((nI_leI (a := 3) (b := k) (by omega) (by omega)).mpr q9)
      refine aw_aload_n hC dX0_writeDifferences_24 rfl ?_
      refine aw_getR hC dX0_writeDifferences_25 aF_X0_23 rfl (tg_38 hT) (pr_38_2 hR) ?_
      refine aw_getR hC dX0_writeDifferences_28 aF_X0_83 rfl (tg_33 hT) (pr_33_0 hR) ?_
      refine aw_iload_n hC dX0_writeDifferences_31 rfl ?_
      refine aw_iconst (v := 3) hC dX0_writeDifferences_32 (by decide) ?_
      refine aw_imul hC dX0_writeDifferences_33 ?_
      rw [show (nI x) * 3 = nI (x * 3) from pk_mul x 3]
      refine aw_iload hC dX0_writeDifferences_34 rfl ?_
      refine aw_iadd hC dX0_writeDifferences_36 ?_
      rw [show (nI (x * 3)) + (nI k) = nI ((x * 3) + k) from nI_add (x * 3) k]
      refine aw_iaload_k (j := ((x * 3) + k)) hC dX0_writeDifferences_37 (tg_34 hT) (nI_clamp (by omega)) (vp_in_nI (by omega) (by decide)) ?_
      rw [(hgk (by omega))]
      refine aw_istore (L2 := [some (.ref 38), some (.int (nI x)), some (.int (nI hw)), some (.ref (eq x)), some (.int (nI k)), some (.int (sGives m mj x k))]) hC dX0_writeDifferences_38 (by decide) rfl ?_
      refine aw_aload_n hC dX0_writeDifferences_40 rfl ?_
      refine aw_getR hC dX0_writeDifferences_41 aF_X0_23 rfl (tg_38 hT) (pr_38_2 hR) ?_
      refine aw_iload_n hC dX0_writeDifferences_44 rfl ?_
      refine aw_iload hC dX0_writeDifferences_45 rfl ?_
      refine aw_iload hC dX0_writeDifferences_47 rfl ?_
      refine kX0_139 hC rfl (m_X2_isDiffering (I := I2) (m := (chS m mj x r (!decide (hw = 2)) k)) hT hR hG2 hg2 hY2 hE2 (x := x) (by omega) (a := k) (by omega) (sGives m mj x k)) dX0_writeDifferences_49 (tg_33 hT) rfl a_le a_le a_le a_le a_le rfl aPure_x (aPure_k ?_)
      show AW X 0 0 52 [some (.ref 38), some (.int (nI x)), some (.int (nI hw)), some (.ref (eq x)), some (.int (nI k)), some (.int (sGives m mj x k))] [.int (bI (decide (dfC (chS m mj x r (!decide (hw = 2)) k) x k (sGives m mj x k))))] T I2 J R
      refine aw_if_ne (tgt := 58) hC dX0_writeDifferences_52 (by decide) (fun h2 => ?_) (fun h2 => ?_)
      · show AW X 0 0 58 [some (.ref 38), some (.int (nI x)), some (.int (nI hw)), some (.ref (eq x)), some (.int (nI k)), some (.int (sGives m mj x k))] [] T I2 J R
        refine aw_aload_n hC dX0_writeDifferences_58 rfl ?_
        refine aw_getR hC dX0_writeDifferences_59 aF_X0_19 rfl (tg_38 hT) (pr_38_1 hR) ?_
        refine aw_getR hC dX0_writeDifferences_62 aF_X0_129 rfl (tg_19 hT) (pr_19_4 hR) ?_
        refine aw_aload_n hC dX0_writeDifferences_65 rfl ?_
        refine aw_getI hC dX0_writeDifferences_66 aF_X0_136 rfl (hE.tg (by omega) h69) ?_
        rw [(show I2 (eq x) 0 = nI r from (hW.1 _ _ (by omega) (by omega) (by omega)).trans (by rw [hE.rs (by omega) h69, he]; exact nI_p1 _))]
        refine aw_iconst (v := 3) hC dX0_writeDifferences_69 (by decide) ?_
        refine aw_imul hC dX0_writeDifferences_70 ?_
        rw [show (nI r) * 3 = nI (r * 3) from pk_mul r 3]
        refine aw_iload hC dX0_writeDifferences_71 rfl ?_
        refine aw_iadd hC dX0_writeDifferences_73 ?_
        rw [show (nI (r * 3)) + (nI k) = nI ((r * 3) + k) from nI_add (r * 3) k]
        refine aw_iload hC dX0_writeDifferences_74 rfl ?_
        refine aw_iastore_k (j := ((r * 3) + k)) hC dX0_writeDifferences_76 (tg_23 hT) (nI_clamp (by omega)) (vp_in_nI (by omega) (by decide)) ?_
        refine aw_iload_n hC dX0_writeDifferences_77 rfl ?_
        refine aw_iconst (v := 2) hC dX0_writeDifferences_78 (by decide) ?_
        refine aw_icmp_eq (tgt := 90) hC dX0_writeDifferences_79 (by decide) (fun h3 => ?_) (fun h3 => ?_)
        · show AW X 0 0 90 [some (.ref 38), some (.int (nI x)), some (.int (nI hw)), some (.ref (eq x)), some (.int (nI k)), some (.int (sGives m mj x k))] [] T (a_u I2 23 ((r * 3) + k) (sGives m mj x k)) J R
          have h3n : hw = 2 := (nI_eq (a := hw) (b := 2) (by omega) (by omega)).mp h3
          refine aw_iinc (v := nI (k + 1)) (L2 := [some (.ref 38), some (.int (nI x)), some (.int (nI hw)), some (.ref (eq x)), some (.int (nI (k + 1))), some (.int (sGives m mj x k))]) hC dX0_writeDifferences_90 rfl (nI_inc _) (by decide) rfl ?_
          refine aw_goto (tgt := 18) hC dX0_writeDifferences_93 (by decide) ?_
          refine aw_forget 5 (L2 := [some (.ref 38), some (.int (nI x)), some (.int (nI hw)), some (.ref (eq x)), some (.int (nI (k + 1))), none]) rfl ?_
          exact ih_k (by omega) _ (hW.y (by omega) h95 ((df_s hi (by omega) (by omega) h69).mpr ((dfC_ch (by omega)).mp (bI_dn.mp (by assumption : ¬ bI (decide (dfC (chS m mj x r (!decide (hw = 2)) k) x k (sGives m mj x k))) = 0)))) (by rw [decide_eq_true (show hw = 2 by assumption), Bool.not_true, if_neg (by decide), Nat.mul_comm 3 r]))
        · show AW X 0 0 82 [some (.ref 38), some (.int (nI x)), some (.int (nI hw)), some (.ref (eq x)), some (.int (nI k)), some (.int (sGives m mj x k))] [] T (a_u I2 23 ((r * 3) + k) (sGives m mj x k)) J R
          have h3n : ¬ hw = 2 := fun q9 => h3 ((nI_eq (a := hw) (b := 2) (by omega) (by omega)).mpr q9)
          refine aw_aload_n hC dX0_writeDifferences_82 rfl ?_
          refine aw_iload hC dX0_writeDifferences_83 rfl ?_
          refine aw_iload hC dX0_writeDifferences_85 rfl ?_
          refine kX0_143 hC rfl (m_X3_write (I := a_u I2 23 ((r * 3) + k) (sGives m mj x k)) hT hR (q := (eq x)) (a := k) hq9 (by omega) (sGives m mj x k)) dX0_writeDifferences_87 (hE.tg (by omega) h69) rfl a_le a_le a_le a_le a_le rfl aPure_x (aPure_k ?_)
          show AW X 0 0 90 [some (.ref 38), some (.int (nI x)), some (.int (nI hw)), some (.ref (eq x)), some (.int (nI k)), some (.int (sGives m mj x k))] [] T (enW (a_u I2 23 ((r * 3) + k) (sGives m mj x k)) (eq x) k (sGives m mj x k)) J R
          refine aw_iinc (v := nI (k + 1)) (L2 := [some (.ref 38), some (.int (nI x)), some (.int (nI hw)), some (.ref (eq x)), some (.int (nI (k + 1))), some (.int (sGives m mj x k))]) hC dX0_writeDifferences_90 rfl (nI_inc _) (by decide) rfl ?_
          refine aw_goto (tgt := 18) hC dX0_writeDifferences_93 (by decide) ?_
          refine aw_forget 5 (L2 := [some (.ref 38), some (.int (nI x)), some (.int (nI hw)), some (.ref (eq x)), some (.int (nI (k + 1))), none]) rfl ?_
          exact ih_k (by omega) _ (hW.y (by omega) h95 ((df_s hi (by omega) (by omega) h69).mpr ((dfC_ch (by omega)).mp (bI_dn.mp (by assumption : ¬ bI (decide (dfC (chS m mj x r (!decide (hw = 2)) k) x k (sGives m mj x k))) = 0)))) (by rw [decide_eq_false (show ¬ hw = 2 by assumption), Bool.not_false, if_pos rfl, Nat.mul_comm 3 r]))
      · show AW X 0 0 55 [some (.ref 38), some (.int (nI x)), some (.int (nI hw)), some (.ref (eq x)), some (.int (nI k)), some (.int (sGives m mj x k))] [] T I2 J R
        refine aw_goto (tgt := 90) hC dX0_writeDifferences_55 (by decide) ?_
        refine aw_iinc (v := nI (k + 1)) (L2 := [some (.ref 38), some (.int (nI x)), some (.int (nI hw)), some (.ref (eq x)), some (.int (nI (k + 1))), some (.int (sGives m mj x k))]) hC dX0_writeDifferences_90 rfl (nI_inc _) (by decide) rfl ?_
        refine aw_goto (tgt := 18) hC dX0_writeDifferences_93 (by decide) ?_
        refine aw_forget 5 (L2 := [some (.ref 38), some (.int (nI x)), some (.int (nI hw)), some (.ref (eq x)), some (.int (nI (k + 1))), none]) rfl ?_
        exact ih_k (by omega) I2 (hW.n (by cases e9 : sDf m mj x k with | false => rfl | true => exact absurd ((dfC_ch (by omega)).mpr ((df_s hi (by omega) (by omega) h69).mp e9)) (bI_d0.mp (by assumption))))
  exact loop 0 (Nat.zero_le _) I ⟨fun _ _ _ _ _ => rfl, hE.ad hx6 h69, fun a ha => by rw [ch70_k (Nat.zero_le _)]; exact hE.vl hx6 h69 ha, fun j hj hg0 a ha => by unfold ch67; rw [if_neg (by omega)]; exact hRs.vl hj hg0 ha⟩
