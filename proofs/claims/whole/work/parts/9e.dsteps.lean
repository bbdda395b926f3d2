set_option maxRecDepth 100000 in
theorem m_X12_upgradeF1 {T : List aT} {I : aI} {J : aJ} {R : aR} (hT : aPT T) (hR : aPR R) (x : Int32) (hx : ¬ (0 ≤ x ∧ x ≤ 2)) : MX12_upgrade 0 0 [.ref 44, .int x] T I J R (aPure (some (.int 0)) T (a_u I 44 61 1) J R) := by
  refine a_met (by decide +kernel) a_le (fun X hC hq => ?_)
  show AW X 0 0 0 [some (.ref 44), some (.int x), none, none, none, none] [] T I J R
  refine aw_aload_n hC dX12_upgrade_0 rfl ?_
  refine aw_iload_n hC dX12_upgrade_1 rfl ?_
  refine kX12_318 hC rfl (m_X12_isType x) dX12_upgrade_2 rfl a_le a_le a_le a_le a_le rfl aPure_x (aPure_k ?_)
  show AW X 0 0 5 [some (.ref 44), some (.int x), none, none, none, none] [.int (bI (decide (0 ≤ x ∧ x ≤ 2))), .ref 44] T I J R
  rw [show bI (decide (0 ≤ x ∧ x ≤ 2)) = 0 from bI_zero hx]
  refine aw_if_ne (tgt := 12) hC dX12_upgrade_5 (by decide) (fun h1 => absurd h1 (by decide)) (fun _ => ?_)
  show AW X 0 0 8 [some (.ref 44), some (.int x), none, none, none, none] [.ref 44] T I J R
  refine aw_iconst (v := 1) hC dX12_upgrade_8 (by decide) ?_
  refine aw_goto (tgt := 34) hC dX12_upgrade_9 (by decide) ?_
  refine aw_putI hC dX12_upgrade_34 aF_X12_166 rfl rfl (tg_44 hT) ?_
  refine aw_aload_n hC dX12_upgrade_37 rfl ?_
  refine aw_getI hC dX12_upgrade_38 aF_X12_166 rfl (tg_44 hT) ?_
  rw [a_u_self (f := I) (o := 44) (k := 61) (v := 1)]
  refine aw_if_le (tgt := 46) hC dX12_upgrade_41 (by decide) (fun h2 => absurd h2 (by decide)) (fun _ => ?_)
  show AW X 0 0 44 [some (.ref 44), some (.int x), none, none, none, none] [] T (a_u I 44 61 1) J R
  refine aw_iconst (v := 0) hC dX12_upgrade_44 (by decide) ?_
  exact aw_ireturn hC hq rfl dX12_upgrade_45 a_le a_le (aPure_e rfl rfl rfl rfl)
set_option maxRecDepth 100000 in
theorem m_X12_upgradeF2 {T : List aT} {I : aI} {J : aJ} {R : aR} (hT : aPT T) (hR : aPR R) {t : Nat} (h3 : t < 3) (hu : NR I 61 3 3) (hbad : iN I 61 t = 2 ∨ ¬ I 44 45 < 0) : MX12_upgrade 0 0 [.ref 44, .int (nI t)] T I J R (aPure (some (.int 0)) T (a_u I 44 61 2) J R) := by
  refine a_met (by decide +kernel) a_le (fun X hC hq => ?_)
  show AW X 0 0 0 [some (.ref 44), some (.int (nI t)), none, none, none, none] [] T I J R
  refine aw_aload_n hC dX12_upgrade_0 rfl ?_
  refine aw_iload_n hC dX12_upgrade_1 rfl ?_
  refine kX12_318 hC rfl (m_X12_isType (nI t)) dX12_upgrade_2 rfl a_le a_le a_le a_le a_le rfl aPure_x (aPure_k ?_)
  show AW X 0 0 5 [some (.ref 44), some (.int (nI t)), none, none, none, none] [.int (bI (decide (0 ≤ (nI t) ∧ (nI t) ≤ 2))), .ref 44] T I J R
  rw [show bI (decide (0 ≤ (nI t) ∧ (nI t) ≤ 2)) = 1 from bI_one ⟨nI_pos' (by omega), nI_le (b := 2) (by omega) (by omega)⟩]
  refine aw_if_ne (tgt := 12) hC dX12_upgrade_5 (by decide) (fun _ => ?_) (fun h1 => absurd h1 (by decide))
  show AW X 0 0 12 [some (.ref 44), some (.int (nI t)), none, none, none, none] [.ref 44] T I J R
  refine aw_aload_n hC dX12_upgrade_12 rfl ?_
  refine aw_getR hC dX12_upgrade_13 aF_X12_59 rfl (tg_44 hT) (pr_44_19 hR) ?_
  refine aw_iload_n hC dX12_upgrade_16 rfl ?_
  refine aw_iaload_k (j := t) hC dX12_upgrade_17 (tg_61 hT) (nI_clamp (by omega)) (vp_in_nI (by omega) (by decide)) ?_
  have hb2 := hu t (by omega)
  rw [hb2.1]
  refine aw_iconst (v := 2) hC dX12_upgrade_18 (by decide) ?_
  refine aw_icmp_eq (tgt := 29) hC dX12_upgrade_19 (by decide) (fun h3 => ?_) (fun h3 => ?_)
  · show AW X 0 0 29 [some (.ref 44), some (.int (nI t)), none, none, none, none] [.ref 44] T I J R
    have h3n : (iN I 61 t) = 2 := (nI_eq (a := (iN I 61 t)) (b := 2) (by omega) (by omega)).mp h3
    refine aw_iconst (v := 2) hC dX12_upgrade_29 (by decide) ?_
    refine aw_goto (tgt := 34) hC dX12_upgrade_30 (by decide) ?_
    refine aw_putI hC dX12_upgrade_34 aF_X12_166 rfl rfl (tg_44 hT) ?_
    refine aw_aload_n hC dX12_upgrade_37 rfl ?_
    refine aw_getI hC dX12_upgrade_38 aF_X12_166 rfl (tg_44 hT) ?_
    rw [a_u_self (f := I) (o := 44) (k := 61) (v := 2)]
    refine aw_if_le (tgt := 46) hC dX12_upgrade_41 (by decide) (fun h4 => absurd h4 (by decide)) (fun _ => ?_)
    show AW X 0 0 44 [some (.ref 44), some (.int (nI t)), none, none, none, none] [] T (a_u I 44 61 2) J R
    refine aw_iconst (v := 0) hC dX12_upgrade_44 (by decide) ?_
    exact aw_ireturn hC hq rfl dX12_upgrade_45 a_le a_le (aPure_e rfl rfl rfl rfl)
  · show AW X 0 0 22 [some (.ref 44), some (.int (nI t)), none, none, none, none] [.ref 44] T I J R
    have h3n : ¬ (iN I 61 t) = 2 := fun q9 => h3 ((nI_eq (a := (iN I 61 t)) (b := 2) (by omega) (by omega)).mpr q9)
    refine aw_aload_n hC dX12_upgrade_22 rfl ?_
    refine aw_getI hC dX12_upgrade_23 aF_X12_123 rfl (tg_44 hT) ?_
    refine aw_if_lt (tgt := 33) hC dX12_upgrade_26 (by decide) (fun h5 => ?_) (fun h5 => ?_)
    · show AW X 0 0 33 [some (.ref 44), some (.int (nI t)), none, none, none, none] [.ref 44] T I J R
      exfalso; first | (rcases hbad with q9 | q9; omega; exact q9 (by assumption)) | (rcases hbad with q9 | q9; omega; exact q9 (Int32.not_le.mp (by assumption)))
    · show AW X 0 0 29 [some (.ref 44), some (.int (nI t)), none, none, none, none] [.ref 44] T I J R
      refine aw_iconst (v := 2) hC dX12_upgrade_29 (by decide) ?_
      refine aw_goto (tgt := 34) hC dX12_upgrade_30 (by decide) ?_
      refine aw_putI hC dX12_upgrade_34 aF_X12_166 rfl rfl (tg_44 hT) ?_
      refine aw_aload_n hC dX12_upgrade_37 rfl ?_
      refine aw_getI hC dX12_upgrade_38 aF_X12_166 rfl (tg_44 hT) ?_
      rw [a_u_self (f := I) (o := 44) (k := 61) (v := 2)]
      refine aw_if_le (tgt := 46) hC dX12_upgrade_41 (by decide) (fun h6 => absurd h6 (by decide)) (fun _ => ?_)
      show AW X 0 0 44 [some (.ref 44), some (.int (nI t)), none, none, none, none] [] T (a_u I 44 61 2) J R
      refine aw_iconst (v := 0) hC dX12_upgrade_44 (by decide) ?_
      exact aw_ireturn hC hq rfl dX12_upgrade_45 a_le a_le (aPure_e rfl rfl rfl rfl)
theorem D_upgrade {T : List aT} {I : aI} {J : aJ} {R : aR} (hT : aPT T) (hR : aPR R) {m : aI} {c n g r p k : Nat} (hm : MI m c n g r p k) (hL : LEq m I) (hZ : Zr J) (t : Int32) {kq : Nat} {vq : Int32} {mq : aI} (hs : (fun k v m2 => (((0 ≤ t ∧ t ≤ 2) ∧ (iN m 61 t.toNatClampNeg < 2 ∧ m 44 45 < 0)) ∧ k = 0 ∧ v = nI (iN m 61 t.toNatClampNeg + 1) ∧ m2 = upB m t.toNatClampNeg g r) ∨ (((0 ≤ t ∧ t ≤ 2) ∧ ¬ (iN m 61 t.toNatClampNeg < 2 ∧ m 44 45 < 0)) ∧ k = 2 ∧ m2 = m) ∨ (¬ (0 ≤ t ∧ t ≤ 2) ∧ k = 1 ∧ m2 = m)) kq vq mq) : MX12_upgrade 0 0 [.ref 44, .int t] T I J R (DP kq vq mq T I J R) := by
  have hi := hm.cg hL
  by_cases hx : 0 ≤ t ∧ t ≤ 2
  · obtain ⟨t1, ht1, zz1⟩ := i_nat hx.1 (i_lt3 hx.2) (b := 3) rfl (by decide)
    subst zz1
    simp only [nI_clamp (show t1 < 2147483648 by omega)] at hs
    have e61 := hL.iNq (q := 61) (by decide)
    have e45 := hL.f (q := 45) (by decide)
    have hb61 := hm.2.1.1.1.2.2.2.2.1 t1 ht1
    rcases hs with ⟨hc, hk, hv, hm2⟩ | ⟨hc, hk, hm2⟩ | ⟨hc, hk, hm2⟩
    · have hsrc : ∀ j, j < 12 → 10 ≤ I 65 j → vp_in ((I 65 j - 10) / 3) 4 := fun j hj h10 => by
        rcases hi.2.1.1.1.2.2.1 j hj with q | q
        · rw [q] at h10; exact absurd h10 (by decide)
        · have z10 : 10 ≤ iN I 65 j := by
            apply Classical.byContradiction
            intro w
            rw [q.1] at h10
            exact absurd ((nI_ltI (a := iN I 65 j) (b := 10) (by omega) (by omega)).mpr (by omega)) (Int32.not_lt.mpr h10)
          rw [q.1, so_g _ q.2.1 z10]
          have := q.2.2 z10
          exact vp_in_nI (by omega) (by decide)
      have q := m_X12_upgradeT (I := I) (J := J) hT hR hi.2.1.1.1.2.1 hi.2.1.1.1.1 hi.2.2.2.2.2.1 hi.2.2.2.2.2.2 hi.2.1.1.1.2.2.2.1 hi.2.1.1.1.2.2.2.2.1 hi.2.1.1.2.2.1.2.2.2 hsrc (t := t1) ht1 (by rw [e61]; exact hc.2.1) (by rw [e45]; exact hc.2.2)
      rw [e61, hL.r (q := 58) (by decide), hL.f (q := 35) (by decide)] at q
      subst hk
      rw [hm2]
      have r62 := hL.r (q := 62) (by decide)
      have r65 := hL.r (q := 65) (by decide)
      have eT : ∀ j, tr9 m t1 j = tr9 I t1 j := fun j => by
        show sTurn m (nI t1) (m 65 j) = sTurn I (nI t1) (I 65 j)
        rw [r65]; exact sTurn_cg r62.symm _ _
      have e1 : ∀ j, S65 m t1 g j = S65 I t1 g j := fun j => by
        show (if j < 3 * g then upS m t1 j else m 65 j) = (if j < 3 * g then upS I t1 j else I 65 j)
        have eu : upS m t1 j = upS I t1 j := by
          show (if m 62 (j / 3) = nI t1 then (if j % 3 = 0 then tr9 m t1 (j + 1) else if j % 3 = 1 then tr9 m t1 (j - 1) else tr9 m t1 j) else tr9 m t1 j) = (if I 62 (j / 3) = nI t1 then (if j % 3 = 0 then tr9 I t1 (j + 1) else if j % 3 = 1 then tr9 I t1 (j - 1) else tr9 I t1 j) else tr9 I t1 j)
          rw [eT, eT, eT, r62]
        rw [eu, r65]
      have eV : ∀ z, 45 ≤ z ∧ z ≤ 82 → ∀ j, SV m z t1 g j = SV I z t1 g j := fun z hz j => by
        show (if j < 48 * g ∧ m 62 (j / 48) = nI t1 then chgA (m z) j else m z j) = (if j < 48 * g ∧ I 62 (j / 48) = nI t1 then chgA (I z) j else I z j)
        rw [r62, hL.r hz]
      have eA : ∀ j, SA m t1 g j = SA I t1 g j := fun j => by
        show (if j < 16 * g ∧ m 62 (j / 16) = nI t1 then adT (m 72 j) else m 72 j) = (if j < 16 * g ∧ I 62 (j / 16) = nI t1 then adT (I 72 j) else I 72 j)
        rw [r62, hL.r (q := 72) (by decide)]
      have eR : ∀ j, SR m t1 r j = SR I t1 r j := fun j => by
        show (if j < 3 * r ∧ m 66 (j / 3) = nI t1 then chgA (m 67) j else m 67 j) = (if j < 3 * r ∧ I 66 (j / 3) = nI t1 then chgA (I 67) j else I 67 j)
        rw [hL.r (q := 66) (by decide), hL.r (q := 67) (by decide)]
      exact AMet.mono q (DP.i (by (repeat (first | rw [a_u_self] | rw [a_u_row (by decide)] | rw [a_ur_ne (by decide)] | rw [a_u_ne (fun z => absurd z.2 (by decide))])) <;> rfl) (fun _ => hv.symm) (by unfold upB upH; exact (((((((((hL.s61.u rfl).u rfl).u rfl).u rfl).ur e1 (by decide)).ur (eV 70 (by decide)) (by decide)).ur (eV 73 (by decide)) (by decide)).ur eA (by decide)).ur eR (by decide))) (fun q hq => by repeat (first | rw [a_u_row (by omega)] | rw [a_ur_ne (by omega)])) hZ)
    · have q := m_X12_upgradeF2 (I := I) (J := J) hT hR (t := t1) ht1 hi.2.1.1.1.2.2.2.2.1 (by
        rw [e61, e45]
        by_cases z : iN m 61 t1 = 2
        · exact Or.inl z
        · exact Or.inr (fun w => hc.2 ⟨by have := hb61.2; omega, w⟩))
      subst hm2
      exact AMet.mono q (DP.f (j := 2) hk (by decide) hL hZ)
    · exact absurd hx hc
  · rcases hs with ⟨hc, hk, _⟩ | ⟨hc, hk, hm2⟩ | ⟨hc, hk, hm2⟩
    · exact absurd hc.1 hx
    · exact absurd hc.1 hx
    · have q := m_X12_upgradeF1 (I := I) (J := J) hT hR t hx
      subst hm2
      exact AMet.mono q (DP.f (j := 1) hk (by decide) hL hZ)
/-! READING -/
abbrev REq (A B : aI) : Prop := ∀ q, 58 ≤ q → q ≤ 74 → B q = A q
theorem REq.u {A B : aI} {q k : Nat} {v w : Int32} (h : REq A B) (e : v = w) : REq (a_u A q k v) (a_u B q k w) := by
  subst e
  intro z h1 h2
  funext j
  unfold a_u
  rw [h z h1 h2]
theorem cFr_cr {A B : aI} {mj : aJ} {g : Nat} (hg : g ≤ 4) (hso : SO3 A) (h : REq A B) (h57 : B 44 57 = A 44 57) : ∀ k, k ≤ 16 * g → ∀ x, x < k → cFr B mj k x = cFr A mj k x
  | 0, _ => fun x hx => absurd hx (by omega)
  | k + 1, hk => fun x hx => by
    have ih := cFr_cr (mj := mj) hg hso h h57 k (by omega)
    show (if x = k then sCmp (a_ur B 91 (cFr B mj k)) mj k else cFr B mj k x) = (if x = k then sCmp (a_ur A 91 (cFr A mj k)) mj k else cFr A mj k x)
    by_cases zc : x = k
    · rw [if_pos zc, if_pos zc]
      exact sCmp_cr (SO3_cg (a_ur_ne (by decide)) hso) (by omega) (by rw [a_ur_ne (by decide), a_ur_ne (by decide)]; exact h57) rfl (fun o u v => by rw [a_ur_ne (by omega), a_ur_ne (by omega)]; exact h o u (by omega)) (fun y hy => by rw [a_ur_self, a_ur_self]; exact ih y (by omega))
    · rw [if_neg zc, if_neg zc]; exact ih x (by omega)
theorem gvV_cr {A B : aI} {mj : aJ} {c : Int32} {g x a : Nat} (hg : g ≤ 4) (hso : SO3 A) (h : REq A B) (hx : x < 16 * g) (ha : a < 3) : gvV B c mj g x a = gvV A c mj g x a := by
  have h2 : REq (a_u A 44 57 c) (a_u B 44 57 c) := h.u rfl
  have hso2 : SO3 (a_u A 44 57 c) := SO3_cg (a_u_row (by decide)) hso
  have e := cFr_cr (mj := mj) hg hso2 h2 (by rw [a_u_self, a_u_self]) (16 * g) (Nat.le_refl _)
  unfold gvV
  exact sGives_cg (SO3_cg (a_ur_ne (by decide)) hso2) (by omega) ha (by rw [a_ur_ne (by decide), a_ur_ne (by decide), a_u_self, a_u_self]) rfl (by rw [a_ur_ne (by decide), a_ur_ne (by decide)]; exact h2 58 (by decide) (by decide)) (by rw [a_ur_ne (by decide), a_ur_ne (by decide)]; exact h2 61 (by decide) (by decide)) (by rw [a_ur_ne (by decide), a_ur_ne (by decide)]; exact h2 62 (by decide) (by decide)) (by rw [a_ur_ne (by decide), a_ur_ne (by decide)]; exact h2 65 (by decide) (by decide)) (by rw [a_ur_ne (by decide), a_ur_ne (by decide)]; exact h2 69 (by decide) (by decide)) (by rw [a_ur_ne (by decide), a_ur_ne (by decide)]; exact h2 70 (by decide) (by decide)) (fun y hy => by rw [a_ur_self, a_ur_self]; exact e y (by omega))
theorem rdD_cr {A B : aI} {v : Int32} {x k : Nat} (h : REq A B) : REq (rdD A v x k) (rdD B v x k) := by
  have iN_ : ∀ q, 58 ≤ q → q ≤ 74 → iN B q = iN A q := fun q u w => by unfold iN; rw [h q u w]
  have gK : sKept B x = sKept A x := by simp only [sKept]; rw [h 64 (by decide) (by decide), iN_ 63 (by decide) (by decide)]
  unfold rdD
  rw [h 60 (by decide) (by decide), iN_ 62 (by decide) (by decide), gK]
  by_cases z1 : A 60 (iN A 62 (x / 16)) = 0
  · rw [if_pos z1, if_pos z1]; exact h
  · rw [if_neg z1, if_neg z1]
    by_cases z2 : 0 ≤ v ∧ sKept A x = true
    · rw [if_pos z2, if_pos z2]; exact (h.u (by rw [h 72 (by decide) (by decide)])).u rfl
    · rw [if_neg z2, if_neg z2]; exact (h.u (by rw [h 72 (by decide) (by decide)])).u (by rw [h 73 (by decide) (by decide)])
theorem rdK_cr {A B : aI} {c : Int32} {mj : aJ} {g x k : Nat} (hg : g ≤ 4) (hso : SO3 A) (h : REq A B) (hx : x < 16 * g) (hk : k < 3) : REq (rdK A c mj g x k) (rdK B c mj g x k) := by
  have iN_ : ∀ q, 58 ≤ q → q ≤ 74 → iN B q = iN A q := fun q u w => by unfold iN; rw [h q u w]
  have h2 : REq (a_u A 70 (3 * x + k) (A 67 (3 * (iN A 69 x - 1) + k))) (a_u B 70 (3 * x + k) (B 67 (3 * (iN B 69 x - 1) + k))) := h.u (by rw [h 67 (by decide) (by decide), iN_ 69 (by decide) (by decide)])
  unfold rdK
  rw [gvV_cr hg (SO3_cg (a_u_row (by decide)) hso) h2 hx hk]
  exact rdD_cr h2
theorem rdA_cr {A B : aI} {c : Int32} {mj : aJ} {g x : Nat} (hg : g ≤ 4) (hso : SO3 A) (h : REq A B) (hx : x < 16 * g) : ∀ k, k ≤ 3 → REq (rdA A c mj g x k).1 (rdA B c mj g x k).1 ∧ (rdA B c mj g x k).2 = (rdA A c mj g x k).2
  | 0, _ => ⟨h, rfl⟩
  | k + 1, hk => by
    have ih := rdA_cr (c := c) (mj := mj) hg hso h hx k (by omega)
    have hi := ih.1
    have iN_ : ∀ q, 58 ≤ q → q ≤ 74 → iN (rdA B c mj g x k).1 q = iN (rdA A c mj g x k).1 q := fun q u w => by unfold iN; rw [hi q u w]
    have ec : rdC (rdA B c mj g x k).1 x k ↔ rdC (rdA A c mj g x k).1 x k := by
      unfold rdC
      rw [hi 58 (by decide) (by decide), hi 67 (by decide) (by decide), hi 70 (by decide) (by decide), iN_ 62 (by decide) (by decide), iN_ 69 (by decide) (by decide)]
    simp only [rdA]
    by_cases z : rdC (rdA A c mj g x k).1 x k
    · rw [if_pos z, if_pos (ec.mpr z)]
      exact ⟨rdK_cr hg (SO3_cg (rdA_fr (by decide) k) hso) hi hx (by omega), by rw [ih.2]⟩
    · rw [if_neg z, if_neg (fun w => z (ec.mp w))]; exact ih
theorem rdX_cr {A B : aI} {c : Int32} {mj : aJ} {g x : Nat} (hg : g ≤ 4) (hso : SO3 A) (h : REq A B) (hx : x < 16 * g) : REq (rdX A c mj g x).1 (rdX B c mj g x).1 ∧ (rdX B c mj g x).2 = (rdX A c mj g x).2 := by
  have q := rdA_cr (c := c) (mj := mj) hg hso h hx 3 (Nat.le_refl _)
  have e69 : iN B 69 x = iN A 69 x := by unfold iN; rw [h 69 (by decide) (by decide)]
  unfold rdX
  rw [e69, h 68 (by decide) (by decide), q.2]
  by_cases z : 0 < iN A 69 x
  · rw [if_pos z, if_pos z]
    by_cases z2 : A 68 (iN A 69 x - 1) ≠ 0
    · rw [if_pos z2, if_pos z2]; exact ⟨h.u rfl, rfl⟩
    · rw [if_neg z2, if_neg z2]; exact ⟨q.1, rfl⟩
  · rw [if_neg z, if_neg z]; exact ⟨h, rfl⟩
theorem rdN_cr {A B : aI} {c : Int32} {mj : aJ} {g : Nat} (hg : g ≤ 4) (hso : SO3 A) (h : REq A B) : ∀ k, k ≤ 16 * g → REq (rdN A c mj g k).1 (rdN B c mj g k).1 ∧ (rdN B c mj g k).2 = (rdN A c mj g k).2
  | 0, _ => ⟨h, rfl⟩
  | k + 1, hk => by
    have ih := rdN_cr (c := c) (mj := mj) hg hso h k (by omega)
    have q := rdX_cr (c := c) (mj := mj) (x := k) hg (SO3_cg (rdN_fr (by decide) k) hso) ih.1 (by omega)
    refine ⟨q.1, ?_⟩
    show ((rdN B c mj g k).2.1 + (rdX (rdN B c mj g k).1 c mj g k).2.1, (rdN B c mj g k).2.2 + (rdX (rdN B c mj g k).1 c mj g k).2.2) = _
    rw [ih.2, q.2]; rfl
theorem D_read {T : List aT} {I : aI} {J : aJ} {R : aR} (hT : aPT T) (hR : aPR R) {m : aI} {c n g r p k : Nat} (hm : MI m c n g r p k) (hL : LEq m I) (hZ : Zr J)  {kq : Nat} {vq : Int32} {mq : aI} (hs : (fun k v m2 => (m 44 45 < 0 ∧ k = 0 ∧ ∃ m0 M P S, StEq m m0 ∧ SolR m0 M n P S ∧ v = nI (100 * (rdN m (M 44 57) (fun _ => S) g (16 * g)).2.1 + (rdN m (M 44 57) (fun _ => S) g (16 * g)).2.2) ∧ m2 = rdS m (M 44 57) (fun _ => S) g) ∨ (¬ m 44 45 < 0 ∧ k = 1 ∧ m2 = m)) kq vq mq) : MX12_read 0 0 [.ref 44] T I J R (DP kq vq mq T I J R) := by
  have hi := hm.cg hL
  have hg4 := hm.2.1.1.1.1
  rcases hs with ⟨hun, hk, m0, M, P, S, h0, hso, hv, hm2⟩ | ⟨hun, hk, hm2⟩
  · have hE : NR I 69 64 61 := fun y hy => by
      by_cases z : I 69 y = 0
      · unfold iN; rw [z]; exact ⟨by decide, by decide⟩
      · obtain ⟨r1, w1, w2, w3, _⟩ := hi.2.1.1.2.2.1.re hy z
        rw [w2]; exact ⟨w1, by omega⟩
    have hsol : SolD I n (M 44 57) (fun _ => S) := fun I0 I1 J0 J1 hst hsp => by
      obtain ⟨K9, P9, S9, e9, h9⟩ := hsp
      have q := SolR_uniq (h0.sw hm.1.1) (StEq.trans (StEq.sym h0) (StEq.trans hL.steq hst)) hso h9
      exact ⟨q.2.2.2, by rw [e9, a_ur_self]; exact q.2.2.1⟩
    have hrq : REq m (a_u I 44 61 0) := fun q u v => by rw [a_u_row (by omega)]; exact hL.r (by omega)
    have w := rdN_cr (c := M 44 57) (mj := fun _ => S) hg4 hm.2.1.1.1.so hrq (16 * g) (Nat.le_refl _)
    subst hk
    rw [hm2]
    refine AMet.mono (m_X12_readT2 (I := I) (J := J) hT hR hi.1.1 hZ hi.2.1.1.1 hE (by rw [hL.f (q := 45) (by decide)]; exact hun) (M 44 57) (fun _ => S) hsol) (fun o T2 I3 J3 R2 hp hQ => ?_)
    obtain ⟨b9, e1, e2, e3, eb, hbf, hzf⟩ := hQ
    have r44 : ∀ j, j ≠ 53 ∧ j ≠ 57 ∧ j ≠ 59 → j ≠ 35 → I3 44 j = a_u I 44 61 0 44 j := fun j hj z => by rw [hbf.2 j hj, rdS_4 z]
    rw [e1, e2, e3, eb]
    refine ⟨rfl, rfl, ⟨_, rfl, fun _ => by rw [hv, w.2]⟩, by rw [r44 61 (by decide) (by decide), a_u_self]; rfl, ⟨fun q u v => ?_, fun j z1 z2 z3 z4 => ?_⟩, fun q hq => ?_, hzf.2, hzf.1⟩
    · by_cases z44 : q = 44
      · omega
      · rw [hbf.1 q (by omega), rdS_o z44, rdS_o z44]
        by_cases z58 : 58 ≤ q ∧ q ≤ 74
        · exact w.1 q z58.1 z58.2
        · rw [rdN_fr (by omega), rdN_fr (by omega), a_u_row z44]; exact hL.r ⟨u, v⟩
    · by_cases z35 : j = 35
      · subst z35
        rw [hbf.2 35 (by decide), rdS_35, rdS_35, w.2, a_u_ne (fun z => absurd z.2 (by decide)), hL.f (q := 35) (by decide)]
      · rw [r44 j ⟨z1, z2, z3⟩ z35, rdS_4 z35, a_u_ne (fun z => z4 z.2)]; exact hL.f ⟨z1, z2, z3, z4⟩
    · rw [hbf.1 q (by omega), rdS_o (by omega), rdN_fr (by omega), a_u_row (by omega)]
  · have q := m_X12_readF (I := I) (J := J) hT hR (by rw [hL.f (q := 45) (by decide)]; exact Int32.not_lt.mp hun)
    subst hm2
    exact AMet.mono q (DP.f (j := 1) hk (by decide) hL hZ)
