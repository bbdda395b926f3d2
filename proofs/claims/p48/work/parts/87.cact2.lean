set_option maxRecDepth 100000 in
theorem m_X0_act1 {T : List aT} {I : aI} {J : aJ} {R : aR} (hT : aPT T) (hR : aPR R) {m : aI} {g r : Nat} {gq eq : Nat → Nat} (hC9 : CEst T I R m g gq eq r) (hinv : InvR m g) {x : Nat} (hx : x < 16 * g) {mj : aJ} {hw : Nat} (hhw : hw < 3) (hGv : ∀ a, a < 3 → I 34 (3 * x + a) = sGives m mj x a) (h40 : ∀ y, y < 64 → I 40 y = m 82 y - 1) (hr59 : r < 60) (hmd : m 74 x = nI (iN m 74 x)) (hmd9 : iN m 74 x < 300) (h82 : m 82 x = 0) : MX0_act 3 11 [.ref 38, .int 1, .int (nI x), .int (nI hw)] T I J R (aRelT (fun v T2 I2 J2 R2 => v = none ∧ J2 = J ∧ AcP T I R (mkS m mj x r (!decide (hw = 2)) (decide (hw = 1))) g gq (r + 1) T2 I2 R2)) := by
  refine a_met (by decide +kernel) a_le (fun X hC hq => ?_)
  show AW X 0 0 0 [some (.ref 38), some (.int 1), some (.int (nI x)), some (.int (nI hw))] [] T I J R
  have hg4 := hinv.1.g4
  have hx6 : x < 64 := by omega
  have hG := hC9.gn
  have hg := hinv.1
  have hY := hC9.ty
  have hE := hC9.en
  have hRs := hC9.rs
  have hi := hinv.2.1
  refine aw_ok (fun hz => ?_)
  refine aw_iload_n hC dX0_act_0 rfl ?_
  refine aw_iconst (v := 1) hC dX0_act_1 (by decide) ?_
  refine aw_icmp_ne (tgt := 11) hC dX0_act_2 (by decide) (fun h1 => absurd h1 (by decide)) (fun _ => ?_)
  show AW X 0 0 5 [some (.ref 38), some (.int 1), some (.int (nI x)), some (.int (nI hw))] [] T I J R
  refine aw_aload_n hC dX0_act_5 rfl ?_
  refine aw_iload_n hC dX0_act_6 rfl ?_
  refine aw_iload_n hC dX0_act_7 rfl ?_
  refine kX0_86 hC rfl (m_X0_makeResource (I := I) hT hR hG hg hY hE (x := x) (by omega) (mj := mj) hRs hr59 (md := iN m 74 x) ((hC9.md (by omega)).trans hmd) hmd9 rfl hhw hGv (by rw [h40 x (by omega), h82]; rfl)) dX0_act_8 (tg_38 hT) rfl a_le a_le a_le a_le a_le rfl aRelT_x (aRelT_k (fun v9 T9 I9 J9 R9 hp9 hQ => ?_))
  obtain ⟨ev9, hT9, hI9, hJ9, hRe9, hR9⟩ := hQ
  rw [ev9, hJ9]
  show AW X (0 + 3) (0 + 11) 11 [some (.ref 38), some (.int 1), some (.int (nI x)), some (.int (nI hw))] [] T9 I9 J R9
  refine aw_iload_n hC dX0_act_11 rfl ?_
  refine aw_iconst (v := 2) hC dX0_act_12 (by decide) ?_
  refine aw_icmp_ne (tgt := 22) hC dX0_act_13 (by decide) (fun _ => ?_) (fun h2 => absurd h2 (by decide))
  show AW X (0 + 3) (0 + 11) 22 [some (.ref 38), some (.int 1), some (.int (nI x)), some (.int (nI hw))] [] T9 I9 J R9
  refine aw_iload_n hC dX0_act_22 rfl ?_
  refine aw_iconst (v := 3) hC dX0_act_23 (by decide) ?_
  refine aw_icmp_ne (tgt := 33) hC dX0_act_24 (by decide) (fun _ => ?_) (fun h3 => absurd h3 (by decide))
  show AW X (0 + 3) (0 + 11) 33 [some (.ref 38), some (.int 1), some (.int (nI x)), some (.int (nI hw))] [] T9 I9 J R9
  refine aw_iload_n hC dX0_act_33 rfl ?_
  refine aw_iconst (v := 4) hC dX0_act_34 (by decide) ?_
  refine aw_icmp_ne (tgt := 63) hC dX0_act_35 (by decide) (fun _ => ?_) (fun h4 => absurd h4 (by decide))
  show AW X (0 + 3) (0 + 11) 63 [some (.ref 38), some (.int 1), some (.int (nI x)), some (.int (nI hw))] [] T9 I9 J R9
  exact aw_return hC hq rfl dX0_act_63 a_le a_le ⟨_, rfl, rfl, rfl, CEst.mk hC9 hT hx6 hr59 hmd rfl (fun o ho => (hz o ho).1) hT9 rfl hI9 hRe9 hR9 h40⟩
set_option maxRecDepth 100000 in
theorem m_X0_act2 {T : List aT} {I : aI} {J : aJ} {R : aR} (hT : aPT T) (hR : aPR R) {m : aI} {g r : Nat} {gq eq : Nat → Nat} (hC9 : CEst T I R m g gq eq r) (hinv : InvR m g) {x : Nat} (hx : x < 16 * g) {mj : aJ} {hw : Nat} (hhw : hw < 3) (hGv : ∀ a, a < 3 → I 34 (3 * x + a) = sGives m mj x a) (h40 : ∀ y, y < 64 → I 40 y = m 82 y - 1) {r1 : Nat} (he : m 69 x = nI (r1 + 1)) (hr60 : r1 < 60) (hr1 : r1 < r) : MX0_act 3 11 [.ref 38, .int 2, .int (nI x), .int (nI hw)] T I J R (aRelT (fun v T2 I2 J2 R2 => v = none ∧ J2 = J ∧ AcP T I R (chS m mj x (iN m 69 x - 1) (!decide (hw = 2)) 3) g gq (r) T2 I2 R2)) := by
  refine a_met (by decide +kernel) a_le (fun X hC hq => ?_)
  show AW X 0 0 0 [some (.ref 38), some (.int 2), some (.int (nI x)), some (.int (nI hw))] [] T I J R
  have hg4 := hinv.1.g4
  have hx6 : x < 64 := by omega
  have hG := hC9.gn
  have hg := hinv.1
  have hY := hC9.ty
  have hE := hC9.en
  have hRs := hC9.rs
  have hi := hinv.2.1
  refine aw_ok (fun hz => ?_)
  have h69 : m 69 x ≠ 0 := by rw [he]; exact fun q => absurd ((nI_eq (a := r1 + 1) (b := 0) (by omega) (by omega)).mp q) (by omega)
  have e69 : iN m 69 x - 1 = r1 := by unfold iN; rw [he, nI_clamp (by omega)]; rfl
  refine aw_iload_n hC dX0_act_0 rfl ?_
  refine aw_iconst (v := 1) hC dX0_act_1 (by decide) ?_
  refine aw_icmp_ne (tgt := 11) hC dX0_act_2 (by decide) (fun _ => ?_) (fun h1 => absurd h1 (by decide))
  show AW X 0 0 11 [some (.ref 38), some (.int 2), some (.int (nI x)), some (.int (nI hw))] [] T I J R
  refine aw_iload_n hC dX0_act_11 rfl ?_
  refine aw_iconst (v := 2) hC dX0_act_12 (by decide) ?_
  refine aw_icmp_ne (tgt := 22) hC dX0_act_13 (by decide) (fun h2 => absurd h2 (by decide)) (fun _ => ?_)
  show AW X 0 0 16 [some (.ref 38), some (.int 2), some (.int (nI x)), some (.int (nI hw))] [] T I J R
  refine aw_aload_n hC dX0_act_16 rfl ?_
  refine aw_iload_n hC dX0_act_17 rfl ?_
  refine aw_iload_n hC dX0_act_18 rfl ?_
  refine kX0_90 hC rfl (m_X0_writeDifferences (I := I) hT hR hG hg hY hE (x := x) (by omega) (mj := mj) hi hRs he hr60 hhw hGv) dX0_act_19 (tg_38 hT) rfl a_le a_le a_le a_le a_le rfl aRelV_x (aRelV_k (fun v9 I9 J9 hQ => ?_))
  obtain ⟨ev9, hJ9, hW9⟩ := hQ
  rw [ev9, hJ9]
  show AW X 0 0 22 [some (.ref 38), some (.int 2), some (.int (nI x)), some (.int (nI hw))] [] T I9 J R
  refine aw_iload_n hC dX0_act_22 rfl ?_
  refine aw_iconst (v := 3) hC dX0_act_23 (by decide) ?_
  refine aw_icmp_ne (tgt := 33) hC dX0_act_24 (by decide) (fun _ => ?_) (fun h3 => absurd h3 (by decide))
  show AW X 0 0 33 [some (.ref 38), some (.int 2), some (.int (nI x)), some (.int (nI hw))] [] T I9 J R
  refine aw_iload_n hC dX0_act_33 rfl ?_
  refine aw_iconst (v := 4) hC dX0_act_34 (by decide) ?_
  refine aw_icmp_ne (tgt := 63) hC dX0_act_35 (by decide) (fun _ => ?_) (fun h4 => absurd h4 (by decide))
  show AW X 0 0 63 [some (.ref 38), some (.int 2), some (.int (nI x)), some (.int (nI hw))] [] T I9 J R
  exact aw_return hC hq rfl dX0_act_63 a_le a_le ⟨_, rfl, rfl, rfl, ⟨eq, by rw [e69]; exact hC9.wd hT hx6 h69 hW9⟩, fun o a b c => funext fun p => hW9.1 o p (fun z => c (by omega)) (fun z => b (by rw [z]; exact (hE.eno hx6 h69).2.1)) (fun z => b (by rw [z.1]; exact (hE.eno hx6 h69).1)), fun _ _ _ _ => rfl, hR, fun y hy => by have h95 := hE.ge hT hx6 h69; rw [hW9.1 40 y (by decide) (by omega) (by omega), chS_o (by decide) (by decide) (by decide)]; exact h40 y hy⟩
set_option maxRecDepth 100000 in
theorem m_X0_act3 {T : List aT} {I : aI} {J : aJ} {R : aR} (hT : aPT T) (hR : aPR R) {m : aI} {g r : Nat} {gq eq : Nat → Nat} (hC9 : CEst T I R m g gq eq r) (hinv : InvR m g) {x : Nat} (hx : x < 16 * g) {mj : aJ} {hw : Nat} (hhw : hw < 3) (hGv : ∀ a, a < 3 → I 34 (3 * x + a) = sGives m mj x a) (h40 : ∀ y, y < 64 → I 40 y = m 82 y - 1) {r1 : Nat} (he : m 69 x = nI (r1 + 1)) (hr60 : r1 < 60) (hr1 : r1 < r) : MX0_act 3 11 [.ref 38, .int 3, .int (nI x), .int (nI hw)] T I J R (aRelT (fun v T2 I2 J2 R2 => v = none ∧ J2 = J ∧ AcP T I R (a_u (a_u m 68 (iN m 69 x - 1) 1) 69 x (if hw = 2 then m 69 x else 0)) g gq (r) T2 I2 R2)) := by
  refine a_met (by decide +kernel) a_le (fun X hC hq => ?_)
  show AW X 0 0 0 [some (.ref 38), some (.int 3), some (.int (nI x)), some (.int (nI hw))] [] T I J R
  have hg4 := hinv.1.g4
  have hx6 : x < 64 := by omega
  have hG := hC9.gn
  have hg := hinv.1
  have hY := hC9.ty
  have hE := hC9.en
  have hRs := hC9.rs
  have hi := hinv.2.1
  refine aw_ok (fun hz => ?_)
  have h69 : m 69 x ≠ 0 := by rw [he]; exact fun q => absurd ((nI_eq (a := r1 + 1) (b := 0) (by omega) (by omega)).mp q) (by omega)
  have e69 : iN m 69 x - 1 = r1 := by unfold iN; rw [he, nI_clamp (by omega)]; rfl
  refine aw_iload_n hC dX0_act_0 rfl ?_
  refine aw_iconst (v := 1) hC dX0_act_1 (by decide) ?_
  refine aw_icmp_ne (tgt := 11) hC dX0_act_2 (by decide) (fun _ => ?_) (fun h1 => absurd h1 (by decide))
  show AW X 0 0 11 [some (.ref 38), some (.int 3), some (.int (nI x)), some (.int (nI hw))] [] T I J R
  refine aw_iload_n hC dX0_act_11 rfl ?_
  refine aw_iconst (v := 2) hC dX0_act_12 (by decide) ?_
  refine aw_icmp_ne (tgt := 22) hC dX0_act_13 (by decide) (fun _ => ?_) (fun h2 => absurd h2 (by decide))
  show AW X 0 0 22 [some (.ref 38), some (.int 3), some (.int (nI x)), some (.int (nI hw))] [] T I J R
  refine aw_iload_n hC dX0_act_22 rfl ?_
  refine aw_iconst (v := 3) hC dX0_act_23 (by decide) ?_
  refine aw_icmp_ne (tgt := 33) hC dX0_act_24 (by decide) (fun h3 => absurd h3 (by decide)) (fun _ => ?_)
  show AW X 0 0 27 [some (.ref 38), some (.int 3), some (.int (nI x)), some (.int (nI hw))] [] T I J R
  refine aw_aload_n hC dX0_act_27 rfl ?_
  refine aw_iload_n hC dX0_act_28 rfl ?_
  refine aw_iload_n hC dX0_act_29 rfl ?_
  refine kX0_93 hC rfl (m_X0_endResource (I := I) hT hR hE (x := x) (r := r1) (hw := hw) (by omega) he hr60 hhw) dX0_act_30 (tg_38 hT) rfl a_le a_le a_le a_le a_le rfl aPure_x (aPure_k ?_)
  have hR9 : aPR (if hw = 2 then R else a_u R 25 x none) := by split; (exact hR); (exact hR.put (fun q9 h9 e9 => by have := a_refs_no25 q9 h9; omega))
  show AW X 0 0 33 [some (.ref 38), some (.int 3), some (.int (nI x)), some (.int (nI hw))] [] T (a_u I 24 r1 1) J (if hw = 2 then R else a_u R 25 x none)
  refine aw_iload_n hC dX0_act_33 rfl ?_
  refine aw_iconst (v := 4) hC dX0_act_34 (by decide) ?_
  refine aw_icmp_ne (tgt := 63) hC dX0_act_35 (by decide) (fun _ => ?_) (fun h4 => absurd h4 (by decide))
  show AW X 0 0 63 [some (.ref 38), some (.int 3), some (.int (nI x)), some (.int (nI hw))] [] T (a_u I 24 r1 1) J (if hw = 2 then R else a_u R 25 x none)
  exact aw_return hC hq rfl dX0_act_63 a_le a_le ⟨_, rfl, rfl, rfl, ⟨eq, by rw [e69]; by_cases c : hw = 2; (rw [if_pos c, if_pos c, show a_u (a_u m 68 r1 1) 69 x (m 69 x) = a_u m 68 r1 1 from a_u_same (by rw [a_u_row (by decide)])]; exact hC9.gone hT hr1); (rw [if_neg c, if_neg c]; exact (hC9.gone hT hr1).drop hT)⟩, fun o a b c => a_u_row (fun z => c (by omega)), fun o a b c => by split; (rfl); (exact a_u_row c), hR9, fun y hy => by rw [a_u_row (by decide), a_u_row (by decide), a_u_row (by decide)]; exact h40 y hy⟩
theorem nI_ne1b {m : Nat} (h : m < 1000) : ¬ nI m = -1 := fun q => by
  have h1 := congrArg Int32.toInt q
  rw [i_nl m (by omega)] at h1
  have h2 : (-1 : Int32).toInt = -1 := by decide
  omega
set_option maxRecDepth 100000 in
theorem m_X0_act4 {T : List aT} {I : aI} {J : aJ} {R : aR} (hT : aPT T) (hR : aPR R) {m : aI} {g r : Nat} {gq eq : Nat → Nat} (hC9 : CEst T I R m g gq eq r) (hinv : InvR m g) {x : Nat} (hx : x < 16 * g) {mj : aJ} {hw : Nat} (hhw : hw < 3) (hGv : ∀ a, a < 3 → I 34 (3 * x + a) = sGives m mj x a) (h40 : ∀ y, y < 64 → I 40 y = m 82 y - 1) {r1 : Nat} (he : m 82 x = nI r1) (hr1 : r1 ≤ r) : MX0_act 3 11 [.ref 38, .int 4, .int (nI x), .int (nI hw)] T I J R (aRelT (fun v T2 I2 J2 R2 => v = none ∧ J2 = J ∧ AcP T I R (if 0 < iN m 82 x then a_u m 68 (iN m 82 x - 1) 1 else m) g gq (r) T2 I2 R2)) := by
  refine a_met (by decide +kernel) a_le (fun X hC hq => ?_)
  show AW X 0 0 0 [some (.ref 38), some (.int 4), some (.int (nI x)), some (.int (nI hw))] [] T I J R
  have hg4 := hinv.1.g4
  have hx6 : x < 64 := by omega
  have hG := hC9.gn
  have hg := hinv.1
  have hY := hC9.ty
  have hE := hC9.en
  have hRs := hC9.rs
  have hi := hinv.2.1
  refine aw_ok (fun hz => ?_)
  have hr60 := hRs.r60
  have e82i : iN m 82 x = r1 := by unfold iN; rw [he]; exact nI_clamp (by omega)
  refine aw_iload_n hC dX0_act_0 rfl ?_
  refine aw_iconst (v := 1) hC dX0_act_1 (by decide) ?_
  refine aw_icmp_ne (tgt := 11) hC dX0_act_2 (by decide) (fun _ => ?_) (fun h1 => absurd h1 (by decide))
  show AW X 0 0 11 [some (.ref 38), some (.int 4), some (.int (nI x)), some (.int (nI hw))] [] T I J R
  refine aw_iload_n hC dX0_act_11 rfl ?_
  refine aw_iconst (v := 2) hC dX0_act_12 (by decide) ?_
  refine aw_icmp_ne (tgt := 22) hC dX0_act_13 (by decide) (fun _ => ?_) (fun h2 => absurd h2 (by decide))
  show AW X 0 0 22 [some (.ref 38), some (.int 4), some (.int (nI x)), some (.int (nI hw))] [] T I J R
  refine aw_iload_n hC dX0_act_22 rfl ?_
  refine aw_iconst (v := 3) hC dX0_act_23 (by decide) ?_
  refine aw_icmp_ne (tgt := 33) hC dX0_act_24 (by decide) (fun _ => ?_) (fun h3 => absurd h3 (by decide))
  show AW X 0 0 33 [some (.ref 38), some (.int 4), some (.int (nI x)), some (.int (nI hw))] [] T I J R
  refine aw_iload_n hC dX0_act_33 rfl ?_
  refine aw_iconst (v := 4) hC dX0_act_34 (by decide) ?_
  refine aw_icmp_ne (tgt := 63) hC dX0_act_35 (by decide) (fun h4 => absurd h4 (by decide)) (fun _ => ?_)
  show AW X 0 0 38 [some (.ref 38), some (.int 4), some (.int (nI x)), some (.int (nI hw))] [] T I J R
  refine aw_aload_n hC dX0_act_38 rfl ?_
  refine aw_getR hC dX0_act_39 aF_X0_15 rfl (tg_38 hT) (pr_38_7 hR) ?_
  refine aw_iload_n hC dX0_act_42 rfl ?_
  refine aw_iaload_k (j := x) hC dX0_act_43 (tg_40 hT) (nI_clamp (by omega)) (vp_in_nI (by omega) (by decide)) ?_
  rw [(h40 x hx6)]
  refine aw_iconst (v := (-1)) hC dX0_act_44 (by decide) ?_
  by_cases c0 : r1 = 0
  · refine aw_icmp_eq (tgt := 63) hC dX0_act_45 (by decide) (fun _ => ?_) (fun h => absurd (by rw [he, c0]; rfl) h)
    show AW X 0 0 63 [some (.ref 38), some (.int 4), some (.int (nI x)), some (.int (nI hw))] [] T I J R
    exact aw_return hC hq rfl dX0_act_63 a_le a_le ⟨_, rfl, rfl, rfl, ⟨eq, by rw [e82i, if_neg (by omega)]; exact hC9⟩, fun _ _ _ _ => rfl, fun _ _ _ _ => rfl, hR, fun y hy => by rw [e82i, if_neg (by omega)]; exact h40 y hy⟩
  · obtain ⟨r2, hr2⟩ : ∃ r2, r1 = r2 + 1 := ⟨r1 - 1, by omega⟩
    have e82 : m 82 x - 1 = nI r2 := by rw [he, hr2]; exact nI_p1 r2
    refine aw_icmp_eq (tgt := 63) hC dX0_act_45 (by decide) (fun h => absurd (e82.symm.trans h) (nI_ne1b (by omega))) (fun _ => ?_)
    show AW X 0 0 48 [some (.ref 38), some (.int 4), some (.int (nI x)), some (.int (nI hw))] [] T I J R
    refine aw_aload_n hC dX0_act_48 rfl ?_
    refine aw_getR hC dX0_act_49 aF_X0_19 rfl (tg_38 hT) (pr_38_1 hR) ?_
    refine aw_getR hC dX0_act_52 aF_X0_96 rfl (tg_19 hT) (pr_19_5 hR) ?_
    refine aw_aload_n hC dX0_act_55 rfl ?_
    refine aw_getR hC dX0_act_56 aF_X0_15 rfl (tg_38 hT) (pr_38_7 hR) ?_
    refine aw_iload_n hC dX0_act_59 rfl ?_
    refine aw_iaload_k (j := x) hC dX0_act_60 (tg_40 hT) (nI_clamp (by omega)) (vp_in_nI (by omega) (by decide)) ?_
    rw [((h40 x hx6).trans e82)]
    refine aw_iconst (v := 1) hC dX0_act_61 (by decide) ?_
    refine aw_bastore_k (j := r2) hC dX0_act_62 (tg_24 hT) (nI_clamp (by omega)) (vp_in_nI (by omega) (by decide)) (Or.inr rfl) ?_
    exact aw_return hC hq rfl dX0_act_63 a_le a_le ⟨_, rfl, rfl, rfl, ⟨eq, by rw [e82i, if_pos (by omega), show r1 - 1 = r2 by omega]; exact hC9.gone hT (by omega)⟩, fun o a b c => a_u_row (fun z => c (by omega)), fun _ _ _ _ => rfl, hR, fun y hy => by rw [e82i, if_pos (by omega), a_u_row (by decide), a_u_row (by decide)]; exact h40 y hy⟩
