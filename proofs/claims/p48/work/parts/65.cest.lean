/-! THE ESTATE AGAINST THE GHOST: gq i the thing of the generator i, eq x that of the entry of the name x -/
abbrev GnAt (T : List aT) (I : aI) (R : aR) (m : aI) (q i : Nat) : Prop := T[q]? = some (.inr 5) ∧ R q 1 = some (q + 1) ∧ T[q + 1]? = some (.inl (.int, 8)) ∧ R q 3 = some (q + 2) ∧ T[q + 2]? = some (.inl (.int, 3)) ∧ I q 0 = m 62 i ∧ I q 2 = m 63 i ∧ (∀ k, k < 8 → I (q + 1) k = m 64 (8 * i + k)) ∧ ∀ a, a < 3 → I (q + 2) a = m 65 (3 * i + a)
def CGn (T : List aT) (I : aI) (R : aR) (m : aI) (g : Nat) (gq : Nat → Nat) : Prop := I 19 2 = nI g ∧ (∀ i, i < g → R 21 i = some (gq i) ∧ GnAt T I R m (gq i) i) ∧ ∀ i j, i < g → j < g → gq i = gq j → i = j
theorem CGn.cnt {T : List aT} {I : aI} {R : aR} {m : aI} {g : Nat} {gq : Nat → Nat} (h : CGn T I R m g gq) : I 19 2 = nI g := h.1
theorem CGn.rf {T : List aT} {I : aI} {R : aR} {m : aI} {g : Nat} {gq : Nat → Nat} (h : CGn T I R m g gq) {i : Nat} (hi : i < g) : R 21 i = some (gq i) := (h.2.1 i hi).1
theorem CGn.at {T : List aT} {I : aI} {R : aR} {m : aI} {g : Nat} {gq : Nat → Nat} (h : CGn T I R m g gq) {i : Nat} (hi : i < g) : GnAt T I R m (gq i) i := (h.2.1 i hi).2
theorem CGn.tg {T : List aT} {I : aI} {R : aR} {m : aI} {g : Nat} {gq : Nat → Nat} (h : CGn T I R m g gq) {i : Nat} (hi : i < g) : T[gq i]? = some (.inr 5) := (h.at hi).1
theorem CGn.r1 {T : List aT} {I : aI} {R : aR} {m : aI} {g : Nat} {gq : Nat → Nat} (h : CGn T I R m g gq) {i : Nat} (hi : i < g) : R (gq i) 1 = some (gq i + 1) := (h.at hi).2.1
theorem CGn.t1 {T : List aT} {I : aI} {R : aR} {m : aI} {g : Nat} {gq : Nat → Nat} (h : CGn T I R m g gq) {i : Nat} (hi : i < g) : T[gq i + 1]? = some (.inl (.int, 8)) := (h.at hi).2.2.1
theorem CGn.r3 {T : List aT} {I : aI} {R : aR} {m : aI} {g : Nat} {gq : Nat → Nat} (h : CGn T I R m g gq) {i : Nat} (hi : i < g) : R (gq i) 3 = some (gq i + 2) := (h.at hi).2.2.2.1
theorem CGn.t2 {T : List aT} {I : aI} {R : aR} {m : aI} {g : Nat} {gq : Nat → Nat} (h : CGn T I R m g gq) {i : Nat} (hi : i < g) : T[gq i + 2]? = some (.inl (.int, 3)) := (h.at hi).2.2.2.2.1
theorem CGn.ty {T : List aT} {I : aI} {R : aR} {m : aI} {g : Nat} {gq : Nat → Nat} (h : CGn T I R m g gq) {i : Nat} (hi : i < g) : I (gq i) 0 = m 62 i := (h.at hi).2.2.2.2.2.1
theorem CGn.kc {T : List aT} {I : aI} {R : aR} {m : aI} {g : Nat} {gq : Nat → Nat} (h : CGn T I R m g gq) {i : Nat} (hi : i < g) : I (gq i) 2 = m 63 i := (h.at hi).2.2.2.2.2.2.1
theorem CGn.ks {T : List aT} {I : aI} {R : aR} {m : aI} {g : Nat} {gq : Nat → Nat} (h : CGn T I R m g gq) {i k : Nat} (hi : i < g) (hk : k < 8) : I (gq i + 1) k = m 64 (8 * i + k) := (h.at hi).2.2.2.2.2.2.2.1 k hk
theorem CGn.sr {T : List aT} {I : aI} {R : aR} {m : aI} {g : Nat} {gq : Nat → Nat} (h : CGn T I R m g gq) {i a : Nat} (hi : i < g) (ha : a < 3) : I (gq i + 2) a = m 65 (3 * i + a) := (h.at hi).2.2.2.2.2.2.2.2 a ha
abbrev EnAt (T : List aT) (I : aI) (R : aR) (m : aI) (q x : Nat) : Prop := T[q]? = some (.inr 3) ∧ R q 1 = some (q + 1) ∧ T[q + 1]? = some (.inl (.int, 3)) ∧ R q 4 = some (q + 2) ∧ T[q + 2]? = some (.inl (.int, 3)) ∧ I q 0 = m 69 x - 1 ∧ I q 2 = m 71 x ∧ I q 3 = m 72 x ∧ (∀ a, a < 3 → I (q + 1) a = m 70 (3 * x + a)) ∧ ∀ a, a < 3 → bt (m 72 x) a = true → I (q + 2) a = m 73 (3 * x + a)
def CEn (T : List aT) (I : aI) (R : aR) (m : aI) (eq : Nat → Nat) : Prop := (∀ x, x < 64 → (m 69 x = 0 → R 25 x = none) ∧ (m 69 x ≠ 0 → R 25 x = some (eq x) ∧ EnAt T I R m (eq x) x)) ∧ ∀ x y, x < 64 → y < 64 → m 69 x ≠ 0 → m 69 y ≠ 0 → eq x = eq y → x = y
theorem CEn.no {T : List aT} {I : aI} {R : aR} {m : aI} {eq : Nat → Nat} (h : CEn T I R m eq) {x : Nat} (hx : x < 64) (h0 : m 69 x = 0) : R 25 x = none := (h.1 x hx).1 h0
theorem CEn.rf {T : List aT} {I : aI} {R : aR} {m : aI} {eq : Nat → Nat} (h : CEn T I R m eq) {x : Nat} (hx : x < 64) (h0 : m 69 x ≠ 0) : R 25 x = some (eq x) := ((h.1 x hx).2 h0).1
theorem CEn.at {T : List aT} {I : aI} {R : aR} {m : aI} {eq : Nat → Nat} (h : CEn T I R m eq) {x : Nat} (hx : x < 64) (h0 : m 69 x ≠ 0) : EnAt T I R m (eq x) x := ((h.1 x hx).2 h0).2
theorem CEn.tg {T : List aT} {I : aI} {R : aR} {m : aI} {eq : Nat → Nat} (h : CEn T I R m eq) {x : Nat} (hx : x < 64) (h0 : m 69 x ≠ 0) : T[eq x]? = some (.inr 3) := (h.at hx h0).1
theorem CEn.r1 {T : List aT} {I : aI} {R : aR} {m : aI} {eq : Nat → Nat} (h : CEn T I R m eq) {x : Nat} (hx : x < 64) (h0 : m 69 x ≠ 0) : R (eq x) 1 = some (eq x + 1) := (h.at hx h0).2.1
theorem CEn.t1 {T : List aT} {I : aI} {R : aR} {m : aI} {eq : Nat → Nat} (h : CEn T I R m eq) {x : Nat} (hx : x < 64) (h0 : m 69 x ≠ 0) : T[eq x + 1]? = some (.inl (.int, 3)) := (h.at hx h0).2.2.1
theorem CEn.r4 {T : List aT} {I : aI} {R : aR} {m : aI} {eq : Nat → Nat} (h : CEn T I R m eq) {x : Nat} (hx : x < 64) (h0 : m 69 x ≠ 0) : R (eq x) 4 = some (eq x + 2) := (h.at hx h0).2.2.2.1
theorem CEn.t2 {T : List aT} {I : aI} {R : aR} {m : aI} {eq : Nat → Nat} (h : CEn T I R m eq) {x : Nat} (hx : x < 64) (h0 : m 69 x ≠ 0) : T[eq x + 2]? = some (.inl (.int, 3)) := (h.at hx h0).2.2.2.2.1
theorem CEn.rs {T : List aT} {I : aI} {R : aR} {m : aI} {eq : Nat → Nat} (h : CEn T I R m eq) {x : Nat} (hx : x < 64) (h0 : m 69 x ≠ 0) : I (eq x) 0 = m 69 x - 1 := (h.at hx h0).2.2.2.2.2.1
theorem CEn.bd {T : List aT} {I : aI} {R : aR} {m : aI} {eq : Nat → Nat} (h : CEn T I R m eq) {x : Nat} (hx : x < 64) (h0 : m 69 x ≠ 0) : I (eq x) 2 = m 71 x := (h.at hx h0).2.2.2.2.2.2.1
theorem CEn.ad {T : List aT} {I : aI} {R : aR} {m : aI} {eq : Nat → Nat} (h : CEn T I R m eq) {x : Nat} (hx : x < 64) (h0 : m 69 x ≠ 0) : I (eq x) 3 = m 72 x := (h.at hx h0).2.2.2.2.2.2.2.1
theorem CEn.vl {T : List aT} {I : aI} {R : aR} {m : aI} {eq : Nat → Nat} (h : CEn T I R m eq) {x a : Nat} (hx : x < 64) (h0 : m 69 x ≠ 0) (ha : a < 3) : I (eq x + 1) a = m 70 (3 * x + a) := (h.at hx h0).2.2.2.2.2.2.2.2.1 a ha
theorem CEn.bs {T : List aT} {I : aI} {R : aR} {m : aI} {eq : Nat → Nat} (h : CEn T I R m eq) {x a : Nat} (hx : x < 64) (h0 : m 69 x ≠ 0) (ha : a < 3) (hb : bt (m 72 x) a = true) : I (eq x + 2) a = m 73 (3 * x + a) := (h.at hx h0).2.2.2.2.2.2.2.2.2 a ha hb
def CTy (I m : aI) : Prop := ∀ t, t < 3 → (∀ a, a < 3 → I (28 + 2 * t) a = m 58 (3 * t + a)) ∧ I (27 + 2 * t) 1 = m 59 t ∧ I (27 + 2 * t) 2 = m 60 t ∧ I (27 + 2 * t) 3 = m 61 t
theorem CTy.tr {I m : aI} (h : CTy I m) {t a : Nat} (ht : t < 3) (ha : a < 3) : I (28 + 2 * t) a = m 58 (3 * t + a) := (h t ht).1 a ha
theorem CTy.mf {I m : aI} (h : CTy I m) {t : Nat} (ht : t < 3) : I (27 + 2 * t) 1 = m 59 t := (h t ht).2.1
theorem CTy.ap {I m : aI} (h : CTy I m) {t : Nat} (ht : t < 3) : I (27 + 2 * t) 2 = m 60 t := (h t ht).2.2.1
theorem CTy.up {I m : aI} (h : CTy I m) {t : Nat} (ht : t < 3) : I (27 + 2 * t) 3 = m 61 t := (h t ht).2.2.2
theorem ty_rf {R : aR} (hR : aPR R) {t : Nat} (ht : t < 3) : R 20 t = some (27 + 2 * t) := by
  rcases (show t = 0 ∨ t = 1 ∨ t = 2 by omega) with e | e | e <;> rw [e]
  · exact pr_20_0 hR
  · exact pr_20_1 hR
  · exact pr_20_2 hR
theorem ty_rr {R : aR} (hR : aPR R) {t : Nat} (ht : t < 3) : R (27 + 2 * t) 0 = some (28 + 2 * t) := by
  rcases (show t = 0 ∨ t = 1 ∨ t = 2 by omega) with e | e | e <;> rw [e]
  · exact pr_27_0 hR
  · exact pr_29_0 hR
  · exact pr_31_0 hR
theorem ty_tg {T : List aT} (hT : aPT T) {t : Nat} (ht : t < 3) : T[27 + 2 * t]? = some (.inr 9) := by
  rcases (show t = 0 ∨ t = 1 ∨ t = 2 by omega) with e | e | e <;> rw [e]
  · exact tg_27 hT
  · exact tg_29 hT
  · exact tg_31 hT
theorem ty_ta {T : List aT} (hT : aPT T) {t : Nat} (ht : t < 3) : T[28 + 2 * t]? = some (.inl (.int, 3)) := by
  rcases (show t = 0 ∨ t = 1 ∨ t = 2 by omega) with e | e | e <;> rw [e]
  · exact tg_28 hT
  · exact tg_30 hT
  · exact tg_32 hT
/-- the resources -/
def CRs (I m : aI) (r : Nat) : Prop := I 19 6 = nI r ∧ m 44 25 = nI r ∧ r ≤ 60 ∧ (∀ j, j < 60 → I 22 j = m 66 j ∧ I 24 j = m 68 j ∧ (m 68 j = 0 → ∀ a, a < 3 → I 23 (3 * j + a) = m 67 (3 * j + a))) ∧ ∀ j, r ≤ j → j < 60 → m 68 j = 0
theorem CRs.cnt {I m : aI} {r : Nat} (h : CRs I m r) : I 19 6 = nI r := h.1
theorem CRs.r60 {I m : aI} {r : Nat} (h : CRs I m r) : r ≤ 60 := h.2.2.1
theorem CRs.ty {I m : aI} {r : Nat} (h : CRs I m r) {j : Nat} (hj : j < 60) : I 22 j = m 66 j := (h.2.2.2.1 j hj).1
theorem CRs.gn {I m : aI} {r : Nat} (h : CRs I m r) {j : Nat} (hj : j < 60) : I 24 j = m 68 j := (h.2.2.2.1 j hj).2.1
theorem CRs.vl {I m : aI} {r : Nat} (h : CRs I m r) {j a : Nat} (hj : j < 60) (h0 : m 68 j = 0) (ha : a < 3) : I 23 (3 * j + a) = m 67 (3 * j + a) := (h.2.2.2.1 j hj).2.2 h0 a ha
set_option maxRecDepth 100000 in
theorem m_X9_is {T : List aT} {I : aI} {J : aJ} {R : aR} (hT : aPT T) (hR : aPR R) {m : aI} (hY : CTy I m) {t a : Nat} (ht : t < 3) (ha : a < 3) (f : Int32) : MX9_is 0 0 [.ref (27 + 2 * t), .int (nI a), .int f] T I J R (aPure (some (.int (bI (decide (m 58 (3 * t + a) &&& f ≠ 0))))) T I J R) := by
  refine a_met (by decide +kernel) a_le (fun X hC hq => ?_)
  show AW X 0 0 0 [some (.ref (27 + 2 * t)), some (.int (nI a)), some (.int f)] [] T I J R
  refine aw_aload_n hC dX9_is_0 rfl ?_
  refine aw_getR hC dX9_is_1 aF_X9_9 rfl (ty_tg hT ht) (ty_rr hR ht) ?_
  refine aw_iload_n hC dX9_is_4 rfl ?_
  refine aw_iaload_k (j := a) hC dX9_is_5 (ty_ta hT ht) (nI_clamp (by omega)) (vp_in_nI (by omega) (by decide)) ?_
  rw [(hY.tr ht ha)]
  refine aw_iload_n hC dX9_is_6 rfl ?_
  refine aw_iand hC dX9_is_7 ?_
  refine aw_if_eq (tgt := 15) hC dX9_is_8 (by decide) (fun h1 => ?_) (fun h1 => ?_)
  · show AW X 0 0 15 [some (.ref (27 + 2 * t)), some (.int (nI a)), some (.int f)] [] T I J R
    refine aw_iconst (v := 0) hC dX9_is_15 (by decide) ?_
    exact aw_zreturn hC hq rfl (Or.inl rfl) dX9_is_16 a_le a_le (aPure_i (bI_no (not_not_intro (by assumption))))
  · show AW X 0 0 11 [some (.ref (27 + 2 * t)), some (.int (nI a)), some (.int f)] [] T I J R
    refine aw_iconst (v := 1) hC dX9_is_11 (by decide) ?_
    refine aw_goto (tgt := 16) hC dX9_is_12 (by decide) ?_
    exact aw_zreturn hC hq rfl (Or.inr rfl) dX9_is_16 a_le a_le (aPure_i (bI_yes (by assumption)))
set_option maxRecDepth 100000 in
theorem m_X4_names {T : List aT} {I : aI} {J : aJ} {R : aR} (hT : aPT T) (hR : aPR R) {g : Nat} (hgn : I 19 2 = nI g) : MX4_names 0 0 [.ref 19] T I J R (aPure (some (.int (nI (16 * g)))) T I J R) := by
  refine a_met (by decide +kernel) a_le (fun X hC hq => ?_)
  show AW X 0 0 0 [some (.ref 19)] [] T I J R
  refine aw_bipush (v := 16) hC dX4_names_0 (by decide) ?_
  refine aw_aload_n hC dX4_names_2 rfl ?_
  refine aw_getI hC dX4_names_3 aF_X4_44 rfl (tg_19 hT) ?_
  rw [hgn]
  refine aw_imul hC dX4_names_6 ?_
  rw [show 16 * (nI g) = nI (16 * g) from pk_mul 16 g]
  exact aw_ireturn hC hq rfl dX4_names_7 a_le a_le (aPure_i (by rfl))
set_option maxRecDepth 100000 in
theorem m_X4_isName {T : List aT} {I : aI} {J : aJ} {R : aR} (hT : aPT T) (hR : aPR R) {g : Nat} (hgn : I 19 2 = nI g) (x : Int32) : MX4_isName 0 0 [.ref 19, .int x] T I J R (aPure (some (.int (bI (decide (0 ≤ x ∧ x < nI (16 * g)))))) T I J R) := by
  refine a_met (by decide +kernel) a_le (fun X hC hq => ?_)
  show AW X 0 0 0 [some (.ref 19), some (.int x)] [] T I J R
  refine aw_iload_n hC dX4_isName_0 rfl ?_
  refine aw_aload_n hC dX4_isName_1 rfl ?_
  refine kX4_48 hC rfl (m_X4_names (I := I) hT hR (g := g) hgn) dX4_isName_2 (tg_19 hT) rfl a_le a_le a_le a_le a_le rfl aPure_x (aPure_k ?_)
  show AW X 0 0 5 [some (.ref 19), some (.int x)] [.int (nI (16 * g)), .int x] T I J R
  refine kX4_52 hC rfl (m_X11_isBelow x (nI (16 * g))) dX4_isName_5 rfl a_le a_le a_le a_le a_le rfl aPure_x (aPure_k ?_)
  show AW X 0 0 8 [some (.ref 19), some (.int x)] [.int (bI (decide (0 ≤ x ∧ x < (nI (16 * g)))))] T I J R
  exact aw_zreturn hC hq rfl (bI_01 _) dX4_isName_8 a_le a_le (aPure_i (by rfl))
set_option maxRecDepth 100000 in
theorem m_X4_generatorOf {T : List aT} {I : aI} {J : aJ} {R : aR} (hT : aPT T) (hR : aPR R) {m : aI} {g : Nat} {gq : Nat → Nat} (hG : CGn T I R m g gq) (hg : GW m g) {x : Nat} (hx : x < 16 * g) : MX4_generatorOf 0 0 [.ref 19, .int (nI x)] T I J R (aPure (some (.ref (gq (x / 16)))) T I J R) := by
  refine a_met (by decide +kernel) a_le (fun X hC hq => ?_)
  show AW X 0 0 0 [some (.ref 19), some (.int (nI x))] [] T I J R
  have hg4 := hg.g4
  have hty := hg.ty (x / 16) (by omega)
  refine aw_aload_n hC dX4_generatorOf_0 rfl ?_
  refine aw_getR hC dX4_generatorOf_1 aF_X4_19 rfl (tg_19 hT) (pr_19_1 hR) ?_
  refine aw_iload_n hC dX4_generatorOf_4 rfl ?_
  refine aw_bipush (v := 16) hC dX4_generatorOf_5 (by decide) ?_
  refine aw_idiv hC dX4_generatorOf_7 (by decide) ?_
  rw [show (nI x) / 16 = nI (x / 16) from pk_div (a := x) (d := 16) (by omega) (by decide) (by decide)]
  refine aw_aaloadR_k (j := (x / 16)) hC dX4_generatorOf_8 (tg_21 hT) (nI_clamp (by omega)) (vp_in_nI (by omega) (by decide)) (hG.rf (by omega)) ?_
  exact aw_areturn hC hq rfl (by first | exact Or.inl ⟨_, rfl⟩ | exact Or.inr ⟨_, rfl⟩) dX4_generatorOf_9 a_le a_le (aPure_a (by rfl))
set_option maxRecDepth 100000 in
theorem m_X4_typeNumberOf {T : List aT} {I : aI} {J : aJ} {R : aR} (hT : aPT T) (hR : aPR R) {m : aI} {g : Nat} {gq : Nat → Nat} (hG : CGn T I R m g gq) (hg : GW m g) {x : Nat} (hx : x < 16 * g) : MX4_typeNumberOf 0 0 [.ref 19, .int (nI x)] T I J R (aPure (some (.int (nI (iN m 62 (x / 16))))) T I J R) := by
  refine a_met (by decide +kernel) a_le (fun X hC hq => ?_)
  show AW X 0 0 0 [some (.ref 19), some (.int (nI x))] [] T I J R
  have hg4 := hg.g4
  have hty := hg.ty (x / 16) (by omega)
  refine aw_aload_n hC dX4_typeNumberOf_0 rfl ?_
  refine aw_getR hC dX4_typeNumberOf_1 aF_X4_19 rfl (tg_19 hT) (pr_19_1 hR) ?_
  refine aw_iload_n hC dX4_typeNumberOf_4 rfl ?_
  refine aw_bipush (v := 16) hC dX4_typeNumberOf_5 (by decide) ?_
  refine aw_idiv hC dX4_typeNumberOf_7 (by decide) ?_
  rw [show (nI x) / 16 = nI (x / 16) from pk_div (a := x) (d := 16) (by omega) (by decide) (by decide)]
  refine aw_aaloadR_k (j := (x / 16)) hC dX4_typeNumberOf_8 (tg_21 hT) (nI_clamp (by omega)) (vp_in_nI (by omega) (by decide)) (hG.rf (by omega)) ?_
  refine aw_getI hC dX4_typeNumberOf_9 aF_X4_56 rfl (hG.tg (by omega)) ?_
  rw [((hG.ty (by omega)).trans hty.1)]
  exact aw_ireturn hC hq rfl dX4_typeNumberOf_12 a_le a_le (aPure_i (by rfl))
set_option maxRecDepth 100000 in
theorem m_X4_typeOf {T : List aT} {I : aI} {J : aJ} {R : aR} (hT : aPT T) (hR : aPR R) {m : aI} {g : Nat} {gq : Nat → Nat} (hG : CGn T I R m g gq) (hg : GW m g) {x : Nat} (hx : x < 16 * g) : MX4_typeOf 0 0 [.ref 19, .int (nI x)] T I J R (aPure (some (.ref (27 + 2 * (iN m 62 (x / 16))))) T I J R) := by
  refine a_met (by decide +kernel) a_le (fun X hC hq => ?_)
  show AW X 0 0 0 [some (.ref 19), some (.int (nI x))] [] T I J R
  have hg4 := hg.g4
  have hty := hg.ty (x / 16) (by omega)
  refine aw_aload_n hC dX4_typeOf_0 rfl ?_
  refine aw_getR hC dX4_typeOf_1 aF_X4_11 rfl (tg_19 hT) (pr_19_0 hR) ?_
  refine aw_aload_n hC dX4_typeOf_4 rfl ?_
  refine aw_getR hC dX4_typeOf_5 aF_X4_19 rfl (tg_19 hT) (pr_19_1 hR) ?_
  refine aw_iload_n hC dX4_typeOf_8 rfl ?_
  refine aw_bipush (v := 16) hC dX4_typeOf_9 (by decide) ?_
  refine aw_idiv hC dX4_typeOf_11 (by decide) ?_
  rw [show (nI x) / 16 = nI (x / 16) from pk_div (a := x) (d := 16) (by omega) (by decide) (by decide)]
  refine aw_aaloadR_k (j := (x / 16)) hC dX4_typeOf_12 (tg_21 hT) (nI_clamp (by omega)) (vp_in_nI (by omega) (by decide)) (hG.rf (by omega)) ?_
  refine aw_getI hC dX4_typeOf_13 aF_X4_56 rfl (hG.tg (by omega)) ?_
  rw [((hG.ty (by omega)).trans hty.1)]
  refine aw_aaloadR_k (j := (iN m 62 (x / 16))) hC dX4_typeOf_16 (tg_20 hT) (nI_clamp (by omega)) (vp_in_nI (by omega) (by decide)) (ty_rf hR (by omega)) ?_
  exact aw_areturn hC hq rfl (by first | exact Or.inl ⟨_, rfl⟩ | exact Or.inr ⟨_, rfl⟩) dX4_typeOf_17 a_le a_le (aPure_a (by rfl))
set_option maxRecDepth 100000 in
theorem m_X4_typeOfGenerator {T : List aT} {I : aI} {J : aJ} {R : aR} (hT : aPT T) (hR : aPR R) {m : aI} {g : Nat} {gq : Nat → Nat} (hG : CGn T I R m g gq) (hg : GW m g) {i : Nat} (hi : i < g) : MX4_typeOfGenerator 0 0 [.ref 19, .int (nI i)] T I J R (aPure (some (.ref (27 + 2 * (iN m 62 i)))) T I J R) := by
  refine a_met (by decide +kernel) a_le (fun X hC hq => ?_)
  show AW X 0 0 0 [some (.ref 19), some (.int (nI i))] [] T I J R
  have hg4 := hg.g4
  have hty := hg.ty i (by omega)
  refine aw_aload_n hC dX4_typeOfGenerator_0 rfl ?_
  refine aw_getR hC dX4_typeOfGenerator_1 aF_X4_11 rfl (tg_19 hT) (pr_19_0 hR) ?_
  refine aw_aload_n hC dX4_typeOfGenerator_4 rfl ?_
  refine aw_getR hC dX4_typeOfGenerator_5 aF_X4_19 rfl (tg_19 hT) (pr_19_1 hR) ?_
  refine aw_iload_n hC dX4_typeOfGenerator_8 rfl ?_
  refine aw_aaloadR_k (j := i) hC dX4_typeOfGenerator_9 (tg_21 hT) (nI_clamp (by omega)) (vp_in_nI (by omega) (by decide)) (hG.rf (by omega)) ?_
  refine aw_getI hC dX4_typeOfGenerator_10 aF_X4_56 rfl (hG.tg (by omega)) ?_
  rw [((hG.ty (by omega)).trans hty.1)]
  refine aw_aaloadR_k (j := (iN m 62 i)) hC dX4_typeOfGenerator_13 (tg_20 hT) (nI_clamp (by omega)) (vp_in_nI (by omega) (by decide)) (ty_rf hR (by omega)) ?_
  exact aw_areturn hC hq rfl (by first | exact Or.inl ⟨_, rfl⟩ | exact Or.inr ⟨_, rfl⟩) dX4_typeOfGenerator_14 a_le a_le (aPure_a (by rfl))
theorem hasIn_any {f h : Nat → Int32} {n : Nat} {x : Int32} (e : ∀ j, j < n → f j = h j) : hasIn f n x = anyB (fun j => decide (h j = x)) n := by
  refine Bool.eq_iff_iff.mpr ?_
  rw [hasIn_iff, anyB_iff]
  exact ⟨fun q => by obtain ⟨j, h1, h2⟩ := q; exact ⟨j, h1, decide_eq_true (by rw [← e j h1]; exact h2)⟩, fun q => by obtain ⟨j, h1, h2⟩ := q; exact ⟨j, h1, by rw [e j h1]; exact of_decide_eq_true h2⟩⟩
theorem hk_gen {T : List aT} {I : aI} {R : aR} {m : aI} {g i : Nat} {gq : Nat → Nat} (hG : CGn T I R m g gq) (hg : GW m g) (hi : i < g) (x : Int32) : hasIn (I (gq i + 1)) (iN m 63 i) x = hkB m i x := by
  have h4 := hg.g4
  have := hg.ks i (by omega)
  exact hasIn_any (fun j hj => hG.ks hi (by omega))
set_option maxRecDepth 100000 in
theorem m_X4_hasKey {T : List aT} {I : aI} {J : aJ} {R : aR} (hT : aPT T) (hR : aPR R) {m : aI} {g : Nat} {gq : Nat → Nat} (hG : CGn T I R m g gq) (hg : GW m g) {x : Nat} (hx : x < 16 * g) : MX4_hasKey 0 0 [.ref 19, .int (nI x)] T I J R (aPure (some (.int (bI (sKept m x)))) T I J R) := by
  refine a_met (by decide +kernel) a_le (fun X hC hq => ?_)
  show AW X 0 0 0 [some (.ref 19), some (.int (nI x))] [] T I J R
  have hg4 := hg.g4
  have hty := hg.ty (x / 16) (by omega)
  refine aw_aload_n hC dX4_hasKey_0 rfl ?_
  refine aw_getR hC dX4_hasKey_1 aF_X4_19 rfl (tg_19 hT) (pr_19_1 hR) ?_
  refine aw_iload_n hC dX4_hasKey_4 rfl ?_
  refine aw_bipush (v := 16) hC dX4_hasKey_5 (by decide) ?_
  refine aw_idiv hC dX4_hasKey_7 (by decide) ?_
  rw [show (nI x) / 16 = nI (x / 16) from pk_div (a := x) (d := 16) (by omega) (by decide) (by decide)]
  refine aw_aaloadR_k (j := (x / 16)) hC dX4_hasKey_8 (tg_21 hT) (nI_clamp (by omega)) (vp_in_nI (by omega) (by decide)) (hG.rf (by omega)) ?_
  refine aw_iload_n hC dX4_hasKey_9 rfl ?_
  refine aw_bipush (v := 16) hC dX4_hasKey_10 (by decide) ?_
  refine aw_irem hC dX4_hasKey_12 (by decide) ?_
  rw [show (nI x) - (nI x) / 16 * 16 = nI (x % 16) from pk_rem (a := x) (d := 16) (by omega) (by decide) (by decide)]
  refine kX4_59 hC rfl (m_X5_hasKey (I := I) (n := iN m 63 (x / 16)) (hG.tg (by omega)) (hG.r1 (by omega)) (hG.t1 (by omega)) ((hG.kc (by omega)).trans (hg.ks (x / 16) (by omega)).1) (by have := (hg.ks (x / 16) (by omega)).2; omega) (nI (x % 16))) dX4_hasKey_13 (hG.tg (by omega)) rfl a_le a_le a_le a_le a_le rfl aPure_x (aPure_k ?_)
  show AW X 0 0 16 [some (.ref 19), some (.int (nI x))] [.int (bI (hasIn (I (gq (x / 16) + 1)) (iN m 63 (x / 16)) (nI (x % 16))))] T I J R
  rw [hk_gen hG hg (by omega)]
  exact aw_zreturn hC hq rfl (bI_01 _) dX4_hasKey_16 a_le a_le (aPure_i (by rfl))
theorem bI_yb {b : Bool} (h : b = true) : (1 : Int32) = bI b := by rw [h]; rfl
theorem bI_nb {b : Bool} (h : b = false) : (0 : Int32) = bI b := by rw [h]; rfl
theorem allB_fl {p : Nat → Bool} {n k : Nat} (hk : k < n) (h : p k = false) : allB p n = false := by
  cases e : allB p n with
  | false => rfl
  | true => have := allB_iff.mp e k hk; rw [h] at this; cases this
theorem anyB_tr {p : Nat → Bool} {n k : Nat} (hk : k < n) (h : p k = true) : anyB p n = true := anyB_iff.mpr ⟨k, hk, h⟩
set_option maxRecDepth 100000 in
theorem m_X5_hasKeysOf {T : List aT} {I : aI} {J : aJ} {R : aR} (hT : aPT T) (hR : aPR R) {m : aI} {g : Nat} {gq : Nat → Nat} (hG : CGn T I R m g gq) (hg : GW m g) {h i : Nat} (hh : h < g) (hi : i < g) : MX5_hasKeysOf 0 0 [.ref (gq h), .ref (gq i)] T I J R (aPure (some (.int (bI (allB (fun k => hkB m h (m 64 (8 * i + k))) (iN m 63 i))))) T I J R) := by
  refine a_met (by decide +kernel) a_le (fun X hC hq => ?_)
  show AW X 0 0 0 [some (.ref (gq h)), some (.ref (gq i)), none] [] T I J R
  have hg4 := hg.g4
  have hks := (hg.ks i (by omega)).2
  refine aw_iconst (v := 0) hC dX5_hasKeysOf_0 (by decide) ?_
  refine aw_istore_n (L2 := [some (.ref (gq h)), some (.ref (gq i)), some (.int 0)]) hC dX5_hasKeysOf_1 rfl (by decide) rfl ?_
  have loop : ∀ k, k ≤ iN m 63 i → (∀ j, j < k → hkB m h (m 64 (8 * i + j)) = true) → AW X 0 0 2 [some (.ref (gq h)), some (.ref (gq i)), some (.int (nI k))] [] T I J R := by
    refine a_down (iN m 63 i) (fun k hk_k ih_k => ?_)
    intro hall
    refine aw_iload_n hC dX5_hasKeysOf_2 rfl ?_
    refine aw_aload_n hC dX5_hasKeysOf_3 rfl ?_
    refine aw_getI hC dX5_hasKeysOf_4 aF_X5_28 rfl (hG.tg hi) ?_
    rw [((hG.kc hi).trans (hg.ks i (by omega)).1)]
    refine aw_icmp_ge (tgt := 31) hC dX5_hasKeysOf_7 (by decide) (fun h1 => ?_) (fun h1 => ?_)
    · show AW X 0 0 31 [some (.ref (gq h)), some (.ref (gq i)), some (.int (nI k))] [] T I J R
      have h1n : (iN m 63 i) ≤ k := (nI_leI (a := (iN m 63 i)) (b := k) (by omega) (by omega)).mp h1
      refine aw_iconst (v := 1) hC dX5_hasKeysOf_31 (by decide) ?_
      exact aw_zreturn hC hq rfl (Or.inr rfl) dX5_hasKeysOf_32 a_le a_le (aPure_i (bI_yb (allB_iff.mpr (fun j hj => hall j (by omega)))))
    · show AW X 0 0 10 [some (.ref (gq h)), some (.ref (gq i)), some (.int (nI k))] [] T I J R
      have h1n : ¬ (iN m 63 i) ≤ k := fun q9 => h1 ((nI_leI (a := (iN m 63 i)) (b := k) (by omega) (by omega)).mpr q9)
      refine aw_aload_n hC dX5_hasKeysOf_10 rfl ?_
      refine aw_aload_n hC dX5_hasKeysOf_11 rfl ?_
      refine aw_getR hC dX5_hasKeysOf_12 aF_X5_9 rfl (hG.tg hi) (hG.r1 hi) ?_
      refine aw_iload_n hC dX5_hasKeysOf_15 rfl ?_
      refine aw_iaload_k (j := k) hC dX5_hasKeysOf_16 (hG.t1 hi) (nI_clamp (by omega)) (vp_in_nI (by omega) (by decide)) ?_
      rw [(hG.ks hi (by omega))]
      refine kX5_31 hC rfl (m_X5_hasKey (I := I) (n := iN m 63 h) (hG.tg (by omega)) (hG.r1 (by omega)) (hG.t1 (by omega)) ((hG.kc (by omega)).trans (hg.ks h (by omega)).1) (by have := (hg.ks h (by omega)).2; omega) (m 64 (8 * i + k))) dX5_hasKeysOf_17 (hG.tg hh) rfl a_le a_le a_le a_le a_le rfl aPure_x (aPure_k ?_)
      show AW X 0 0 20 [some (.ref (gq h)), some (.ref (gq i)), some (.int (nI k))] [.int (bI (hasIn (I (gq h + 1)) (iN m 63 h) (m 64 (8 * i + k))))] T I J R
      rw [hk_gen hG hg (by omega)]
      refine aw_if_ne (tgt := 25) hC dX5_hasKeysOf_20 (by decide) (fun h2 => ?_) (fun h2 => ?_)
      · show AW X 0 0 25 [some (.ref (gq h)), some (.ref (gq i)), some (.int (nI k))] [] T I J R
        refine aw_iinc (v := nI (k + 1)) (L2 := [some (.ref (gq h)), some (.ref (gq i)), some (.int (nI (k + 1)))]) hC dX5_hasKeysOf_25 rfl (nI_inc _) (by decide) rfl ?_
        refine aw_goto (tgt := 2) hC dX5_hasKeysOf_28 (by decide) ?_
        exact ih_k (by omega) (fun j hj => by by_cases e : j = k; (rw [e]; exact bI_n0.mp (by assumption)); exact hall j (by omega))
      · show AW X 0 0 23 [some (.ref (gq h)), some (.ref (gq i)), some (.int (nI k))] [] T I J R
        refine aw_iconst (v := 0) hC dX5_hasKeysOf_23 (by decide) ?_
        exact aw_zreturn hC hq rfl (Or.inl rfl) dX5_hasKeysOf_24 a_le a_le (aPure_i (bI_nb (allB_fl (k := k) (by omega) (bI_e0.mp (by assumption)))))
  exact loop 0 (Nat.zero_le _) (fun j hj => absurd hj (by omega))
set_option maxRecDepth 100000 in
theorem m_X4_isInUse {T : List aT} {I : aI} {J : aJ} {R : aR} (hT : aPT T) (hR : aPR R) {m : aI} {g : Nat} {gq : Nat → Nat} (hG : CGn T I R m g gq) (hg : GW m g) {r : Nat} (hRs : CRs I m r) (t : Int32) : MX4_isInUse 0 0 [.ref 19, .int t] T I J R (aPure (some (.int (bI (anyB (fun j => decide (m 62 j = t)) g || anyB (fun j => decide (m 66 j = t)) r)))) T I J R) := by
  refine a_met (by decide +kernel) a_le (fun X hC hq => ?_)
  show AW X 0 0 0 [some (.ref 19), some (.int t), none] [] T I J R
  have hg4 := hg.g4
  have hr60 := hRs.r60
  refine aw_iconst (v := 0) hC dX4_isInUse_0 (by decide) ?_
  refine aw_istore_n (L2 := [some (.ref 19), some (.int t), some (.int 0)]) hC dX4_isInUse_1 rfl (by decide) rfl ?_
  have loop : ∀ k, k ≤ g → (∀ j, j < k → decide (m 62 j = t) = false) → AW X 0 0 2 [some (.ref 19), some (.int t), some (.int (nI k))] [] T I J R := by
    refine a_down g (fun k hk_k ih_k => ?_)
    intro hno
    refine aw_iload_n hC dX4_isInUse_2 rfl ?_
    refine aw_aload_n hC dX4_isInUse_3 rfl ?_
    refine aw_getI hC dX4_isInUse_4 aF_X4_44 rfl (tg_19 hT) ?_
    rw [hG.cnt]
    refine aw_icmp_ge (tgt := 31) hC dX4_isInUse_7 (by decide) (fun h1 => ?_) (fun h1 => ?_)
    · show AW X 0 0 31 [some (.ref 19), some (.int t), some (.int (nI k))] [] T I J R
      have h1n : g ≤ k := (nI_leI (a := g) (b := k) (by omega) (by omega)).mp h1
      refine aw_iconst (v := 0) hC dX4_isInUse_31 (by decide) ?_
      refine aw_istore_n (L2 := [some (.ref 19), some (.int t), some (.int 0)]) hC dX4_isInUse_32 rfl (by decide) rfl ?_
      have hng : anyB (fun j => decide (m 62 j = t)) g = false := anyB_f.mpr (fun j hj => hno j (by omega))
      have loop2 : ∀ k, k ≤ r → (∀ j, j < k → decide (m 66 j = t) = false) → AW X 0 0 33 [some (.ref 19), some (.int t), some (.int (nI k))] [] T I J R := by
        refine a_down r (fun k hk_k2 ih2 => ?_)
        intro hno2
        refine aw_iload_n hC dX4_isInUse_33 rfl ?_
        refine aw_aload_n hC dX4_isInUse_34 rfl ?_
        refine aw_getI hC dX4_isInUse_35 aF_X4_77 rfl (tg_19 hT) ?_
        rw [hRs.cnt]
        refine aw_icmp_ge (tgt := 59) hC dX4_isInUse_38 (by decide) (fun h2 => ?_) (fun h2 => ?_)
        · show AW X 0 0 59 [some (.ref 19), some (.int t), some (.int (nI k))] [] T I J R
          have h2n : r ≤ k := (nI_leI (a := r) (b := k) (by omega) (by omega)).mp h2
          refine aw_iconst (v := 0) hC dX4_isInUse_59 (by decide) ?_
          exact aw_zreturn hC hq rfl (Or.inl rfl) dX4_isInUse_60 a_le a_le (aPure_i (bI_nb (by rw [hng, anyB_f.mpr (fun j hj => hno2 j (by omega))]; rfl)))
        · show AW X 0 0 41 [some (.ref 19), some (.int t), some (.int (nI k))] [] T I J R
          have h2n : ¬ r ≤ k := fun q9 => h2 ((nI_leI (a := r) (b := k) (by omega) (by omega)).mpr q9)
          refine aw_aload_n hC dX4_isInUse_41 rfl ?_
          refine aw_getR hC dX4_isInUse_42 aF_X4_23 rfl (tg_19 hT) (pr_19_3 hR) ?_
          refine aw_iload_n hC dX4_isInUse_45 rfl ?_
          refine aw_iaload_k (j := k) hC dX4_isInUse_46 (tg_22 hT) (nI_clamp (by omega)) (vp_in_nI (by omega) (by decide)) ?_
          rw [(hRs.ty (by omega))]
          refine aw_iload_n hC dX4_isInUse_47 rfl ?_
          refine aw_icmp_ne (tgt := 53) hC dX4_isInUse_48 (by decide) (fun h3 => ?_) (fun h3 => ?_)
          · show AW X 0 0 53 [some (.ref 19), some (.int t), some (.int (nI k))] [] T I J R
            refine aw_iinc (v := nI (k + 1)) (L2 := [some (.ref 19), some (.int t), some (.int (nI (k + 1)))]) hC dX4_isInUse_53 rfl (nI_inc _) (by decide) rfl ?_
            refine aw_goto (tgt := 33) hC dX4_isInUse_56 (by decide) ?_
            exact ih2 (by omega) (fun j hj => by by_cases e : j = k; (rw [e]; exact decide_eq_false (by assumption)); exact hno2 j (by omega))
          · show AW X 0 0 51 [some (.ref 19), some (.int t), some (.int (nI k))] [] T I J R
            refine aw_iconst (v := 1) hC dX4_isInUse_51 (by decide) ?_
            exact aw_zreturn hC hq rfl (Or.inr rfl) dX4_isInUse_52 a_le a_le (aPure_i (bI_yb (by rw [hng, anyB_tr (k := k) (by omega) (decide_eq_true (by assumption))]; rfl)))
      exact loop2 0 (Nat.zero_le _) (fun j hj => absurd hj (by omega))
    · show AW X 0 0 10 [some (.ref 19), some (.int t), some (.int (nI k))] [] T I J R
      have h1n : ¬ g ≤ k := fun q9 => h1 ((nI_leI (a := g) (b := k) (by omega) (by omega)).mpr q9)
      refine aw_aload_n hC dX4_isInUse_10 rfl ?_
      refine aw_getR hC dX4_isInUse_11 aF_X4_19 rfl (tg_19 hT) (pr_19_1 hR) ?_
      refine aw_iload_n hC dX4_isInUse_14 rfl ?_
      refine aw_aaloadR_k (j := k) hC dX4_isInUse_15 (tg_21 hT) (nI_clamp (by omega)) (vp_in_nI (by omega) (by decide)) (hG.rf (by omega)) ?_
      refine aw_getI hC dX4_isInUse_16 aF_X4_56 rfl (hG.tg (by omega)) ?_
      rw [(hG.ty (by omega))]
      refine aw_iload_n hC dX4_isInUse_19 rfl ?_
      refine aw_icmp_ne (tgt := 25) hC dX4_isInUse_20 (by decide) (fun h4 => ?_) (fun h4 => ?_)
      · show AW X 0 0 25 [some (.ref 19), some (.int t), some (.int (nI k))] [] T I J R
        refine aw_iinc (v := nI (k + 1)) (L2 := [some (.ref 19), some (.int t), some (.int (nI (k + 1)))]) hC dX4_isInUse_25 rfl (nI_inc _) (by decide) rfl ?_
        refine aw_goto (tgt := 2) hC dX4_isInUse_28 (by decide) ?_
        exact ih_k (by omega) (fun j hj => by by_cases e : j = k; (rw [e]; exact decide_eq_false (by assumption)); exact hno j (by omega))
      · show AW X 0 0 23 [some (.ref 19), some (.int t), some (.int (nI k))] [] T I J R
        refine aw_iconst (v := 1) hC dX4_isInUse_23 (by decide) ?_
        exact aw_zreturn hC hq rfl (Or.inr rfl) dX4_isInUse_24 a_le a_le (aPure_i (bI_yb (by rw [anyB_tr (k := k) (by omega) (decide_eq_true (by assumption))]; rfl)))
  exact loop 0 (Nat.zero_le _) (fun j hj => absurd hj (by omega))
theorem sub1_n {v : Int32} {r : Nat} : v - 1 = nI r ↔ v = nI (r + 1) := by
  constructor
  · intro h
    have e := congrArg (fun y => y + 1) h
    simp only [Int32.sub_add_cancel] at e
    rw [e]; exact nI_add r 1
  · intro h; rw [h]; exact nI_p1 r
set_option maxRecDepth 100000 in
theorem m_X4_hasEntry {T : List aT} {I : aI} {J : aJ} {R : aR} (hT : aPT T) (hR : aPR R) {m : aI} {eq : Nat → Nat} (hE : CEn T I R m eq) {r : Nat} (hr : r < 60) : MX4_hasEntry 0 0 [.ref 19, .int (nI r)] T I J R (aPure (some (.int (bI (tkB m r)))) T I J R) := by
  refine a_met (by decide +kernel) a_le (fun X hC hq => ?_)
  show AW X 0 0 0 [some (.ref 19), some (.int (nI r)), none] [] T I J R
  refine aw_iconst (v := 0) hC dX4_hasEntry_0 (by decide) ?_
  refine aw_istore_n (L2 := [some (.ref 19), some (.int (nI r)), some (.int 0)]) hC dX4_hasEntry_1 rfl (by decide) rfl ?_
  have loop : ∀ k, k ≤ 64 → (∀ j, j < k → decide (m 69 j = nI (r + 1)) = false) → AW X 0 0 2 [some (.ref 19), some (.int (nI r)), some (.int (nI k))] [] T I J R := by
    refine a_down 64 (fun k hk_k ih_k => ?_)
    intro hno
    refine aw_iload_n hC dX4_hasEntry_2 rfl ?_
    refine aw_bipush (v := 64) hC dX4_hasEntry_3 (by decide) ?_
    refine aw_icmp_ge (tgt := 38) hC dX4_hasEntry_5 (by decide) (fun h1 => ?_) (fun h1 => ?_)
    · show AW X 0 0 38 [some (.ref 19), some (.int (nI r)), some (.int (nI k))] [] T I J R
      have h1n : 64 ≤ k := (nI_leI (a := 64) (b := k) (by omega) (by omega)).mp h1
      refine aw_iconst (v := 0) hC dX4_hasEntry_38 (by decide) ?_
      exact aw_zreturn hC hq rfl (Or.inl rfl) dX4_hasEntry_39 a_le a_le (aPure_i (bI_nb (anyB_f.mpr (fun j hj => hno j (by omega)))))
    · show AW X 0 0 8 [some (.ref 19), some (.int (nI r)), some (.int (nI k))] [] T I J R
      have h1n : ¬ 64 ≤ k := fun q9 => h1 ((nI_leI (a := 64) (b := k) (by omega) (by omega)).mpr q9)
      refine aw_aload_n hC dX4_hasEntry_8 rfl ?_
      refine aw_getR hC dX4_hasEntry_9 aF_X4_36 rfl (tg_19 hT) (pr_19_7 hR) ?_
      by_cases h69 : m 69 k = 0
      · show AW X 0 0 12 [some (.ref 19), some (.int (nI r)), some (.int (nI k))] [.ref 25] T I J R
        refine aw_iload_n hC dX4_hasEntry_12 rfl ?_
        refine aw_aaloadN_k (j := k) hC dX4_hasEntry_13 (tg_25 hT) (nI_clamp (by omega)) (vp_in_nI (by omega) (by decide)) (hE.no (by omega) h69) ?_
        refine aw_ifnullN (tgt := 32) hC dX4_hasEntry_14 (by decide) ?_
        refine aw_iinc (v := nI (k + 1)) (L2 := [some (.ref 19), some (.int (nI r)), some (.int (nI (k + 1)))]) hC dX4_hasEntry_32 rfl (nI_inc _) (by decide) rfl ?_
        refine aw_goto (tgt := 2) hC dX4_hasEntry_35 (by decide) ?_
        exact ih_k (by omega) (fun j hj => by by_cases e : j = k; (rw [e]; exact decide_eq_false (fun q => by first | exact absurd (sub1_n.mpr q) (by assumption) | (rw [h69] at q; exact absurd q.symm (fun z => by have := (nI_eq (a := r + 1) (b := 0) (by omega) (by omega)).mp z; omega)))); exact hno j (by omega))
      · show AW X 0 0 12 [some (.ref 19), some (.int (nI r)), some (.int (nI k))] [.ref 25] T I J R
        refine aw_iload_n hC dX4_hasEntry_12 rfl ?_
        refine aw_aaloadR_k (j := k) hC dX4_hasEntry_13 (tg_25 hT) (nI_clamp (by omega)) (vp_in_nI (by omega) (by decide)) (hE.rf (by omega) h69) ?_
        refine aw_ifnull hC dX4_hasEntry_14 ?_
        refine aw_aload_n hC dX4_hasEntry_17 rfl ?_
        refine aw_getR hC dX4_hasEntry_18 aF_X4_36 rfl (tg_19 hT) (pr_19_7 hR) ?_
        refine aw_iload_n hC dX4_hasEntry_21 rfl ?_
        refine aw_aaloadR_k (j := k) hC dX4_hasEntry_22 (tg_25 hT) (nI_clamp (by omega)) (vp_in_nI (by omega) (by decide)) (hE.rf (by omega) h69) ?_
        refine aw_getI hC dX4_hasEntry_23 aF_X4_80 rfl (hE.tg (by omega) h69) ?_
        rw [(hE.rs (by omega) h69)]
        refine aw_iload_n hC dX4_hasEntry_26 rfl ?_
        refine aw_icmp_ne (tgt := 32) hC dX4_hasEntry_27 (by decide) (fun h2 => ?_) (fun h2 => ?_)
        · show AW X 0 0 32 [some (.ref 19), some (.int (nI r)), some (.int (nI k))] [] T I J R
          refine aw_iinc (v := nI (k + 1)) (L2 := [some (.ref 19), some (.int (nI r)), some (.int (nI (k + 1)))]) hC dX4_hasEntry_32 rfl (nI_inc _) (by decide) rfl ?_
          refine aw_goto (tgt := 2) hC dX4_hasEntry_35 (by decide) ?_
          exact ih_k (by omega) (fun j hj => by by_cases e : j = k; (rw [e]; exact decide_eq_false (fun q => by first | exact absurd (sub1_n.mpr q) (by assumption) | (rw [h69] at q; exact absurd q.symm (fun z => by have := (nI_eq (a := r + 1) (b := 0) (by omega) (by omega)).mp z; omega)))); exact hno j (by omega))
        · show AW X 0 0 30 [some (.ref 19), some (.int (nI r)), some (.int (nI k))] [] T I J R
          refine aw_iconst (v := 1) hC dX4_hasEntry_30 (by decide) ?_
          exact aw_zreturn hC hq rfl (Or.inr rfl) dX4_hasEntry_31 a_le a_le (aPure_i (bI_yb (anyB_tr (k := k) (by omega) (decide_eq_true (sub1_n.mp (by assumption))))))
  exact loop 0 (Nat.zero_le _) (fun j hj => absurd hj (by omega))
