abbrev bK (k : Nat) : Int32 := 1 <<< ((nI k) &&& 31)
theorem bt_bK {k i : Nat} (hk : k < 32) (hi : i < 32) : bt (bK k) i = decide (i = k) := bt_bit hk hi
theorem b_setclr {v : Int32} {k : Nat} (hk : k < 32) : (v &&& (bK k ^^^ (-1))) ||| bK k = v ||| bK k := b_ext fun i hi => by
  rw [b_or, b_or, b_and, b_xor, b_m1 i hi, bt_bK hk hi]
  by_cases c : i = k <;> simp [c]
/-- the entry q of the name x as the store A has it; the rest is as it was -/
def DrI (I I2 A : aI) (q x : Nat) : Prop := (∀ o p, o ≠ q + 1 → o ≠ q + 2 → ¬ (o = q ∧ p = 3) → I2 o p = I o p) ∧ I2 q 3 = A 72 x ∧ (∀ a, a < 3 → I2 (q + 1) a = A 70 (3 * x + a)) ∧ ∀ a, a < 3 → bt (A 72 x) a = true → I2 (q + 2) a = A 73 (3 * x + a)
theorem enW_o {I : aI} {q a o p : Nat} {v : Int32} (h1 : o ≠ q + 1) (h2 : ¬ (o = q ∧ p = 3)) : enW I q a v o p = I o p := by unfold enW; rw [a_u_ne h2, a_u_row h1]
theorem enW_3 {I : aI} {q a : Nat} {v : Int32} : enW I q a v q 3 = I q 3 &&& (bK a ^^^ (-1)) := by unfold enW; rw [a_u_self]
theorem enW_v {I : aI} {q a b : Nat} {v : Int32} : enW I q a v (q + 1) b = if b = a then v else I (q + 1) b := by
  unfold enW; rw [a_u_row (by omega)]
  by_cases c : b = a
  · rw [c, a_u_self, if_pos rfl]
  · rw [a_u_ne (fun z => c z.2), if_neg c]
theorem DrI.vl {I I2 A : aI} {q x k : Nat} {v : Int32} (h : DrI I I2 A q x) (a : Nat) (ha : a < 3) : (if a = k then v else I2 (q + 1) a) = a_u A 70 (3 * x + k) v 70 (3 * x + a) := by
  by_cases c : a = k
  · rw [if_pos c, c, a_u_self]
  · rw [if_neg c, a_u_ne (fun z => c (by omega))]; exact h.2.2.1 a ha
theorem DrI.y {I I2 A : aI} {q x k : Nat} {v b : Int32} (hk : k < 3) (h : DrI I I2 A q x) : DrI I (a_u (a_u (enW I2 q k v) q 3 (enW I2 q k v q 3 ||| bK k)) (q + 2) k b) (a_u (a_u (a_u A 70 (3 * x + k) v) 72 x (a_u A 70 (3 * x + k) v 72 x ||| bK k)) 73 (3 * x + k) b) q x := by
  have e72 : a_u (a_u (a_u A 70 (3 * x + k) v) 72 x (a_u A 70 (3 * x + k) v 72 x ||| bK k)) 73 (3 * x + k) b 72 x = A 72 x ||| bK k := by rw [a_u_row (by decide), a_u_self, a_u_row (by decide)]
  refine ⟨fun o p h1 h2 h3 => ?_, ?_, fun a ha => ?_, fun a ha => ?_⟩
  · rw [a_u_row h2, a_u_ne h3, enW_o h1 h3]; exact h.1 o p h1 h2 h3
  · rw [e72, a_u_row (by omega), a_u_self, enW_3, h.2.1, b_setclr (by omega)]
  · rw [a_u_row (by omega), a_u_row (by omega), enW_v, a_u_row (by decide), a_u_row (by decide)]; exact h.vl a ha
  · rw [e72, b_or]
    intro hb
    by_cases c : a = k
    · rw [c, a_u_self, a_u_self]
    · rw [bt_bK (by omega) (by omega), decide_eq_false c, Bool.or_false] at hb
      rw [a_u_ne (fun z => c z.2), a_u_row (by omega), enW_o (by omega) (by omega), a_u_ne (fun z => c (by omega)), a_u_row (by decide), a_u_row (by decide)]
      exact h.2.2.2 a ha hb
theorem DrI.n {I I2 A : aI} {q x k : Nat} {v : Int32} (hk : k < 3) (h : DrI I I2 A q x) : DrI I (enW I2 q k v) (a_u (a_u (a_u A 70 (3 * x + k) v) 72 x (a_u A 70 (3 * x + k) v 72 x &&& (bK k ^^^ (-1)))) 73 (3 * x + k) (a_u A 70 (3 * x + k) v 73 (3 * x + k))) q x := by
  have e72 : a_u (a_u (a_u A 70 (3 * x + k) v) 72 x (a_u A 70 (3 * x + k) v 72 x &&& (bK k ^^^ (-1)))) 73 (3 * x + k) (a_u A 70 (3 * x + k) v 73 (3 * x + k)) 72 x = A 72 x &&& (bK k ^^^ (-1)) := by rw [a_u_row (by decide), a_u_self, a_u_row (by decide)]
  refine ⟨fun o p h1 h2 h3 => ?_, ?_, fun a ha => ?_, fun a ha => ?_⟩
  · rw [enW_o h1 h3]; exact h.1 o p h1 h2 h3
  · rw [e72, enW_3, h.2.1]
  · rw [enW_v, a_u_row (by decide), a_u_row (by decide)]; exact h.vl a ha
  · rw [e72, b_and, b_xor, b_m1 a (by omega), bt_bK (by omega) (by omega)]
    intro hb
    have c : a ≠ k := fun z => by rw [decide_eq_true z] at hb; simp at hb
    rw [decide_eq_false c] at hb
    rw [enW_o (by omega) (by omega), a_u_ne (fun z => c (by omega)), a_u_row (by decide), a_u_row (by decide)]
    exact h.2.2.2 a ha (by simpa using hb)
theorem DrI.z {I I2 A : aI} {q x k : Nat} {v : Int32} (h : DrI I I2 A q x) (h0 : A 72 x = 0) : DrI I (enW I2 q k v) (a_u A 70 (3 * x + k) v) q x := by
  have e72 : a_u A 70 (3 * x + k) v 72 x = 0 := by rw [a_u_row (by decide)]; exact h0
  refine ⟨fun o p h1 h2 h3 => ?_, ?_, fun a ha => ?_, fun a ha => ?_⟩
  · rw [enW_o h1 h3]; exact h.1 o p h1 h2 h3
  · rw [e72, enW_3, h.2.1, h0]
    exact b_ext fun i hi => by rw [b_and, b_0]; rfl
  · rw [enW_v]; exact h.vl a ha
  · rw [e72, b_0]; exact fun z => nomatch z
theorem m_X3_follow1 {T : List aT} {I : aI} {J : aJ} {R : aR} (hT : aPT T) (hR : aPR R) {q a : Nat} (hq9 : EnT T R q) (ha : a < 3) (v b : Int32) (h : b = -1) : MX3_follow 0 0 [.ref q, .int (nI a), .int v, .int b] T I J R (aPure none T (enW I q a v) J R) := by
  have e := m_X3_follow (I := I) (J := J) hT hR hq9 ha v b
  rw [if_pos h] at e; exact e
theorem m_X3_follow2 {T : List aT} {I : aI} {J : aJ} {R : aR} (hT : aPT T) (hR : aPR R) {q a : Nat} (hq9 : EnT T R q) (ha : a < 3) (v b : Int32) (h : ¬ b = -1) : MX3_follow 0 0 [.ref q, .int (nI a), .int v, .int b] T I J R (aPure none T (a_u (a_u (enW I q a v) q 3 (enW I q a v q 3 ||| bK a)) (q + 2) a b) J R) := by
  have e := m_X3_follow (I := I) (J := J) hT hR hq9 ha v b
  rw [if_neg h] at e; exact e
theorem rdD_pt {A : aI} {v : Int32} {x k : Nat} : PtE A (rdD A v x k) x := by
  refine ⟨fun o h1 h2 h3 h4 h5 h6 h7 => rdD_fr ⟨h5, h6⟩, by rw [rdD_fr (by decide)], fun z hz => ⟨by rw [rdD_fr (by decide)], by rw [rdD_fr (by decide)], ?_, fun a ha => ⟨by rw [rdD_fr (by decide)], ?_⟩⟩⟩
  · unfold rdD
    split
    · rfl
    · split <;> rw [a_u_row (by decide), a_u_ne (fun q => by omega)]
  · unfold rdD
    split
    · rfl
    · split <;> rw [a_u_ne (fun q => by omega), a_u_row (by decide)]
theorem put70_pt {A : aI} {x k : Nat} {v : Int32} : PtE A (a_u A 70 (3 * x + k) v) x := ⟨fun o h1 h2 h3 h4 h5 h6 h7 => a_u_row h3, by rw [a_u_row (by decide)], fun z hz => ⟨by rw [a_u_row (by decide)], by rw [a_u_row (by decide)], by rw [a_u_row (by decide)], fun a ha => ⟨by rw [a_u_ne (fun q => by omega)], by rw [a_u_row (by decide)]⟩⟩⟩
theorem rdK_pt {A : aI} {c : Int32} {mj : aJ} {g x k : Nat} : PtE A (rdK A c mj g x k) x := put70_pt.trans rdD_pt
theorem rdA_pt {m : aI} {c : Int32} {mj : aJ} {g x : Nat} : ∀ k, PtE m (rdA m c mj g x k).1 x
  | 0 => PtE.refl
  | k + 1 => by
    simp only [rdA]
    split
    · exact (rdA_pt k).trans rdK_pt
    · exact rdA_pt k
theorem rdA_y {m : aI} {c : Int32} {mj : aJ} {g x k : Nat} (h : rdC (rdA m c mj g x k).1 x k) : rdA m c mj g x (k + 1) = (rdK (rdA m c mj g x k).1 c mj g x k, (rdA m c mj g x k).2 + 1) := by rw [rdA, if_pos h]
theorem rdA_n {m : aI} {c : Int32} {mj : aJ} {g x k : Nat} (h : ¬ rdC (rdA m c mj g x k).1 x k) : rdA m c mj g x (k + 1) = rdA m c mj g x k := by rw [rdA, if_neg h]
/-- the drift of one attribute: the class and the model -/
theorem dr_step {m : aI} {mj : aJ} {c : Int32} {I I2 : aI} {q g x r k : Nat} {gv : Nat → Int32} (hk : k < 3) (he : iN m 69 x = r + 1) (h : DrI I I2 (rdA m c mj g x k).1 q x) (hC : rdC (rdA m c mj g x k).1 x k) (hgv : ∀ B, PtE m B x → gvV B c mj g x k = gv k) (hr : gv k = -1 ∨ 0 ≤ gv k) (hz : m 60 (iN m 62 (x / 16)) = 0 → (rdA m c mj g x k).1 72 x = 0) :
    ((m 60 (iN m 62 (x / 16)) ≠ 0 ∧ sKept m x = true) → gv k ≠ -1 → DrI I (a_u (a_u (enW I2 q k (m 67 (3 * r + k))) q 3 (enW I2 q k (m 67 (3 * r + k)) q 3 ||| bK k)) (q + 2) k (gv k)) (rdA m c mj g x (k + 1)).1 q x) ∧
    (¬ (m 60 (iN m 62 (x / 16)) ≠ 0 ∧ sKept m x = true) ∨ gv k = -1 → DrI I (enW I2 q k (m 67 (3 * r + k))) (rdA m c mj g x (k + 1)).1 q x) := by
  obtain ⟨A, hA⟩ : ∃ A, A = (rdA m c mj g x k).1 := ⟨_, rfl⟩
  have fr : ∀ o, o ≠ 70 ∧ o ≠ 72 ∧ o ≠ 73 → A o = m o := fun o ho => by rw [hA]; exact rdA_fr ho k
  have hp : PtE m A x := by rw [hA]; exact rdA_pt k
  rw [rdA_y hC]
  rw [← hA] at h hz ⊢
  have e69 : iN A 69 x = r + 1 := by unfold iN; rw [fr 69 (by decide)]; exact he
  have e62 : iN A 62 (x / 16) = iN m 62 (x / 16) := by unfold iN; rw [fr 62 (by decide)]
  obtain ⟨B, hB⟩ : ∃ B, B = a_u A 70 (3 * x + k) (m 67 (3 * r + k)) := ⟨_, rfl⟩
  have eK : rdK A c mj g x k = rdD B (gv k) x k := by
    unfold rdK; rw [e69, Nat.add_sub_cancel, fr 67 (by decide), ← hB, hgv B (hp.trans (by rw [hB]; exact put70_pt))]
  have b60 : B 60 (iN B 62 (x / 16)) = m 60 (iN m 62 (x / 16)) := by
    have : iN B 62 (x / 16) = iN m 62 (x / 16) := by unfold iN at *; rw [hB, a_u_row (by decide)]; exact e62
    rw [this, hB, a_u_row (by decide), fr 60 (by decide)]
  have bK' : sKept B x = sKept m x := by
    simp only [sKept]; unfold iN; rw [hB, a_u_row (by decide), a_u_row (by decide), fr 64 (by decide), fr 63 (by decide)]
  show (_ → _ → DrI I _ (rdK A c mj g x k) q x) ∧ (_ → DrI I _ (rdK A c mj g x k) q x)
  rw [eK]
  refine ⟨fun u v => ?_, fun u => ?_⟩
  · rw [← rdD_y (by rw [b60]; exact u.1) (hr.resolve_left v) (by rw [bK']; exact u.2), hB]
    exact h.y hk
  · by_cases z : m 60 (iN m 62 (x / 16)) = 0
    · rw [← rdD_0 (by rw [b60]; exact z), hB]
      exact h.z (hz z)
    · rw [← rdD_n (by rw [b60]; exact z) (by
        rcases u with u | u
        · refine Or.inr ?_
          rw [bK']
          cases e : sKept m x with
          | false => rfl
          | true => exact absurd ⟨z, e⟩ u
        · exact Or.inl (by rw [u]; decide)), hB]
      exact h.n hk
theorem dr_zero {m : aI} {mj : aJ} {c : Int32} {g x : Nat} (h0 : m 60 (iN m 62 (x / 16)) = 0) (h : m 72 x = 0) : ∀ k, (rdA m c mj g x k).1 72 x = 0
  | 0 => h
  | k + 1 => by
    have ih := dr_zero (c := c) (mj := mj) (g := g) h0 h k
    have e62 : iN (rdA m c mj g x k).1 62 (x / 16) = iN m 62 (x / 16) := by unfold iN; rw [rdA_fr (by decide) k]
    simp only [rdA]
    split
    · show rdK _ c mj g x k 72 x = 0
      unfold rdK rdD
      rw [if_pos (by rw [show iN (a_u (rdA m c mj g x k).1 70 (3 * x + k) ((rdA m c mj g x k).1 67 (3 * (iN (rdA m c mj g x k).1 69 x - 1) + k))) 62 (x / 16) = iN m 62 (x / 16) from by unfold iN at *; rw [a_u_row (by decide)]; exact e62, a_u_row (by decide), rdA_fr (by decide) k]; exact h0), a_u_row (by decide)]; exact ih
    · exact ih
set_option maxRecDepth 100000 in
theorem m_X2_followDrift {T : List aT} {I : aI} {J : aJ} {R : aR} (hT : aPT T) (hR : aPR R) {m : aI} {g : Nat} {gq : Nat → Nat} (hG : CGn T I R m g gq) (hg : GW m g) (hY : CTy I m) {eq : Nat → Nat} (hE : CEn T I R m eq) {x : Nat} (hx : x < 16 * g) {c : Int32} {mj : aJ} {r : Nat} (h69 : m 69 x ≠ 0) (he : iN m 69 x = r + 1) (hr0 : I (eq x) 0 = nI r) (hr60 : r < 60) (hre : ∀ a, a < 3 → I 23 (3 * r + a) = m 67 (3 * r + a)) {gv : Nat → Int32} (hGv : ∀ a, a < 3 → I 34 (3 * x + a) = gv a) (hgv : ∀ a, a < 3 → ∀ B, PtE m B x → gvV B c mj g x a = gv a) (hgr : ∀ a, a < 3 → gv a = -1 ∨ 0 ≤ gv a) (hz : m 60 (iN m 62 (x / 16)) = 0 → m 72 x = 0) : MX2_followDrift 0 0 [.ref 33, .int (nI x), .ref (eq x)] T I J R (aRelV (fun v I2 J2 => v = some (.int (nI (rdA m c mj g x 3).2)) ∧ J2 = J ∧ DrI I I2 (rdA m c mj g x 3).1 (eq x) x) T R) := by
  refine a_met (by decide +kernel) a_le (fun X hC hq => ?_)
  show AW X 0 0 0 [some (.ref 33), some (.int (nI x)), some (.ref (eq x)), none, none, none, none, none] [] T I J R
  have hg4 := hg.g4
  have hty := hg.ty (x / 16) (by omega)
  refine aw_aload_n hC dX2_followDrift_0 rfl ?_
  refine aw_getR hC dX2_followDrift_1 aF_X2_28 rfl (tg_33 hT) (pr_33_3 hR) ?_
  refine aw_iload_n hC dX2_followDrift_4 rfl ?_
  refine kX2_85 hC rfl (m_X4_typeOf (I := I) hT hR hG hg (x := x) (by omega)) dX2_followDrift_5 (tg_19 hT) rfl a_le a_le a_le a_le a_le rfl aPure_x (aPure_k ?_)
  show AW X 0 0 8 [some (.ref 33), some (.int (nI x)), some (.ref (eq x)), none, none, none, none, none] [.ref (27 + 2 * (iN m 62 (x / 16)))] T I J R
  refine aw_astore_n (L2 := [some (.ref 33), some (.int (nI x)), some (.ref (eq x)), some (.ref (27 + 2 * (iN m 62 (x / 16)))), none, none, none, none]) hC dX2_followDrift_8 rfl (by decide) rfl ?_
  refine aw_aload_n hC dX2_followDrift_9 rfl ?_
  refine aw_getI hC dX2_followDrift_10 aF_X2_201 rfl (ty_tg hT (hg.ty (x / 16) (by omega)).2) ?_
  rw [(hY.ap hty.2)]
  have join32 : AW X 0 0 32 [some (.ref 33), some (.int (nI x)), some (.ref (eq x)), some (.ref (27 + 2 * (iN m 62 (x / 16)))), none, none, none, none] [.int (bI (decide (m 60 (iN m 62 (x / 16)) ≠ 0) && sKept m x))] T I J R := by
    refine aw_istore (L2 := [some (.ref 33), some (.int (nI x)), some (.ref (eq x)), some (.ref (27 + 2 * (iN m 62 (x / 16)))), some (.int (bI (decide (m 60 (iN m 62 (x / 16)) ≠ 0) && sKept m x))), none, none, none]) hC dX2_followDrift_32 (by decide) rfl ?_
    refine aw_iconst (v := 0) hC dX2_followDrift_34 (by decide) ?_
    refine aw_istore (L2 := [some (.ref 33), some (.int (nI x)), some (.ref (eq x)), some (.ref (27 + 2 * (iN m 62 (x / 16)))), some (.int (bI (decide (m 60 (iN m 62 (x / 16)) ≠ 0) && sKept m x))), some (.int 0), none, none]) hC dX2_followDrift_35 (by decide) rfl ?_
    refine aw_iconst (v := 0) hC dX2_followDrift_37 (by decide) ?_
    refine aw_istore (L2 := [some (.ref 33), some (.int (nI x)), some (.ref (eq x)), some (.ref (27 + 2 * (iN m 62 (x / 16)))), some (.int (bI (decide (m 60 (iN m 62 (x / 16)) ≠ 0) && sKept m x))), some (.int 0), some (.int 0), none]) hC dX2_followDrift_38 (by decide) rfl ?_
    have hq9 : EnT T R (eq x) := ⟨hE.tg (by omega) h69, hE.r1 (by omega) h69, hE.t1 (by omega) h69, hE.r4 (by omega) h69, hE.t2 (by omega) h69⟩
    have h95 := hE.ge hT (show x < 64 by omega) h69
    have loop : ∀ k, k ≤ 3 → ∀ I2 : aI, DrI I I2 (rdA m c mj g x k).1 (eq x) x → AW X 0 0 40 [some (.ref 33), some (.int (nI x)), some (.ref (eq x)), some (.ref (27 + 2 * (iN m 62 (x / 16)))), some (.int (bI (decide (m 60 (iN m 62 (x / 16)) ≠ 0) && sKept m x))), some (.int (nI (rdA m c mj g x k).2)), some (.int (nI k)), none] [] T I2 J R := by
      refine a_down 3 (fun k hk_k ih_k => ?_)
      intro I2 hD
      have ho9 : ∀ o, o < 44 → I2 o = I o := fun o ho => funext fun p => hD.1 o p (by omega) (by omega) (fun q => by omega)
      have hY2 : CTy I2 m := hY.fr (fun o h1 h2 => ho9 o (by omega))
      have fr : ∀ o, o ≠ 70 ∧ o ≠ 72 ∧ o ≠ 73 → (rdA m c mj g x k).1 o = m o := fun o ho => rdA_fr ho k
      have hrc : rdC (rdA m c mj g x k).1 x k ↔ (m 58 (3 * iN m 62 (x / 16) + k) &&& 4 = 0 ∧ m 67 (3 * r + k) ≠ (rdA m c mj g x k).1 70 (3 * x + k)) := by unfold rdC; rw [fr 58 (by decide), fr 67 (by decide), show iN (rdA m c mj g x k).1 69 x = r + 1 from by unfold iN at *; rw [fr 69 (by decide)]; exact he, Nat.add_sub_cancel, show iN (rdA m c mj g x k).1 62 (x / 16) = iN m 62 (x / 16) from by unfold iN; rw [fr 62 (by decide)]]
      have hzk : m 60 (iN m 62 (x / 16)) = 0 → (rdA m c mj g x k).1 72 x = 0 := fun q => dr_zero q (hz q) k
      refine aw_iload hC dX2_followDrift_40 rfl ?_
      refine aw_iconst (v := 3) hC dX2_followDrift_42 (by decide) ?_
      refine aw_icmp_ge (tgt := 127) hC dX2_followDrift_43 (by decide) (fun h1 => ?_) (fun h1 => ?_)
      · show AW X 0 0 127 [some (.ref 33), some (.int (nI x)), some (.ref (eq x)), some (.ref (27 + 2 * (iN m 62 (x / 16)))), some (.int (bI (decide (m 60 (iN m 62 (x / 16)) ≠ 0) && sKept m x))), some (.int (nI (rdA m c mj g x k).2)), some (.int (nI k)), none] [] T I2 J R
        have h1n : 3 ≤ k := (nI_leI (a := 3) (b := k) (by omega) (by omega)).mp h1
        refine aw_iload hC dX2_followDrift_127 rfl ?_
        exact aw_ireturn hC hq rfl dX2_followDrift_129 a_le a_le (by have e9 : k = 3 := (by omega); rw [e9] at hD ⊢; exact ⟨_, rfl, rfl, rfl, rfl, rfl, hD⟩)
      · show AW X 0 0 46 [some (.ref 33), some (.int (nI x)), some (.ref (eq x)), some (.ref (27 + 2 * (iN m 62 (x / 16)))), some (.int (bI (decide (m 60 (iN m 62 (x / 16)) ≠ 0) && sKept m x))), some (.int (nI (rdA m c mj g x k).2)), some (.int (nI k)), none] [] T I2 J R
        have h1n : ¬ 3 ≤ k := fun q9 => h1 ((nI_leI (a := 3) (b := k) (by omega) (by omega)).mpr q9)
        refine aw_aload_n hC dX2_followDrift_46 rfl ?_
        refine aw_getR hC dX2_followDrift_47 aF_X2_28 rfl (tg_33 hT) (pr_33_3 hR) ?_
        refine aw_getR hC dX2_followDrift_50 aF_X2_204 rfl (tg_19 hT) (pr_19_4 hR) ?_
        refine aw_aload_n hC dX2_followDrift_53 rfl ?_
        refine aw_getI hC dX2_followDrift_54 aF_X2_191 rfl (hE.tg (by omega) h69) ?_
        rw [((hD.1 (eq x) 0 (by omega) (by omega) (by omega)).trans hr0)]
        refine aw_iconst (v := 3) hC dX2_followDrift_57 (by decide) ?_
        refine aw_imul hC dX2_followDrift_58 ?_
        rw [show (nI r) * 3 = nI (r * 3) from pk_mul r 3]
        refine aw_iload hC dX2_followDrift_59 rfl ?_
        refine aw_iadd hC dX2_followDrift_61 ?_
        rw [show (nI (r * 3)) + (nI k) = nI ((r * 3) + k) from nI_add (r * 3) k]
        refine aw_iaload_k (j := ((r * 3) + k)) hC dX2_followDrift_62 (tg_23 hT) (nI_clamp (by omega)) (vp_in_nI (by omega) (by decide)) ?_
        rw [(show I2 23 ((r * 3) + k) = m 67 (3 * r + k) from by rw [ho9 23 (by decide), Nat.mul_comm]; exact hre k (by omega))]
        refine aw_istore (L2 := [some (.ref 33), some (.int (nI x)), some (.ref (eq x)), some (.ref (27 + 2 * (iN m 62 (x / 16)))), some (.int (bI (decide (m 60 (iN m 62 (x / 16)) ≠ 0) && sKept m x))), some (.int (nI (rdA m c mj g x k).2)), some (.int (nI k)), some (.int (m 67 (3 * r + k)))]) hC dX2_followDrift_63 (by decide) rfl ?_
        refine aw_aload_n hC dX2_followDrift_65 rfl ?_
        refine aw_iload hC dX2_followDrift_66 rfl ?_
        refine aw_iconst (v := 4) hC dX2_followDrift_68 (by decide) ?_
        refine kX2_107 hC rfl (m_X9_is (I := I2) hT hR hY2 (t := (iN m 62 (x / 16))) (a := k) (by omega) (by omega) (4 : Int32)) dX2_followDrift_69 (ty_tg hT (by omega)) rfl a_le a_le a_le a_le a_le rfl aPure_x (aPure_k ?_)
        show AW X 0 0 72 [some (.ref 33), some (.int (nI x)), some (.ref (eq x)), some (.ref (27 + 2 * (iN m 62 (x / 16)))), some (.int (bI (decide (m 60 (iN m 62 (x / 16)) ≠ 0) && sKept m x))), some (.int (nI (rdA m c mj g x k).2)), some (.int (nI k)), some (.int (m 67 (3 * r + k)))] [.int (bI (decide (m 58 (3 * (iN m 62 (x / 16)) + k) &&& (4 : Int32) ≠ 0)))] T I2 J R
        refine aw_if_ne (tgt := 121) hC dX2_followDrift_72 (by decide) (fun h2 => ?_) (fun h2 => ?_)
        · show AW X 0 0 121 [some (.ref 33), some (.int (nI x)), some (.ref (eq x)), some (.ref (27 + 2 * (iN m 62 (x / 16)))), some (.int (bI (decide (m 60 (iN m 62 (x / 16)) ≠ 0) && sKept m x))), some (.int (nI (rdA m c mj g x k).2)), some (.int (nI k)), some (.int (m 67 (3 * r + k)))] [] T I2 J R
          refine aw_iinc (v := nI (k + 1)) (L2 := [some (.ref 33), some (.int (nI x)), some (.ref (eq x)), some (.ref (27 + 2 * (iN m 62 (x / 16)))), some (.int (bI (decide (m 60 (iN m 62 (x / 16)) ≠ 0) && sKept m x))), some (.int (nI (rdA m c mj g x k).2)), some (.int (nI (k + 1))), some (.int (m 67 (3 * r + k)))]) hC dX2_followDrift_121 rfl (nI_inc _) (by decide) rfl ?_
          refine aw_goto (tgt := 40) hC dX2_followDrift_124 (by decide) ?_
          refine aw_forget 7 (L2 := [some (.ref 33), some (.int (nI x)), some (.ref (eq x)), some (.ref (27 + 2 * (iN m 62 (x / 16)))), some (.int (bI (decide (m 60 (iN m 62 (x / 16)) ≠ 0) && sKept m x))), some (.int (nI (rdA m c mj g x k).2)), some (.int (nI (k + 1))), none]) rfl ?_
          have hnc : ¬ rdC (rdA m c mj g x k).1 x k := fun q => by have z := hrc.mp q; first | exact absurd z.1 (bI_dn.mp (by assumption)) | exact absurd (by assumption) z.2
          have hst := rdA_n hnc
          rw [← hst] at hD ⊢
          exact ih_k (by omega) I2 hD
        · show AW X 0 0 75 [some (.ref 33), some (.int (nI x)), some (.ref (eq x)), some (.ref (27 + 2 * (iN m 62 (x / 16)))), some (.int (bI (decide (m 60 (iN m 62 (x / 16)) ≠ 0) && sKept m x))), some (.int (nI (rdA m c mj g x k).2)), some (.int (nI k)), some (.int (m 67 (3 * r + k)))] [] T I2 J R
          refine aw_iload hC dX2_followDrift_75 rfl ?_
          refine aw_aload_n hC dX2_followDrift_77 rfl ?_
          refine aw_getR hC dX2_followDrift_78 aF_X2_69 rfl (hE.tg (by omega) h69) (hE.r1 (by omega) h69) ?_
          refine aw_iload hC dX2_followDrift_81 rfl ?_
          refine aw_iaload_k (j := k) hC dX2_followDrift_83 (hE.t1 (by omega) h69) (nI_clamp (by omega)) (vp_in_nI (by omega) (by decide)) ?_
          rw [(hD.2.2.1 k (by omega))]
          refine aw_icmp_ne (tgt := 90) hC dX2_followDrift_84 (by decide) (fun h3 => ?_) (fun h3 => ?_)
          · show AW X 0 0 90 [some (.ref 33), some (.int (nI x)), some (.ref (eq x)), some (.ref (27 + 2 * (iN m 62 (x / 16)))), some (.int (bI (decide (m 60 (iN m 62 (x / 16)) ≠ 0) && sKept m x))), some (.int (nI (rdA m c mj g x k).2)), some (.int (nI k)), some (.int (m 67 (3 * r + k)))] [] T I2 J R
            refine aw_aload_n hC dX2_followDrift_90 rfl ?_
            refine aw_iload hC dX2_followDrift_91 rfl ?_
            refine aw_iload hC dX2_followDrift_93 rfl ?_
            refine aw_iload hC dX2_followDrift_95 rfl ?_
            refine aw_if_eq (tgt := 114) hC dX2_followDrift_97 (by decide) (fun hca => ?_) (fun hca => ?_)
            · show AW X 0 0 114 [some (.ref 33), some (.int (nI x)), some (.ref (eq x)), some (.ref (27 + 2 * (iN m 62 (x / 16)))), some (.int (bI (decide (m 60 (iN m 62 (x / 16)) ≠ 0) && sKept m x))), some (.int (nI (rdA m c mj g x k).2)), some (.int (nI k)), some (.int (m 67 (3 * r + k)))] [.int (m 67 (3 * r + k)), .int (nI k), .ref (eq x)] T I2 J R
              refine aw_iconst (v := (-1)) hC dX2_followDrift_114 (by decide) ?_
              refine kX2_207 hC rfl (m_X3_follow1 (I := I2) hT hR (q := (eq x)) (a := k) hq9 (by omega) (m 67 (3 * r + k)) ((-1) : Int32) rfl) dX2_followDrift_115 (hE.tg (by omega) h69) rfl a_le a_le a_le a_le a_le rfl aPure_x (aPure_k ?_)
              show AW X 0 0 118 [some (.ref 33), some (.int (nI x)), some (.ref (eq x)), some (.ref (27 + 2 * (iN m 62 (x / 16)))), some (.int (bI (decide (m 60 (iN m 62 (x / 16)) ≠ 0) && sKept m x))), some (.int (nI (rdA m c mj g x k).2)), some (.int (nI k)), some (.int (m 67 (3 * r + k)))] [] T (enW I2 (eq x) k (m 67 (3 * r + k))) J R
              refine aw_iinc (v := nI ((rdA m c mj g x k).2 + 1)) (L2 := [some (.ref 33), some (.int (nI x)), some (.ref (eq x)), some (.ref (27 + 2 * (iN m 62 (x / 16)))), some (.int (bI (decide (m 60 (iN m 62 (x / 16)) ≠ 0) && sKept m x))), some (.int (nI ((rdA m c mj g x k).2 + 1))), some (.int (nI k)), some (.int (m 67 (3 * r + k)))]) hC dX2_followDrift_118 rfl (nI_inc _) (by decide) rfl ?_
              refine aw_iinc (v := nI (k + 1)) (L2 := [some (.ref 33), some (.int (nI x)), some (.ref (eq x)), some (.ref (27 + 2 * (iN m 62 (x / 16)))), some (.int (bI (decide (m 60 (iN m 62 (x / 16)) ≠ 0) && sKept m x))), some (.int (nI ((rdA m c mj g x k).2 + 1))), some (.int (nI (k + 1))), some (.int (m 67 (3 * r + k)))]) hC dX2_followDrift_121 rfl (nI_inc _) (by decide) rfl ?_
              refine aw_goto (tgt := 40) hC dX2_followDrift_124 (by decide) ?_
              refine aw_forget 7 (L2 := [some (.ref 33), some (.int (nI x)), some (.ref (eq x)), some (.ref (27 + 2 * (iN m 62 (x / 16)))), some (.int (bI (decide (m 60 (iN m 62 (x / 16)) ≠ 0) && sKept m x))), some (.int (nI ((rdA m c mj g x k).2 + 1))), some (.int (nI (k + 1))), none]) rfl ?_
              have hyc : rdC (rdA m c mj g x k).1 x k := hrc.mpr ⟨Classical.not_not.mp (bI_d0.mp (by assumption)), by assumption⟩
              have hst := dr_step (k := k) (by omega) he hD hyc (hgv k (by omega)) (hgr k (by omega)) hzk
              rw [show (rdA m c mj g x k).2 + 1 = (rdA m c mj g x (k + 1)).2 from by rw [rdA_y hyc]]
              exact ih_k (by omega) _ (hst.2 (by first | exact Or.inr (by assumption) | exact Or.inl (fun q => by have h9 := bI_e0.mp hca; rw [decide_eq_true q.1, q.2] at h9; cases h9)))
            · show AW X 0 0 100 [some (.ref 33), some (.int (nI x)), some (.ref (eq x)), some (.ref (27 + 2 * (iN m 62 (x / 16)))), some (.int (bI (decide (m 60 (iN m 62 (x / 16)) ≠ 0) && sKept m x))), some (.int (nI (rdA m c mj g x k).2)), some (.int (nI k)), some (.int (m 67 (3 * r + k)))] [.int (m 67 (3 * r + k)), .int (nI k), .ref (eq x)] T I2 J R
              refine aw_aload_n hC dX2_followDrift_100 rfl ?_
              refine aw_getR hC dX2_followDrift_101 aF_X2_9 rfl (tg_33 hT) (pr_33_0 hR) ?_
              refine aw_iload_n hC dX2_followDrift_104 rfl ?_
              refine aw_iconst (v := 3) hC dX2_followDrift_105 (by decide) ?_
              refine aw_imul hC dX2_followDrift_106 ?_
              rw [show (nI x) * 3 = nI (x * 3) from pk_mul x 3]
              refine aw_iload hC dX2_followDrift_107 rfl ?_
              refine aw_iadd hC dX2_followDrift_109 ?_
              rw [show (nI (x * 3)) + (nI k) = nI ((x * 3) + k) from nI_add (x * 3) k]
              refine aw_iaload_k (j := ((x * 3) + k)) hC dX2_followDrift_110 (tg_34 hT) (nI_clamp (by omega)) (vp_in_nI (by omega) (by decide)) ?_
              rw [(show I2 34 ((x * 3) + k) = gv k from by rw [ho9 34 (by decide), Nat.mul_comm]; exact hGv k (by omega))]
              refine aw_goto (tgt := 115) hC dX2_followDrift_111 (by decide) ?_
              by_cases hc4 : gv k = -1
              · refine kX2_207 hC rfl (m_X3_follow1 (I := I2) hT hR (q := (eq x)) (a := k) hq9 (by omega) (m 67 (3 * r + k)) (gv k) hc4) dX2_followDrift_115 (hE.tg (by omega) h69) rfl a_le a_le a_le a_le a_le rfl aPure_x (aPure_k ?_)
                show AW X 0 0 118 [some (.ref 33), some (.int (nI x)), some (.ref (eq x)), some (.ref (27 + 2 * (iN m 62 (x / 16)))), some (.int (bI (decide (m 60 (iN m 62 (x / 16)) ≠ 0) && sKept m x))), some (.int (nI (rdA m c mj g x k).2)), some (.int (nI k)), some (.int (m 67 (3 * r + k)))] [] T (enW I2 (eq x) k (m 67 (3 * r + k))) J R
                refine aw_iinc (v := nI ((rdA m c mj g x k).2 + 1)) (L2 := [some (.ref 33), some (.int (nI x)), some (.ref (eq x)), some (.ref (27 + 2 * (iN m 62 (x / 16)))), some (.int (bI (decide (m 60 (iN m 62 (x / 16)) ≠ 0) && sKept m x))), some (.int (nI ((rdA m c mj g x k).2 + 1))), some (.int (nI k)), some (.int (m 67 (3 * r + k)))]) hC dX2_followDrift_118 rfl (nI_inc _) (by decide) rfl ?_
                refine aw_iinc (v := nI (k + 1)) (L2 := [some (.ref 33), some (.int (nI x)), some (.ref (eq x)), some (.ref (27 + 2 * (iN m 62 (x / 16)))), some (.int (bI (decide (m 60 (iN m 62 (x / 16)) ≠ 0) && sKept m x))), some (.int (nI ((rdA m c mj g x k).2 + 1))), some (.int (nI (k + 1))), some (.int (m 67 (3 * r + k)))]) hC dX2_followDrift_121 rfl (nI_inc _) (by decide) rfl ?_
                refine aw_goto (tgt := 40) hC dX2_followDrift_124 (by decide) ?_
                refine aw_forget 7 (L2 := [some (.ref 33), some (.int (nI x)), some (.ref (eq x)), some (.ref (27 + 2 * (iN m 62 (x / 16)))), some (.int (bI (decide (m 60 (iN m 62 (x / 16)) ≠ 0) && sKept m x))), some (.int (nI ((rdA m c mj g x k).2 + 1))), some (.int (nI (k + 1))), none]) rfl ?_
                have hyc : rdC (rdA m c mj g x k).1 x k := hrc.mpr ⟨Classical.not_not.mp (bI_d0.mp (by assumption)), by assumption⟩
                have hst := dr_step (k := k) (by omega) he hD hyc (hgv k (by omega)) (hgr k (by omega)) hzk
                rw [show (rdA m c mj g x k).2 + 1 = (rdA m c mj g x (k + 1)).2 from by rw [rdA_y hyc]]
                exact ih_k (by omega) _ (hst.2 (by first | exact Or.inr (by assumption) | exact Or.inl (fun q => by have h9 := bI_e0.mp hca; rw [decide_eq_true q.1, q.2] at h9; cases h9)))
              · refine kX2_207 hC rfl (m_X3_follow2 (I := I2) hT hR (q := (eq x)) (a := k) hq9 (by omega) (m 67 (3 * r + k)) (gv k) hc4) dX2_followDrift_115 (hE.tg (by omega) h69) rfl a_le a_le a_le a_le a_le rfl aPure_x (aPure_k ?_)
                show AW X 0 0 118 [some (.ref 33), some (.int (nI x)), some (.ref (eq x)), some (.ref (27 + 2 * (iN m 62 (x / 16)))), some (.int (bI (decide (m 60 (iN m 62 (x / 16)) ≠ 0) && sKept m x))), some (.int (nI (rdA m c mj g x k).2)), some (.int (nI k)), some (.int (m 67 (3 * r + k)))] [] T (a_u (a_u (enW I2 (eq x) k (m 67 (3 * r + k))) (eq x) 3 (enW I2 (eq x) k (m 67 (3 * r + k)) (eq x) 3 ||| bK k)) ((eq x) + 2) k (gv k)) J R
                refine aw_iinc (v := nI ((rdA m c mj g x k).2 + 1)) (L2 := [some (.ref 33), some (.int (nI x)), some (.ref (eq x)), some (.ref (27 + 2 * (iN m 62 (x / 16)))), some (.int (bI (decide (m 60 (iN m 62 (x / 16)) ≠ 0) && sKept m x))), some (.int (nI ((rdA m c mj g x k).2 + 1))), some (.int (nI k)), some (.int (m 67 (3 * r + k)))]) hC dX2_followDrift_118 rfl (nI_inc _) (by decide) rfl ?_
                refine aw_iinc (v := nI (k + 1)) (L2 := [some (.ref 33), some (.int (nI x)), some (.ref (eq x)), some (.ref (27 + 2 * (iN m 62 (x / 16)))), some (.int (bI (decide (m 60 (iN m 62 (x / 16)) ≠ 0) && sKept m x))), some (.int (nI ((rdA m c mj g x k).2 + 1))), some (.int (nI (k + 1))), some (.int (m 67 (3 * r + k)))]) hC dX2_followDrift_121 rfl (nI_inc _) (by decide) rfl ?_
                refine aw_goto (tgt := 40) hC dX2_followDrift_124 (by decide) ?_
                refine aw_forget 7 (L2 := [some (.ref 33), some (.int (nI x)), some (.ref (eq x)), some (.ref (27 + 2 * (iN m 62 (x / 16)))), some (.int (bI (decide (m 60 (iN m 62 (x / 16)) ≠ 0) && sKept m x))), some (.int (nI ((rdA m c mj g x k).2 + 1))), some (.int (nI (k + 1))), none]) rfl ?_
                have hyc : rdC (rdA m c mj g x k).1 x k := hrc.mpr ⟨Classical.not_not.mp (bI_d0.mp (by assumption)), by assumption⟩
                have hst := dr_step (k := k) (by omega) he hD hyc (hgv k (by omega)) (hgr k (by omega)) hzk
                rw [show (rdA m c mj g x k).2 + 1 = (rdA m c mj g x (k + 1)).2 from by rw [rdA_y hyc]]
                exact ih_k (by omega) _ (hst.1 (by have h9 := bI_n0.mp hca; simp only [Bool.and_eq_true, decide_eq_true_eq] at h9; exact h9) (by assumption))
          · show AW X 0 0 87 [some (.ref 33), some (.int (nI x)), some (.ref (eq x)), some (.ref (27 + 2 * (iN m 62 (x / 16)))), some (.int (bI (decide (m 60 (iN m 62 (x / 16)) ≠ 0) && sKept m x))), some (.int (nI (rdA m c mj g x k).2)), some (.int (nI k)), some (.int (m 67 (3 * r + k)))] [] T I2 J R
            refine aw_goto (tgt := 121) hC dX2_followDrift_87 (by decide) ?_
            refine aw_iinc (v := nI (k + 1)) (L2 := [some (.ref 33), some (.int (nI x)), some (.ref (eq x)), some (.ref (27 + 2 * (iN m 62 (x / 16)))), some (.int (bI (decide (m 60 (iN m 62 (x / 16)) ≠ 0) && sKept m x))), some (.int (nI (rdA m c mj g x k).2)), some (.int (nI (k + 1))), some (.int (m 67 (3 * r + k)))]) hC dX2_followDrift_121 rfl (nI_inc _) (by decide) rfl ?_
            refine aw_goto (tgt := 40) hC dX2_followDrift_124 (by decide) ?_
            refine aw_forget 7 (L2 := [some (.ref 33), some (.int (nI x)), some (.ref (eq x)), some (.ref (27 + 2 * (iN m 62 (x / 16)))), some (.int (bI (decide (m 60 (iN m 62 (x / 16)) ≠ 0) && sKept m x))), some (.int (nI (rdA m c mj g x k).2)), some (.int (nI (k + 1))), none]) rfl ?_
            have hnc : ¬ rdC (rdA m c mj g x k).1 x k := fun q => by have z := hrc.mp q; first | exact absurd z.1 (bI_dn.mp (by assumption)) | exact absurd (by assumption) z.2
            have hst := rdA_n hnc
            rw [← hst] at hD ⊢
            exact ih_k (by omega) I2 hD
    exact loop 0 (Nat.zero_le _) I ⟨fun _ _ _ _ _ => rfl, hE.ad (by omega) h69, fun a ha => hE.vl (by omega) h69 ha, fun a ha hb => hE.bs (by omega) h69 ha hb⟩
  refine aw_if_eq (tgt := 31) hC dX2_followDrift_13 (by decide) (fun h5 => ?_) (fun h5 => ?_)
  · show AW X 0 0 31 [some (.ref 33), some (.int (nI x)), some (.ref (eq x)), some (.ref (27 + 2 * (iN m 62 (x / 16)))), none, none, none, none] [] T I J R
    refine aw_iconst (v := 0) hC dX2_followDrift_31 (by decide) ?_
    rw [show (0 : Int32) = bI (decide (m 60 (iN m 62 (x / 16)) ≠ 0) && sKept m x) from by first | (rw [decide_eq_false (not_not_intro (show m 60 (iN m 62 (x / 16)) = 0 by assumption))]; rfl) | (rw [bI_e0.mp (show bI (sKept m x) = 0 by assumption), Bool.and_false]; rfl)]
    exact join32
  · show AW X 0 0 16 [some (.ref 33), some (.int (nI x)), some (.ref (eq x)), some (.ref (27 + 2 * (iN m 62 (x / 16)))), none, none, none, none] [] T I J R
    refine aw_aload_n hC dX2_followDrift_16 rfl ?_
    refine aw_getR hC dX2_followDrift_17 aF_X2_28 rfl (tg_33 hT) (pr_33_3 hR) ?_
    refine aw_iload_n hC dX2_followDrift_20 rfl ?_
    refine kX2_95 hC rfl (m_X4_hasKey (I := I) hT hR hG hg (x := x) (by omega)) dX2_followDrift_21 (tg_19 hT) rfl a_le a_le a_le a_le a_le rfl aPure_x (aPure_k ?_)
    show AW X 0 0 24 [some (.ref 33), some (.int (nI x)), some (.ref (eq x)), some (.ref (27 + 2 * (iN m 62 (x / 16)))), none, none, none, none] [.int (bI (sKept m x))] T I J R
    refine aw_if_eq (tgt := 31) hC dX2_followDrift_24 (by decide) (fun h6 => ?_) (fun h6 => ?_)
    · show AW X 0 0 31 [some (.ref 33), some (.int (nI x)), some (.ref (eq x)), some (.ref (27 + 2 * (iN m 62 (x / 16)))), none, none, none, none] [] T I J R
      refine aw_iconst (v := 0) hC dX2_followDrift_31 (by decide) ?_
      rw [show (0 : Int32) = bI (decide (m 60 (iN m 62 (x / 16)) ≠ 0) && sKept m x) from by first | (rw [decide_eq_false (not_not_intro (show m 60 (iN m 62 (x / 16)) = 0 by assumption))]; rfl) | (rw [bI_e0.mp (show bI (sKept m x) = 0 by assumption), Bool.and_false]; rfl)]
      exact join32
    · show AW X 0 0 27 [some (.ref 33), some (.int (nI x)), some (.ref (eq x)), some (.ref (27 + 2 * (iN m 62 (x / 16)))), none, none, none, none] [] T I J R
      refine aw_iconst (v := 1) hC dX2_followDrift_27 (by decide) ?_
      refine aw_goto (tgt := 32) hC dX2_followDrift_28 (by decide) ?_
      rw [show (1 : Int32) = bI (decide (m 60 (iN m 62 (x / 16)) ≠ 0) && sKept m x) from by rw [decide_eq_true (show m 60 (iN m 62 (x / 16)) ≠ 0 by assumption), bI_n0.mp (show ¬ bI (sKept m x) = 0 by assumption)]; rfl]
      exact join32
