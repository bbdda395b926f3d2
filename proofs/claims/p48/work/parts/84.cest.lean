/-- the estate of the class is that of the ghost -/
def CEst (T : List aT) (I : aI) (R : aR) (m : aI) (g : Nat) (gq eq : Nat → Nat) (r : Nat) : Prop := CGn T I R m g gq ∧ CTy I m ∧ CRs I m r ∧ CEn T I R m eq ∧ I 19 8 = m 44 35 ∧ ∀ x, x < 64 → I 26 x = m 74 x
theorem CEst.gn {T : List aT} {I : aI} {R : aR} {m : aI} {g r : Nat} {gq eq : Nat → Nat} (h : CEst T I R m g gq eq r) : CGn T I R m g gq := h.1
theorem CEst.ty {T : List aT} {I : aI} {R : aR} {m : aI} {g r : Nat} {gq eq : Nat → Nat} (h : CEst T I R m g gq eq r) : CTy I m := h.2.1
theorem CEst.rs {T : List aT} {I : aI} {R : aR} {m : aI} {g r : Nat} {gq eq : Nat → Nat} (h : CEst T I R m g gq eq r) : CRs I m r := h.2.2.1
theorem CEst.en {T : List aT} {I : aI} {R : aR} {m : aI} {g r : Nat} {gq eq : Nat → Nat} (h : CEst T I R m g gq eq r) : CEn T I R m eq := h.2.2.2.1
theorem CEst.sr {T : List aT} {I : aI} {R : aR} {m : aI} {g r : Nat} {gq eq : Nat → Nat} (h : CEst T I R m g gq eq r) : I 19 8 = m 44 35 := h.2.2.2.2.1
theorem CEst.md {T : List aT} {I : aI} {R : aR} {m : aI} {g r : Nat} {gq eq : Nat → Nat} (h : CEst T I R m g gq eq r) {x : Nat} (hx : x < 64) : I 26 x = m 74 x := h.2.2.2.2.2 x hx
/-- what was there is as it was, but entries and what S names -/
def FrI (T : List aT) (S : Nat → Prop) (I I2 : aI) : Prop := ∀ o, o < T.length → ¬ enO T o → ¬ S o → I2 o = I o
def FrR (T : List aT) (S : Nat → Prop) (R R2 : aR) : Prop := ∀ o, o < T.length → ¬ enO T o → ¬ S o → R2 o = R o
/-- the estate, when other rows change -/
theorem CEst.fr {T T2 : List aT} {I I2 : aI} {R R2 : aR} {m : aI} {g r : Nat} {gq eq : Nat → Nat} (h : CEst T I R m g gq eq r) (hT : aPT T) (hp : T <+: T2) (h1 : ∀ o, 19 ≤ o → o ≤ 32 → I2 o = I o) (h2 : ∀ o, o < T.length → enO T o ∨ T[o]? = some (.inr 5) ∨ (∃ q, q < o ∧ o ≤ q + 2 ∧ T[q]? = some (.inr 5)) → I2 o = I o ∧ R2 o = R o) (h3 : R2 21 = R 21) (h4 : R2 25 = R 25) : CEst T2 I2 R2 m g gq eq r := by
  refine ⟨⟨by rw [h1 19 (by decide) (by decide)]; exact h.gn.1, fun i hi => ⟨by rw [h3]; exact h.gn.rf hi, ?_⟩, h.gn.2.2⟩, h.ty.fr (fun o a b => h1 o (by omega) (by omega)), ?_, ⟨fun x hx => ⟨fun h0 => by rw [h4]; exact h.en.no hx h0, fun h0 => ⟨by rw [h4]; exact h.en.rf hx h0, ?_⟩⟩, h.en.2⟩, by rw [h1 19 (by decide) (by decide)]; exact h.sr, fun x hx => by rw [h1 26 (by decide) (by decide)]; exact h.md hx⟩
  · have t0 := h.gn.tg hi
    have q := h.gn.at hi
    have a0 := h2 (gq i) (a_rel_lt t0) (Or.inr (Or.inl t0))
    have a1 := h2 (gq i + 1) (a_rel_lt (h.gn.t1 hi)) (Or.inr (Or.inr ⟨gq i, by omega, by omega, t0⟩))
    have a2 := h2 (gq i + 2) (a_rel_lt (h.gn.t2 hi)) (Or.inr (Or.inr ⟨gq i, by omega, by omega, t0⟩))
    unfold GnAt at *
    rw [a0.1, a0.2, a1.1, a2.1]
    exact ⟨a_pfx hp q.1, q.2.1, a_pfx hp q.2.2.1, q.2.2.2.1, a_pfx hp q.2.2.2.2.1, q.2.2.2.2.2⟩
  · have q := h.rs
    unfold CRs at *
    rw [h1 19 (by decide) (by decide), h1 22 (by decide) (by decide), h1 23 (by decide) (by decide), h1 24 (by decide) (by decide)]
    exact q
  · have e := h.en.eno hx h0
    have q := h.en.at hx h0
    have a0 := h2 (eq x) (a_rel_lt (h.en.tg hx h0)) (Or.inl e.1)
    have a1 := h2 (eq x + 1) (a_rel_lt (h.en.t1 hx h0)) (Or.inl e.2.1)
    have a2 := h2 (eq x + 2) (a_rel_lt (h.en.t2 hx h0)) (Or.inl e.2.2)
    unfold EnAt at *
    rw [a0.1, a0.2, a1.1, a2.1]
    exact ⟨a_pfx hp q.1, q.2.1, a_pfx hp q.2.2.1, q.2.2.2.1, a_pfx hp q.2.2.2.2.1, q.2.2.2.2.2⟩
/-- the rows of the ghost that the estate speaks of -/
theorem CEst.cgm {T : List aT} {I : aI} {R : aR} {m m2 : aI} {g r : Nat} {gq eq : Nat → Nat} (h : CEst T I R m g gq eq r) (h1 : ∀ o, 58 ≤ o → o ≤ 74 → m2 o = m o) (h2 : m2 44 25 = m 44 25) (h3 : m2 44 35 = m 44 35) : CEst T I R m2 g gq eq r := by
  refine ⟨h.gn.cgm (h1 62 (by decide) (by decide)) (h1 63 (by decide) (by decide)) (h1 64 (by decide) (by decide)) (h1 65 (by decide) (by decide)), h.ty.cgm (h1 58 (by decide) (by decide)) (h1 59 (by decide) (by decide)) (h1 60 (by decide) (by decide)) (h1 61 (by decide) (by decide)), ?_, h.en.cgm (h1 69 (by decide) (by decide)) (h1 70 (by decide) (by decide)) (h1 71 (by decide) (by decide)) (h1 72 (by decide) (by decide)) (h1 73 (by decide) (by decide)), by rw [h3]; exact h.sr, fun x hx => by rw [h1 74 (by decide) (by decide)]; exact h.md hx⟩
  have q := h.rs
  unfold CRs at *
  rw [h2, h1 66 (by decide) (by decide), h1 67 (by decide) (by decide), h1 68 (by decide) (by decide)]
  exact q
theorem CEst.tt {T T2 : List aT} {I : aI} {R : aR} {m : aI} {g r : Nat} {gq eq : Nat → Nat} (h : CEst T I R m g gq eq r) (hT : aPT T) (hp : T <+: T2) : CEst T2 I R m g gq eq r := h.fr hT hp (fun _ _ _ => rfl) (fun _ _ _ => ⟨rfl, rfl⟩) rfl rfl
/-- the serial -/
theorem CEst.srl {T : List aT} {I : aI} {R : aR} {m : aI} {g r : Nat} {gq eq : Nat → Nat} {v : Int32} (h : CEst T I R m g gq eq r) (hT : aPT T) : CEst T (a_u I 19 8 v) R (a_u m 44 35 v) g gq eq r := by
  refine ⟨(h.gn.fr hT (fun o ho => a_u_row (by omega)) (by rw [a_u_ne (by decide)])).cgm (a_u_row (by decide)) (a_u_row (by decide)) (a_u_row (by decide)) (a_u_row (by decide)), (h.ty.fr (fun o _ _ => a_u_row (by omega))).cgm (a_u_row (by decide)) (a_u_row (by decide)) (a_u_row (by decide)) (a_u_row (by decide)), ?_, (h.en.fr hT (fun o ho => a_u_row (by omega))).cgm (a_u_row (by decide)) (a_u_row (by decide)) (a_u_row (by decide)) (a_u_row (by decide)) (a_u_row (by decide)), by rw [a_u_self, a_u_self], fun x hx => by rw [a_u_row (by decide), a_u_row (by decide)]; exact h.md hx⟩
  have q := h.rs
  unfold CRs at *
  rw [a_u_ne (by decide), a_u_ne (by decide), a_u_row (by decide), a_u_row (by decide), a_u_row (by decide), a_u_row (by decide), a_u_row (by decide), a_u_row (by decide)]
  exact q
/-- an entry is changed -/
theorem CEst.wd {T : List aT} {I I2 : aI} {R : aR} {m : aI} {mj : aJ} {g r0 x r : Nat} {gq eq : Nat → Nat} {w : Bool} (h : CEst T I R m g gq eq r0) (hT : aPT T) (hx : x < 64) (he : m 69 x ≠ 0) (hW : WdI I I2 m mj x r w (eq x) 3) : CEst T I2 R (chS m mj x r w 3) g gq eq r0 := by
  have h95 := h.en.ge hT hx he
  have lo : ∀ o, o < 44 → o ≠ 23 → I2 o = I o := fun o a b => funext fun p => hW.1 o p b (by omega) (fun q => by omega)
  have en := h.en.eno hx he
  refine ⟨(h.gn.fe hT (by rw [lo 19 (by decide) (by decide)]) (fun o h1 h2 => funext fun p => hW.1 o p (by omega) (fun q => h2 (by rw [q]; exact en.2.1)) (fun q => h2 (by rw [q.1]; exact en.1))) rfl (fun _ _ => rfl)).cgm (chS_o (by decide) (by decide) (by decide)) (chS_o (by decide) (by decide) (by decide)) (chS_o (by decide) (by decide) (by decide)) (chS_o (by decide) (by decide) (by decide)), (h.ty.fr (fun o _ _ => lo o (by omega) (by omega))).cgm (chS_o (by decide) (by decide) (by decide)) (chS_o (by decide) (by decide) (by decide)) (chS_o (by decide) (by decide) (by decide)) (chS_o (by decide) (by decide) (by decide)), ?_, hW.en hT h.en hx he (Nat.le_refl _), by rw [lo 19 (by decide) (by decide), chS_o (by decide) (by decide) (by decide)]; exact h.sr, fun y hy => by rw [lo 26 (by decide) (by decide), chS_o (by decide) (by decide) (by decide)]; exact h.md hy⟩
  obtain ⟨q1, q2, q3, q4, q5⟩ := h.rs
  refine ⟨by rw [lo 19 (by decide) (by decide)]; exact q1, by rw [chS_o (by decide) (by decide) (by decide)]; exact q2, q3, fun j hj => ⟨by rw [lo 22 (by decide) (by decide), chS_o (by decide) (by decide) (by decide)]; exact (q4 j hj).1, by rw [lo 24 (by decide) (by decide), chS_o (by decide) (by decide) (by decide)]; exact (q4 j hj).2.1, fun hg a ha => ?_⟩, by rw [chS_o (by decide) (by decide) (by decide)]; exact q5⟩
  rw [chS_o (by decide) (by decide) (by decide)] at hg
  rw [chS_67]; exact hW.2.2.2 j hj hg a ha
/-- a resource is gone -/
theorem CEst.gone {T : List aT} {I : aI} {R : aR} {m : aI} {g r0 r : Nat} {gq eq : Nat → Nat} (h : CEst T I R m g gq eq r0) (hT : aPT T) (hr : r < r0) : CEst T (a_u I 24 r 1) R (a_u m 68 r 1) g gq eq r0 := by
  refine ⟨(h.gn.fr hT (fun o ho => a_u_row (by omega)) (by rw [a_u_row (by decide)])).cgm (a_u_row (by decide)) (a_u_row (by decide)) (a_u_row (by decide)) (a_u_row (by decide)), (h.ty.fr (fun o _ _ => a_u_row (by omega))).cgm (a_u_row (by decide)) (a_u_row (by decide)) (a_u_row (by decide)) (a_u_row (by decide)), ?_, (h.en.fr hT (fun o ho => a_u_row (by omega))).cgm (a_u_row (by decide)) (a_u_row (by decide)) (a_u_row (by decide)) (a_u_row (by decide)) (a_u_row (by decide)), by rw [a_u_row (by decide), a_u_row (by decide)]; exact h.sr, fun x hx => by rw [a_u_row (by decide), a_u_row (by decide)]; exact h.md hx⟩
  obtain ⟨q1, q2, q3, q4, q5⟩ := h.rs
  refine ⟨by rw [a_u_row (by decide)]; exact q1, by rw [a_u_row (by decide)]; exact q2, q3, fun j hj => ⟨by rw [a_u_row (by decide), a_u_row (by decide)]; exact (q4 j hj).1, ?_, fun hg a ha => ?_⟩, fun j hj hj2 => by rw [a_u_ne (fun z => by omega)]; exact q5 j hj hj2⟩
  · by_cases c : j = r
    · rw [c, a_u_self, a_u_self]
    · rw [a_u_ne (fun z => c z.2), a_u_ne (fun z => c z.2)]; exact (q4 j hj).2.1
  · by_cases c : j = r
    · rw [c, a_u_self] at hg; exact absurd hg (by decide)
    · rw [a_u_ne (fun z => c z.2)] at hg
      rw [a_u_row (by decide), a_u_row (by decide)]; exact (q4 j hj).2.2 hg a ha
theorem CEst.drop {T : List aT} {I : aI} {R : aR} {m : aI} {g r0 x : Nat} {gq eq : Nat → Nat} (h : CEst T I R m g gq eq r0) (hT : aPT T) : CEst T I (a_u R 25 x none) (a_u m 69 x 0) g gq eq r0 := by
  refine ⟨(h.gn.fe hT rfl (fun _ _ _ => rfl) (a_u_row (by decide)) (fun o ho => a_u_row (by omega))).cgm (a_u_row (by decide)) (a_u_row (by decide)) (a_u_row (by decide)) (a_u_row (by decide)), h.ty.cgm (a_u_row (by decide)) (a_u_row (by decide)) (a_u_row (by decide)) (a_u_row (by decide)), ?_, h.en.drop hT, by rw [a_u_row (by decide)]; exact h.sr, fun y hy => by rw [a_u_row (by decide)]; exact h.md hy⟩
  have q := h.rs
  unfold CRs at *
  rw [a_u_row (by decide), a_u_row (by decide), a_u_row (by decide), a_u_row (by decide)]
  exact q
