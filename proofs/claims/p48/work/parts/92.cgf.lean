theorem Sld.fr {I I2 : aI} {J J2 : aJ} {R R2 : aR} {m : aI} {n : Nat} {sq : Nat → Nat} (h : Sld I J R m n sq) (h8 : I2 8 = I 8) (h11 : I2 11 = I 11) (hs : ∀ s, s < n → I2 (sq s) = I (sq s) ∧ R2 (sq s) = R (sq s)) (hJ : J2 10 = J 10 ∧ J2 13 = J 13) : Sld I2 J2 R2 m n sq := by
  obtain ⟨M, P, S, a1, a2, a3, a4, a5, a6, a7, a8, a9⟩ := h
  refine ⟨M, P, S, a1, fun s hs9 => ?_, fun s hs9 => ?_, hJ.1.trans a4, hJ.2.trans a5, by rw [h8]; exact a6, by rw [h8, h11]; exact a7, by rw [h8]; exact a8, by rw [h8]; exact a9⟩
  · rw [(hs s hs9).1, (hs s hs9).2]; exact a2 s hs9
  · rw [(hs s hs9).1]; exact a3 s hs9
theorem CB.fr {T T2 : List aT} {I I2 : aI} {J J2 : aJ} {R R2 : aR} {m : aI} {n : Nat} {sq : Nat → Nat} (h : CB T I J R m n sq) (hp : T <+: T2) (h1 : ∀ o, o < 19 → I2 o = I o ∧ J2 o = J o) (hs : ∀ s, s < n → I2 (sq s) = I (sq s) ∧ R2 (sq s) = R (sq s)) (h2 : R2 2 = R 2) : CB T2 I2 J2 R2 m n sq := by
  obtain ⟨a1, a2, a3, a4, a5⟩ := h
  refine ⟨⟨by rw [(h1 1 (by decide)).1]; exact a1.1, fun s hs9 => ⟨by rw [h2]; exact a1.rf hs9, ?_⟩, a1.2.2⟩, ?_, ?_, ?_, ?_⟩
  · have q := a1.at hs9
    unfold StAt at *
    rw [(hs s hs9).1]; exact ⟨a_pfx hp q.1, q.2⟩
  · unfold CBk at *
    rw [(h1 3 (by decide)).1, (h1 4 (by decide)).1, (h1 5 (by decide)).1, (h1 6 (by decide)).1, (h1 1 (by decide)).1]; exact a2
  · unfold ZR3 at *
    rw [(h1 10 (by decide)).2, (h1 13 (by decide)).2, (h1 15 (by decide)).2]; exact a3
  · rw [(h1 8 (by decide)).1]; exact a4
  · rw [(h1 8 (by decide)).1]
    exact a5.imp id (fun q => by
      obtain ⟨m0, q1, q2⟩ := q
      exact ⟨m0, q1, q2.fr (h1 8 (by decide)).1 (h1 11 (by decide)).1 hs ⟨(h1 10 (by decide)).2, (h1 13 (by decide)).2⟩⟩)
theorem CPo.fr {I I2 : aI} {J J2 : aJ} {m : aI} {k : Nat} (h : CPo I J m k) (h0 : I2 0 7 = I 0 7) (h41 : I2 41 = I 41) (h42 : J2 42 = J 42) : CPo I2 J2 m k := by
  unfold CPo at *; rw [h0, h41, h42]; exact h
theorem CPl.fr {T T2 : List aT} {I I2 : aI} {R R2 : aR} {m : aI} {p : Nat} {pq : Nat → Nat} (h : CPl T I R m p pq) (hp : T <+: T2) (h0 : I2 0 9 = I 0 9) (hd : ∀ i, i < p → I2 (pq i) = I (pq i) ∧ I2 (pq i + 1) = I (pq i + 1) ∧ R2 (pq i) = R (pq i)) (h43 : R2 43 = R 43) : CPl T2 I2 R2 m p pq := ⟨h0.trans h.1, fun i hi => by
  have q := h.2 i hi
  have d := hd i hi
  rw [h43, d.1, d.2.1, d.2.2]
  exact ⟨q.1, a_pfx hp q.2.1, q.2.2.1, a_pfx hp q.2.2.2.1, q.2.2.2.2⟩⟩
theorem CAp.fr {I I2 : aI} {R R2 : aR} {m : aI} {pq : Nat → Nat} (h : CAp I R m pq) (hI : ∀ o, 38 ≤ o → o ≤ 40 → I2 o = I o) (hR : R2 38 = R 38) : CAp I2 R2 m pq := by
  unfold CAp at *
  rw [hI 38 (by decide) (by decide), hI 39 (by decide) (by decide), hI 40 (by decide) (by decide), hR]; exact h
/-- the things of statements and of plans are not entries', and not in the way of others -/
theorem CB.sq {T : List aT} {I : aI} {J : aJ} {R : aR} {m : aI} {n s : Nat} {sq : Nat → Nat} (h : CB T I J R m n sq) (hT : aPT T) (hs : s < n) : sq s < T.length ∧ ¬ enO T (sq s) ∧ 44 ≤ sq s := ⟨a_rel_lt (h.1.at hs).1, enO_ob (h.1.at hs).1 (by decide), h.1.ge hT hs⟩
theorem CPl.pq {T : List aT} {I : aI} {R : aR} {m : aI} {p i : Nat} {pq : Nat → Nat} (h : CPl T I R m p pq) (hT : aPT T) (hi : i < p) : (pq i < T.length ∧ ¬ enO T (pq i) ∧ 44 ≤ pq i) ∧ pq i + 1 < T.length ∧ ¬ enO T (pq i + 1) := by
  have q := h.2 i hi
  exact ⟨⟨a_rel_lt q.2.1, enO_ob q.2.1 (by decide), a_ge hT q.2.1 a_tags_6⟩, a_rel_lt q.2.2.2.1, enO_ar q.2.1 (by decide) q.2.2.2.1⟩
/-- statements, policies, plans: when the estate changes -/
theorem G9.rest {T T2 : List aT} {I I2 : aI} {J J2 : aJ} {R R2 : aR} {m : aI} {c n : Nat} {sq : Nat → Nat} {g : Nat} {gq eq : Nat → Nat} {r p : Nat} {pq : Nat → Nat} {k : Nat} (h : G9 T I J R m c n sq g gq eq r p pq k) (hp : T <+: T2) {S : Nat → Prop} (hI : FrI T S I I2) (hJ : ∀ o, o < 44 → J2 o = J o) (hR : FrR T S R R2) (hS : ∀ o, S o → (19 ≤ o ∧ o ≤ 40) ∨ (44 ≤ o ∧ (∃ q a, a < 3 ∧ o = q + a ∧ T[q]? = some (.inr 5) ∧ (1 ≤ a → ∃ t, T[q + 1]? = some (.inl t)) ∧ (2 ≤ a → ∃ t, T[q + 2]? = some (.inl t))))) : CB T2 I2 J2 R2 m n sq ∧ CPo I2 J2 m k ∧ CPl T2 I2 R2 m p pq := by
  have hT := h.hT
  have h95 := hT.len
  have lo : ∀ o, o < 19 ∨ o = 41 ∨ o = 43 → I2 o = I o ∧ R2 o = R o := fun o u => ⟨hI o (by omega) (enO_lo hT (by omega)) (fun z => by rcases hS o z with z | z <;> omega), hR o (by omega) (enO_lo hT (by omega)) (fun z => by rcases hS o z with z | z <;> omega)⟩
  have ob : ∀ o cl, T[o]? = some (.inr cl) → cl ≠ 5 → 44 ≤ o → ¬ S o := fun o cl u v w z => by
    rcases hS o z with z | z
    · omega
    · obtain ⟨_, q, a, a3, e, t5, t1, t2⟩ := z
      rcases (show a = 0 ∨ a = 1 ∨ a = 2 by omega) with a0 | a0 | a0
      · rw [e, a0, Nat.add_zero, t5] at u; cases u; exact v rfl
      · obtain ⟨t, ht⟩ := t1 (by omega)
        rw [e, a0, ht] at u; cases u
      · obtain ⟨t, ht⟩ := t2 (by omega)
        rw [e, a0, ht] at u; cases u
  have ar : ∀ o, T[o]? = some (.inr 6) → (∃ t, T[o + 1]? = some (.inl t)) → 44 ≤ o → ¬ S (o + 1) := fun o u v w z => by
    obtain ⟨t9, v⟩ := v
    rcases hS (o + 1) z with z | z
    · omega
    · obtain ⟨_, q, a, a3, e, t5, t1, t2⟩ := z
      rcases (show a = 0 ∨ a = 1 ∨ a = 2 by omega) with a0 | a0 | a0
      · rw [e, a0, Nat.add_zero, t5] at v; cases v
      · have e9 : o = q := by omega
        rw [e9, t5] at u; cases u
      · obtain ⟨t, ht⟩ := t1 (by omega)
        have e9 : o = q + 1 := by omega
        rw [e9, ht] at u; cases u
  refine ⟨h.cb.fr hp (fun o u => ⟨(lo o (Or.inl u)).1, hJ o (by omega)⟩) (fun s hs => ?_) (lo 2 (by decide)).2, h.cpo.fr (by rw [(lo 0 (by decide)).1]) (lo 41 (by decide)).1 (hJ 42 (by decide)), h.cpl.fr hp (by rw [(lo 0 (by decide)).1]) (fun i hi => ?_) (lo 43 (by decide)).2⟩
  · have q := h.cb.sq hT hs
    have n1 := ob _ _ (h.cb.1.at hs).1 (by decide) q.2.2
    exact ⟨hI _ q.1 q.2.1 n1, hR _ q.1 q.2.1 n1⟩
  · have q := h.cpl.pq hT hi
    have t := h.cpl.2 i hi
    have n1 := ob _ _ t.2.1 (by decide) q.1.2.2
    have n2 := ar _ t.2.1 ⟨_, t.2.2.2.1⟩ q.1.2.2
    exact ⟨hI _ q.1.1 q.1.2.1 n1, hI _ q.2.1 q.2.2 n2, hR _ q.1.1 q.1.2.1 n1⟩
/-- when nothing of the class changes -/
theorem G9.fr {T T2 : List aT} {I I2 : aI} {J J2 : aJ} {R R2 : aR} {m : aI} {c n : Nat} {sq : Nat → Nat} {g : Nat} {gq eq : Nat → Nat} {r p : Nat} {pq : Nat → Nat} {k : Nat} (h : G9 T I J R m c n sq g gq eq r p pq k) (hp : T <+: T2) (hI : ∀ o, o < T.length → o < 44 ∨ 44 ≤ o → I2 o = I o) (hJ : ∀ o, o < 44 → J2 o = J o) (hR : ∀ o, o < T.length → o < 44 ∨ 44 ≤ o → R2 o = R o) (hR2 : aPR R2) : G9 T2 I2 J2 R2 m c n sq g gq eq r p pq k := by
  have hT := h.hT
  have h95 := hT.len
  have lo : ∀ o, o < 44 → I2 o = I o ∧ R2 o = R o := fun o u => ⟨hI o (by omega) (Or.inl u), hR o (by omega) (Or.inl u)⟩
  refine ⟨hT.next hp, hR2, h.2.2.1, h.cb.fr hp (fun o u => ⟨(lo o (by omega)).1, hJ o (by omega)⟩) (fun s hs => ?_) (lo 2 (by decide)).2, h.cpo.fr (by rw [(lo 0 (by decide)).1]) (lo 41 (by decide)).1 (hJ 42 (by decide)), h.ces.fr hT hp (fun o u v => (lo o (by omega)).1) (fun o u v => ?_) (lo 21 (by decide)).2 (lo 25 (by decide)).2, h.cpl.fr hp (by rw [(lo 0 (by decide)).1]) (fun i hi => ?_) (lo 43 (by decide)).2, h.cpi, h.cap.fr (fun o u v => (lo o (by omega)).1) (lo 38 (by decide)).2⟩
  · have q := h.cb.sq hT hs
    exact ⟨hI _ q.1 (Or.inr q.2.2), hR _ q.1 (Or.inr q.2.2)⟩
  · have h9 : 44 ≤ o := by
      rcases v with v | v | v
      · exact Nat.le_of_not_lt (fun z => enO_lo hT z v)
      · exact a_ge hT v a_tags_5
      · obtain ⟨q, u1, u2, u3⟩ := v
        have := a_ge hT u3 a_tags_5; omega
    exact ⟨hI o u (Or.inr h9), hR o u (Or.inr h9)⟩
  · have q := h.cpl.pq hT hi
    exact ⟨hI _ q.1.1 (Or.inr q.1.2.2), hI _ q.2.1 (Or.inr (by omega)), hR _ q.1.1 (Or.inr q.1.2.2)⟩
theorem GI.fr {T T2 : List aT} {I I2 : aI} {J J2 : aJ} {R R2 : aR} {m : aI} {c : Nat} (h : GI T I J R m c) (hp : T <+: T2) (hI : ∀ o, o < T.length → o < 44 ∨ 44 ≤ o → I2 o = I o) (hJ : ∀ o, o < 44 → J2 o = J o) (hR : ∀ o, o < T.length → o < 44 ∨ 44 ≤ o → R2 o = R o) (hR2 : aPR R2) : GI T2 I2 J2 R2 m c := by
  obtain ⟨n, sq, g, gq, eq, r, p, pq, k, h⟩ := h
  exact ⟨n, sq, g, gq, eq, r, p, pq, k, h.fr hp hI hJ hR hR2⟩
/-- what a public method of the class leaves: k = 0, or the number of what it throws -/
abbrev MFr (I I2 : aI) (J J2 : aJ) : Prop := ∀ o, 44 ≤ o → o < 44 → I2 o = I o ∧ J2 o = J o
def CP (ex : List String) (I : aI) (J : aJ) (m : aI) (c : Nat) (Sp : Nat → Int32 → aI → Prop) : aP := fun o T2 I2 J2 R2 => MFr I I2 J J2 ∧ ((∃ v m2, o = .inl (some (.int v)) ∧ Sp 0 v m2 ∧ GI T2 I2 J2 R2 m2 (c + 1)) ∨ (∃ j E, ex[j]? = some E ∧ o = .inr E ∧ Sp (j + 1) 0 m ∧ GI T2 I2 J2 R2 m (c + 1)))
