/-! WHAT IS ASKED OF THE STATEMENTS, at any ghost whose solution is known -/
def SvM (m : aI) (P S : Nat → Int64) (M : aI) : Prop := ∃ m0, StEq m0 m ∧ SolR m0 M (iN m 44 0) P S
theorem SvM.use {m M m0 M2 : aI} {P S P2 S2 : Nat → Int64} (h : SvM m P S M) (hS : SW m (iN m 44 0)) (hs : StEq m m0) (ho : SolR m0 M2 (iN m 44 0) P2 S2) : DQ M M2 (iN m 44 0) ∧ P2 = P ∧ S2 = S ∧ M2 44 57 = M 44 57 := by
  obtain ⟨l0, h1, h2⟩ := h
  have h1s := StEq.sym h1
  exact SolR_uniq (SW_cgr hS (fun o u v => h1s.1 o ⟨u, by omega⟩) h1s.2.1) (StEq.trans h1 hs) h2 ho
theorem SvM.cg {m m2 M : aI} {P S : Nat → Int64} (h : SvM m P S M) (e : StEq m m2) : SvM m2 P S M := by
  obtain ⟨l0, h1, h2⟩ := h
  refine ⟨l0, StEq.trans h1 e, ?_⟩
  have q : iN m2 44 0 = iN m 44 0 := by unfold iN; rw [e.2.1]
  rw [q]; exact h2
theorem SvM.mk {m M : aI} {P S : Nat → Int64} (h : SolR m M (iN m 44 0) P S) : SvM m P S M := ⟨m, ⟨fun _ _ => rfl, rfl, rfl⟩, h⟩
theorem SvM.of {m m0 M : aI} {P S : Nat → Int64} (h1 : StEq m m0) (h : SolR m0 M (iN m 44 0) P S) : SvM m P S M := ⟨m0, StEq.sym h1, h⟩
theorem GX.sw {T : List aT} {I : aI} {J : aJ} {R : aR} {m : aI} (h : GX T I J R m) : SW m (iN m 44 0) := by
  obtain ⟨sq, gq, eq, pq, h9⟩ := h.g9; exact h9.bk.1
theorem stV_dq {M M' : aI} {P : Nat → Int64} {n s : Nat} (h : DQ M M' n) (hs : s < n) : stV M' P s = stV M P s := by
  have q := h.2.2.2 s hs
  have h84 := q.1
  have h86 := q.2.2
  have h45 : M' 45 s = M 45 s := congrFun (h.1 45 (by decide)) s
  unfold stV
  by_cases c : M 84 s = 0
  · rw [if_pos c, if_pos (h84.trans c)]
  · rw [if_neg c, if_neg (fun z => c (h84.symm.trans z))]
    by_cases d : M 86 s = 0
    · rw [if_pos d, if_pos (h86.trans d)]
      by_cases e : M 45 s ≤ 6 ∧ ¬ cOn M P s
      · rw [if_pos e, if_pos ⟨by rw [h45]; exact e.1, fun z => e.2 ((h.qcOn hs).mp z)⟩]
      · rw [if_neg e, if_neg (fun z => e ⟨by rw [← h45]; exact z.1, fun y => z.2 ((h.qcOn hs).mpr y)⟩)]
    · rw [if_neg d, if_neg (fun z => d (h86.symm.trans z)), h86]
theorem i_clampN {f : Int32} {n : Nat} (h : 0 ≤ f ∧ f < nI n) (hn : n < 100000) : f.toNatClampNeg < n := by
  obtain ⟨j, h1, rfl⟩ := i_nat h.1 h.2 rfl hn
  rw [nI_clamp (by omega)]; exact h1
theorem e_value {T : List aT} {I : aI} {J : aJ} {R : aR} {m M : aI} {P S : Nat → Int64} {f w9 : Int32} (h : GX T I J R m) (hs : SvM m P S M) (h1 : 0 ≤ f ∧ f ≤ 9) (hv : sVl (M 44 57) S f.toNatClampNeg = w9) : MX11_value 3 200 [.ref 0, .int f] T I J R (EX (pt w9 m)) := by
  have hd := h.dy
  obtain ⟨sq, gq, eq, pq, h9⟩ := h.g9
  refine AMet.mono (m_X11_value h9 f) (ex_of (by simp) hd (fun y m2 q => ?_) (fun j E9 hj q => ?_))
  · rcases q with ⟨q0, q1, ⟨m0, M2, P2, S2, a1, a2, a3⟩, q3⟩ | ⟨q0, q1, q2⟩
    · obtain ⟨b1, b2, b3, b4⟩ := hs.use h9.bk.1 a1 a2
      exact ⟨⟨by rw [a3, b3, b4]; exact hv, q3⟩, by rw [q3]; exact hd⟩
    · exact absurd q1 (by omega)
  · rcases q with ⟨q0, q1, q2, q3⟩ | ⟨q0, q1, q2⟩
    · exact absurd q1 (by omega)
    · exact (q0 h1).elim
theorem x_value_exI {T : List aT} {I : aI} {J : aJ} {R : aR} {m : aI} {f : Int32} (h : GX T I J R m) (h1 : ¬ (0 ≤ f ∧ f ≤ 9)) : MX11_value 3 200 [.ref 0, .int f] T I J R (EX (pt (-71) m)) := by
  have hd := h.dy
  obtain ⟨sq, gq, eq, pq, h9⟩ := h.g9
  refine AMet.mono (m_X11_value h9 f) (ex_of (by simp) hd (fun y m2 q => ?_) (fun j E9 hj q => ?_))
  · rcases q with ⟨q0, q1, q2, q3⟩ | ⟨q0, q1, q2⟩
    · exact (h1 q0).elim
    · exact absurd q1 (by omega)
  · rcases q with ⟨q0, q1, q2, q3⟩ | ⟨q0, q1, q2⟩
    · exact (h1 q0).elim
    · obtain rfl : j = 0 := by omega
      obtain rfl : exI = E9 := Option.some.inj hj
      exact ⟨xc_I, rfl⟩
theorem e_set {T : List aT} {I : aI} {J : aJ} {R : aR} {m M : aI} {P S : Nat → Int64} {f w9 : Int32} (h : GX T I J R m) (hs : SvM m P S M) (h1 : 0 ≤ f ∧ f ≤ 9) (hv : sSum (P f.toNatClampNeg) = w9) : MX11_set 3 200 [.ref 0, .int f] T I J R (EX (pt w9 m)) := by
  have hd := h.dy
  obtain ⟨sq, gq, eq, pq, h9⟩ := h.g9
  refine AMet.mono (m_X11_set h9 f) (ex_of (by simp) hd (fun y m2 q => ?_) (fun j E9 hj q => ?_))
  · rcases q with ⟨q0, q1, ⟨m0, M2, P2, S2, a1, a2, a3⟩, q3⟩ | ⟨q0, q1, q2⟩
    · obtain ⟨b1, b2, b3, b4⟩ := hs.use h9.bk.1 a1 a2
      exact ⟨⟨by rw [a3, b2]; exact hv, q3⟩, by rw [q3]; exact hd⟩
    · exact absurd q1 (by omega)
  · rcases q with ⟨q0, q1, q2, q3⟩ | ⟨q0, q1, q2⟩
    · exact absurd q1 (by omega)
    · exact (q0 h1).elim
theorem x_set_exI {T : List aT} {I : aI} {J : aJ} {R : aR} {m : aI} {f : Int32} (h : GX T I J R m) (h1 : ¬ (0 ≤ f ∧ f ≤ 9)) : MX11_set 3 200 [.ref 0, .int f] T I J R (EX (pt (-71) m)) := by
  have hd := h.dy
  obtain ⟨sq, gq, eq, pq, h9⟩ := h.g9
  refine AMet.mono (m_X11_set h9 f) (ex_of (by simp) hd (fun y m2 q => ?_) (fun j E9 hj q => ?_))
  · rcases q with ⟨q0, q1, q2, q3⟩ | ⟨q0, q1, q2⟩
    · exact (h1 q0).elim
    · exact absurd q1 (by omega)
  · rcases q with ⟨q0, q1, q2, q3⟩ | ⟨q0, q1, q2⟩
    · exact (h1 q0).elim
    · obtain rfl : j = 0 := by omega
      obtain rfl : exI = E9 := Option.some.inj hj
      exact ⟨xc_I, rfl⟩
theorem e_setAnew {T : List aT} {I : aI} {J : aJ} {R : aR} {m M : aI} {P S : Nat → Int64} {f w9 : Int32} (h : GX T I J R m) (hs : SvM m P S M) (h1 : 0 ≤ f ∧ f ≤ 9) (hv : sSum (P f.toNatClampNeg) = w9) : MX11_setAnew 3 200 [.ref 0, .int f] T I J R (EX (pt w9 m)) := by
  have hd := h.dy
  obtain ⟨sq, gq, eq, pq, h9⟩ := h.g9
  refine AMet.mono (m_X11_setAnew h9 f) (ex_of (by simp) hd (fun y m2 q => ?_) (fun j E9 hj q => ?_))
  · rcases q with ⟨q0, q1, ⟨m0, M2, P2, S2, a1, a2, a3⟩, q3⟩ | ⟨q0, q1, q2⟩
    · obtain ⟨b1, b2, b3, b4⟩ := hs.use h9.bk.1 a1 a2
      exact ⟨⟨by rw [a3, b2]; exact hv, q3⟩, by rw [q3]; exact hd⟩
    · exact absurd q1 (by omega)
  · rcases q with ⟨q0, q1, q2, q3⟩ | ⟨q0, q1, q2⟩
    · exact absurd q1 (by omega)
    · exact (q0 h1).elim
theorem x_setAnew_exI {T : List aT} {I : aI} {J : aJ} {R : aR} {m : aI} {f : Int32} (h : GX T I J R m) (h1 : ¬ (0 ≤ f ∧ f ≤ 9)) : MX11_setAnew 3 200 [.ref 0, .int f] T I J R (EX (pt (-71) m)) := by
  have hd := h.dy
  obtain ⟨sq, gq, eq, pq, h9⟩ := h.g9
  refine AMet.mono (m_X11_setAnew h9 f) (ex_of (by simp) hd (fun y m2 q => ?_) (fun j E9 hj q => ?_))
  · rcases q with ⟨q0, q1, q2, q3⟩ | ⟨q0, q1, q2⟩
    · exact (h1 q0).elim
    · exact absurd q1 (by omega)
  · rcases q with ⟨q0, q1, q2, q3⟩ | ⟨q0, q1, q2⟩
    · exact (h1 q0).elim
    · obtain rfl : j = 0 := by omega
      obtain rfl : exI = E9 := Option.some.inj hj
      exact ⟨xc_I, rfl⟩
theorem e_standing {T : List aT} {I : aI} {J : aJ} {R : aR} {m M : aI} {P S : Nat → Int64} {f w9 : Int32} (h : GX T I J R m) (hs : SvM m P S M) (h1 : 0 ≤ f ∧ f < nI (iN m 44 0)) (hv : stV M P f.toNatClampNeg = w9) : MX11_standing 3 200 [.ref 0, .int f] T I J R (EX (pt w9 m)) := by
  have hd := h.dy
  obtain ⟨sq, gq, eq, pq, h9⟩ := h.g9
  refine AMet.mono (m_X11_standing h9 f) (ex_of (by simp) hd (fun y m2 q => ?_) (fun j E9 hj q => ?_))
  · rcases q with ⟨q0, q1, ⟨m0, M2, P2, S2, a1, a2, a3⟩, q3⟩ | ⟨q0, q1, q2⟩
    · obtain ⟨b1, b2, b3, b4⟩ := hs.use h9.bk.1 a1 a2
      exact ⟨⟨by rw [a3, b2, stV_dq b1 (i_clampN h1 (by have := h9.bk.1.1; omega))]; exact hv, q3⟩, by rw [q3]; exact hd⟩
    · exact absurd q1 (by omega)
  · rcases q with ⟨q0, q1, q2, q3⟩ | ⟨q0, q1, q2⟩
    · exact absurd q1 (by omega)
    · exact (q0 h1).elim
theorem x_standing_exI {T : List aT} {I : aI} {J : aJ} {R : aR} {m : aI} {f : Int32} (h : GX T I J R m) (h1 : ¬ (0 ≤ f ∧ f < nI (iN m 44 0))) : MX11_standing 3 200 [.ref 0, .int f] T I J R (EX (pt (-71) m)) := by
  have hd := h.dy
  obtain ⟨sq, gq, eq, pq, h9⟩ := h.g9
  refine AMet.mono (m_X11_standing h9 f) (ex_of (by simp) hd (fun y m2 q => ?_) (fun j E9 hj q => ?_))
  · rcases q with ⟨q0, q1, q2, q3⟩ | ⟨q0, q1, q2⟩
    · exact (h1 q0).elim
    · exact absurd q1 (by omega)
  · rcases q with ⟨q0, q1, q2, q3⟩ | ⟨q0, q1, q2⟩
    · exact (h1 q0).elim
    · obtain rfl : j = 0 := by omega
      obtain rfl : exI = E9 := Option.some.inj hj
      exact ⟨xc_I, rfl⟩
theorem e_proof {T : List aT} {I : aI} {J : aJ} {R : aR} {m M : aI} {P S : Nat → Int64} {f w9 : Int32} (h : GX T I J R m) (hs : SvM m P S M) (h1 : 0 ≤ f ∧ f < nI (iN m 44 14)) (hv : prV m P f.toNatClampNeg = w9) : MX11_proof 3 200 [.ref 0, .int f] T I J R (EX (pt w9 m)) := by
  have hd := h.dy
  obtain ⟨sq, gq, eq, pq, h9⟩ := h.g9
  refine AMet.mono (m_X11_proof h9 f) (ex_of (by simp) hd (fun y m2 q => ?_) (fun j E9 hj q => ?_))
  · rcases q with ⟨q0, q1, ⟨m0, M2, P2, S2, a1, a2, a3⟩, q3⟩ | ⟨q0, q1, q2⟩
    · obtain ⟨b1, b2, b3, b4⟩ := hs.use h9.bk.1 a1 a2
      exact ⟨⟨by rw [a3, b2]; exact hv, q3⟩, by rw [q3]; exact hd⟩
    · exact absurd q1 (by omega)
  · rcases q with ⟨q0, q1, q2, q3⟩ | ⟨q0, q1, q2⟩
    · exact absurd q1 (by omega)
    · exact (q0 h1).elim
theorem x_proof_exI {T : List aT} {I : aI} {J : aJ} {R : aR} {m : aI} {f : Int32} (h : GX T I J R m) (h1 : ¬ (0 ≤ f ∧ f < nI (iN m 44 14))) : MX11_proof 3 200 [.ref 0, .int f] T I J R (EX (pt (-71) m)) := by
  have hd := h.dy
  obtain ⟨sq, gq, eq, pq, h9⟩ := h.g9
  refine AMet.mono (m_X11_proof h9 f) (ex_of (by simp) hd (fun y m2 q => ?_) (fun j E9 hj q => ?_))
  · rcases q with ⟨q0, q1, q2, q3⟩ | ⟨q0, q1, q2⟩
    · exact (h1 q0).elim
    · exact absurd q1 (by omega)
  · rcases q with ⟨q0, q1, q2, q3⟩ | ⟨q0, q1, q2⟩
    · exact (h1 q0).elim
    · obtain rfl : j = 0 := by omega
      obtain rfl : exI = E9 := Option.some.inj hj
      exact ⟨xc_I, rfl⟩
theorem e_tainted {T : List aT} {I : aI} {J : aJ} {R : aR} {m M : aI} {P S : Nat → Int64} {w9 : Int32} (h : GX T I J R m) (hs : SvM m P S M) (ht : TnL M (fun _ => P) (iN m 44 0) w9) : MX11_tainted 3 200 [.ref 0] T I J R (EK (pt w9 m)) := by
  have hd := h.dy
  obtain ⟨sq, gq, eq, pq, h9⟩ := h.g9
  refine AMet.mono (m_X11_tainted h9) (ek0_of (fun y m2 q => ?_))
  · obtain ⟨q0, ⟨m0, M2, P2, S2, a1, a2, a3⟩, q3⟩ := q
    obtain ⟨b1, b2, b3, b4⟩ := hs.use h9.bk.1 a1 a2
    rw [b2] at a3
    exact ⟨⟨b1.tnL ht a3, q3⟩, by rw [q3]; exact hd⟩
theorem e_conflict {T : List aT} {I : aI} {J : aJ} {R : aR} {m M : aI} {P S : Nat → Int64} {w9 : Int32} (h : GX T I J R m) (hs : SvM m P S M) (hv : cfA M P (iN m 44 0) = w9) : MX11_conflict 3 200 [.ref 0] T I J R (EK (pt w9 m)) := by
  have hd := h.dy
  obtain ⟨sq, gq, eq, pq, h9⟩ := h.g9
  refine AMet.mono (m_X11_conflict h9) (ek0_of (fun y m2 q => ?_))
  · obtain ⟨q0, ⟨m0, M2, P2, S2, a1, a2, a3⟩, q3⟩ := q
    obtain ⟨b1, b2, b3, b4⟩ := hs.use h9.bk.1 a1 a2
    rw [b2] at a3
    exact ⟨⟨by rw [a3, b1.qcfA b4]; exact hv, q3⟩, by rw [q3]; exact hd⟩
/-- the same where the solution isn't known yet: there is one -/
theorem c_conflict {T : List aT} {I : aI} {J : aJ} {R : aR} {m : aI} (h : GX T I J R m) : MX11_conflict 3 200 [.ref 0] T I J R (EK (fun w m2 => m2 = m ∧ ∃ P S M, SvM m P S M ∧ w = cfA M P (iN m 44 0))) := by
  have hd := h.dy
  obtain ⟨sq, gq, eq, pq, h9⟩ := h.g9
  refine AMet.mono (m_X11_conflict h9) (ek0_of (fun y m2 q => ?_))
  · obtain ⟨q0, ⟨m0, M2, P2, S2, a1, a2, a3⟩, q3⟩ := q
    exact ⟨⟨q3, P2, S2, M2, SvM.of a1 a2, a3⟩, by rw [q3]; exact hd⟩
theorem e_remove {T : List aT} {I : aI} {J : aJ} {R : aR} {m M : aI} {P S : Nat → Int64} {m9 : aI} {x w9 : Int32} (h : GX T I J R m) (h1 : (0 ≤ x ∧ x < nI (iN m 44 0)) ∧ (m 49 x.toNatClampNeg ≠ -1 ∧ m 52 x.toNatClampNeg = 0)) (hm : a_u m 52 x.toNatClampNeg 1 = m9) (hs : SvM m9 P S M) (hv : nI (cntT (thB M) (iN m 44 0)) = w9) : MX11_remove 3 200 [.ref 0, .int x] T I J R (EX (pt w9 m9)) := by
  have hd := h.dy
  obtain ⟨sq, gq, eq, pq, h9⟩ := h.g9
  have hd2 : dyM m9 := by
    rw [← hm]; show (a_u m 52 x.toNatClampNeg 1 44 13).toNatClampNeg ≤ 30000; rw [a_u_ne (fun z => absurd z.1 (by decide))]; exact hd
  have en : iN m9 44 0 = iN m 44 0 := by
    rw [← hm]; unfold iN; rw [a_u_ne (fun z => absurd z.1 (by decide))]
  refine AMet.mono (m_X11_remove h9 x) (ex_of (by simp) hd (fun y m2 q => ?_) (fun j E9 hj q => ?_))
  · rcases q with ⟨q0, q1, q2, ⟨m0, M2, P2, S2, a1, a2, a3⟩⟩ | ⟨q0, q1, q2⟩
    · have e2 := q2.trans hm
      rw [e2] at a1
      have hS : SW m9 (iN m9 44 0) := by
        rw [en, ← hm]
        exact SW_cg (a_u_ne (fun z => absurd z.1 (by decide))) (a_u_row (by decide)) (a_u_row (by decide)) (a_u_row (by decide)) (a_u_row (by decide)) (a_u_row (by decide)) (a_u_row (by decide)) (a_u_row (by decide)) (a_u_row (by decide)) h9.bk.1
      rw [← en] at a2
      obtain ⟨b1, b2, b3, b4⟩ := hs.use hS a1 a2
      refine ⟨⟨?_, e2⟩, by rw [e2]; exact hd2⟩
      rw [a3, ← hv]
      exact congrArg nI (cntT_cgx (fun s hs => by show decide (M2 84 s ≠ 0) = decide (M 84 s ≠ 0); rw [(b1.2.2.2 s (by rw [en]; exact hs)).1]))
    · exact absurd q1 (by omega)
  · rcases q with ⟨q0, q1, q2⟩ | ⟨q0, q1, q2⟩
    · exact absurd q1 (by omega)
    · exact (q0 h1).elim
/-- the same where the solution isn't known yet -/
theorem c_remove {T : List aT} {I : aI} {J : aJ} {R : aR} {m : aI} {x : Int32} (h : GX T I J R m) (h1 : (0 ≤ x ∧ x < nI (iN m 44 0)) ∧ (m 49 x.toNatClampNeg ≠ -1 ∧ m 52 x.toNatClampNeg = 0)) : MX11_remove 3 200 [.ref 0, .int x] T I J R (EX (fun w m2 => m2 = a_u m 52 x.toNatClampNeg 1 ∧ ∃ c, c ≤ 30 ∧ w = nI c)) := by
  have hd := h.dy
  obtain ⟨sq, gq, eq, pq, h9⟩ := h.g9
  refine AMet.mono (m_X11_remove h9 x) (ex_of (by simp) hd (fun y m2 q => ?_) (fun j E9 hj q => ?_))
  · rcases q with ⟨q0, q1, q2, ⟨m0, M2, P2, S2, a1, a2, a3⟩⟩ | ⟨q0, q1, q2⟩
    · refine ⟨⟨q2, _, ?_, a3⟩, by rw [q2]; show (a_u m 52 x.toNatClampNeg 1 44 13).toNatClampNeg ≤ 30000; rw [a_u_ne (fun z => absurd z.1 (by decide))]; exact hd⟩
      exact Nat.le_trans (cntT_le _ _) h9.bk.1.1
    · exact absurd q1 (by omega)
  · rcases q with ⟨q0, q1, q2⟩ | ⟨q0, q1, q2⟩
    · exact absurd q1 (by omega)
    · exact (q0 h1).elim
theorem x_remove_exI {T : List aT} {I : aI} {J : aJ} {R : aR} {m : aI} {x : Int32} (h : GX T I J R m) (h1 : ¬ ((0 ≤ x ∧ x < nI (iN m 44 0)) ∧ (m 49 x.toNatClampNeg ≠ -1 ∧ m 52 x.toNatClampNeg = 0))) : MX11_remove 3 200 [.ref 0, .int x] T I J R (EX (pt (-71) m)) := by
  have hd := h.dy
  obtain ⟨sq, gq, eq, pq, h9⟩ := h.g9
  refine AMet.mono (m_X11_remove h9 x) (ex_of (by simp) hd (fun y m2 q => ?_) (fun j E9 hj q => ?_))
  · rcases q with ⟨q0, q1, q2⟩ | ⟨q0, q1, q2⟩
    · exact (h1 q0).elim
    · exact absurd q1 (by omega)
  · rcases q with ⟨q0, q1, q2⟩ | ⟨q0, q1, q2⟩
    · exact absurd q1 (by omega)
    · obtain rfl : j = 0 := by omega
      obtain rfl : exI = E9 := Option.some.inj hj
      exact ⟨xc_I, rfl⟩
