/-! TELLING, DRAFTING, READING, STEPPING at any ghost -/
theorem ex_ofL {ex : List String} {I : aI} {J : aJ} {m : aI} {Sp : Nat → Int32 → aI → Prop} {F : Int32 → aI → Prop} {T : List aT} (hx : ∀ E ∈ ex, E = exI ∨ E = exA ∨ E = exS) (hm : dyM m) (hS : ∀ v m2, Sp 0 v m2 → ∃ m3, LEq m2 m3 ∧ F v m3 ∧ dyM m3) (hN : ∀ j E, ex[j]? = some E → Sp (j + 1) 0 m → F (xc E) m) : ∀ o T2 I2 J2 R2, T <+: T2 → CP ex I J m 1000 Sp o T2 I2 J2 R2 → EX F o T2 I2 J2 R2 := by
  rintro o T2 I2 J2 R2 - ⟨-, ⟨y, m2, e1, e2, e3⟩ | ⟨j, E, e1, e2, e3, e4⟩⟩
  · obtain ⟨m3, l, a, b⟩ := hS y m2 e2
    exact ⟨y, m3, a, (e3.cgm l).low (by decide) b, Or.inl e1⟩
  · exact ⟨xc E, m, hN j E e1 e3, e4.low (by decide) hm, Or.inr ⟨E, hx E (List.mem_of_getElem? e1), e2, rfl⟩⟩
theorem e_tell {T : List aT} {I : aI} {J : aJ} {R : aR} {m m9 : aI} {x its f a b w9 : Int32} (h : GX T I J R m) (h1 : (0 ≤ x ∧ x ≤ 5) ∧ mCode its f a b (iN m 44 0) = 0) (hv : nI (iN m 44 0) = w9) (hm : mPut m (iN m 44 0) x (-1) its f a b = m9) (hd9 : dyM m9) : MX11_tell 3 200 [.ref 0, .int x, .int its, .int f, .int a, .int b] T I J R (EX (pt w9 m9)) := by
  have hd := h.dy
  obtain ⟨sq, gq, eq, pq, h9⟩ := h.g9
  refine AMet.mono (m_X11_tell h9 x its f a b) (ex_of (by simp) hd (fun y m2 q => ?_) (fun j E9 hj q => ?_))
  · rcases q with ⟨q0, q1, q2, q3⟩ | ⟨q0, q1, q2⟩ | ⟨q0, q1, q2⟩
    · exact ⟨⟨q2.trans hv, q3.trans hm⟩, by rw [q3.trans hm]; exact hd9⟩
    · exact (q0.2 h1.2).elim
    · exact (q0 h1.1).elim
  · rcases q with ⟨q0, q1, q2, q3⟩ | ⟨q0, q1, q2⟩ | ⟨q0, q1, q2⟩
    · exact absurd q1 (by omega)
    · exact (q0.2 h1.2).elim
    · exact (q0 h1.1).elim
theorem x_tell_exI {T : List aT} {I : aI} {J : aJ} {R : aR} {m : aI} {x its f a b : Int32} (h : GX T I J R m) (h1 : ¬ (0 ≤ x ∧ x ≤ 5)) : MX11_tell 3 200 [.ref 0, .int x, .int its, .int f, .int a, .int b] T I J R (EX (pt (-71) m)) := by
  have hd := h.dy
  obtain ⟨sq, gq, eq, pq, h9⟩ := h.g9
  refine AMet.mono (m_X11_tell h9 x its f a b) (ex_of (by simp) hd (fun y m2 q => ?_) (fun j E9 hj q => ?_))
  · rcases q with ⟨q0, q1, q2, q3⟩ | ⟨q0, q1, q2⟩ | ⟨q0, q1, q2⟩
    · exact (h1 q0.1).elim
    · exact (h1 q0.1).elim
    · exact absurd q1 (by omega)
  · rcases q with ⟨q0, q1, q2, q3⟩ | ⟨q0, q1, q2⟩ | ⟨q0, q1, q2⟩
    · exact absurd q1 (by omega)
    · exact (h1 q0.1).elim
    · obtain rfl : j = 0 := by omega
      obtain rfl : exI = E9 := Option.some.inj hj
      exact ⟨xc_I, rfl⟩
theorem x_tell_1 {T : List aT} {I : aI} {J : aJ} {R : aR} {m : aI} {x its f a b : Int32} (h : GX T I J R m) (h1 : (0 ≤ x ∧ x ≤ 5) ∧ mCode its f a b (iN m 44 0) = 1) : MX11_tell 3 200 [.ref 0, .int x, .int its, .int f, .int a, .int b] T I J R (EX (pt (-71) m)) := by
  have hd := h.dy
  obtain ⟨sq, gq, eq, pq, h9⟩ := h.g9
  refine AMet.mono (m_X11_tell h9 x its f a b) (ex_of (by simp) hd (fun y m2 q => ?_) (fun j E9 hj q => ?_))
  · rcases q with ⟨q0, q1, q2, q3⟩ | ⟨q0, q1, q2⟩ | ⟨q0, q1, q2⟩
    · rw [h1.2] at q0; exact absurd q0.2 (by decide)
    · rw [h1.2] at q1; exact absurd q1 (by decide)
    · exact absurd q1 (by omega)
  · rcases q with ⟨q0, q1, q2, q3⟩ | ⟨q0, q1, q2⟩ | ⟨q0, q1, q2⟩
    · exact absurd q1 (by omega)
    · rw [h1.2] at q1
      rcases j with _ | _ | _ | j
      · obtain rfl : exI = E9 := Option.some.inj hj; exact ⟨xc_I, rfl⟩
      · exact absurd q1 (by decide)
      · exact absurd q1 (by decide)
      · cases hj
    · exact (q0 h1.1).elim
theorem x_tell_2 {T : List aT} {I : aI} {J : aJ} {R : aR} {m : aI} {x its f a b : Int32} (h : GX T I J R m) (h1 : (0 ≤ x ∧ x ≤ 5) ∧ mCode its f a b (iN m 44 0) = 2) : MX11_tell 3 200 [.ref 0, .int x, .int its, .int f, .int a, .int b] T I J R (EX (pt (-72) m)) := by
  have hd := h.dy
  obtain ⟨sq, gq, eq, pq, h9⟩ := h.g9
  refine AMet.mono (m_X11_tell h9 x its f a b) (ex_of (by simp) hd (fun y m2 q => ?_) (fun j E9 hj q => ?_))
  · rcases q with ⟨q0, q1, q2, q3⟩ | ⟨q0, q1, q2⟩ | ⟨q0, q1, q2⟩
    · rw [h1.2] at q0; exact absurd q0.2 (by decide)
    · rw [h1.2] at q1; exact absurd q1 (by decide)
    · exact absurd q1 (by omega)
  · rcases q with ⟨q0, q1, q2, q3⟩ | ⟨q0, q1, q2⟩ | ⟨q0, q1, q2⟩
    · exact absurd q1 (by omega)
    · rw [h1.2] at q1
      rcases j with _ | _ | _ | j
      · exact absurd q1 (by decide)
      · obtain rfl : exA = E9 := Option.some.inj hj; exact ⟨xc_A, rfl⟩
      · exact absurd q1 (by decide)
      · cases hj
    · exact (q0 h1.1).elim
theorem x_tell_3 {T : List aT} {I : aI} {J : aJ} {R : aR} {m : aI} {x its f a b : Int32} (h : GX T I J R m) (h1 : (0 ≤ x ∧ x ≤ 5) ∧ mCode its f a b (iN m 44 0) = 3) : MX11_tell 3 200 [.ref 0, .int x, .int its, .int f, .int a, .int b] T I J R (EX (pt (-73) m)) := by
  have hd := h.dy
  obtain ⟨sq, gq, eq, pq, h9⟩ := h.g9
  refine AMet.mono (m_X11_tell h9 x its f a b) (ex_of (by simp) hd (fun y m2 q => ?_) (fun j E9 hj q => ?_))
  · rcases q with ⟨q0, q1, q2, q3⟩ | ⟨q0, q1, q2⟩ | ⟨q0, q1, q2⟩
    · rw [h1.2] at q0; exact absurd q0.2 (by decide)
    · rw [h1.2] at q1; exact absurd q1 (by decide)
    · exact absurd q1 (by omega)
  · rcases q with ⟨q0, q1, q2, q3⟩ | ⟨q0, q1, q2⟩ | ⟨q0, q1, q2⟩
    · exact absurd q1 (by omega)
    · rw [h1.2] at q1
      rcases j with _ | _ | _ | j
      · exact absurd q1 (by decide)
      · exact absurd q1 (by decide)
      · obtain rfl : exS = E9 := Option.some.inj hj; exact ⟨xc_S, rfl⟩
      · cases hj
    · exact (q0 h1.1).elim
theorem e_draft {T : List aT} {I : aI} {J : aJ} {R : aR} {m m9 : aI} {x its f a b w9 : Int32} (h : GX T I J R m) (h1 : (0 ≤ x ∧ x ≤ 2) ∧ mCode its f a b (iN m 44 0) = 0) (hv : nI (iN m 44 0) = w9) (hm : mPut m (iN m 44 0) (-1) x its f a b = m9) (hd9 : dyM m9) : MX11_draft 3 200 [.ref 0, .int x, .int its, .int f, .int a, .int b] T I J R (EX (pt w9 m9)) := by
  have hd := h.dy
  obtain ⟨sq, gq, eq, pq, h9⟩ := h.g9
  refine AMet.mono (m_X11_draft h9 x its f a b) (ex_of (by simp) hd (fun y m2 q => ?_) (fun j E9 hj q => ?_))
  · rcases q with ⟨q0, q1, q2, q3⟩ | ⟨q0, q1, q2⟩ | ⟨q0, q1, q2⟩
    · exact ⟨⟨q2.trans hv, q3.trans hm⟩, by rw [q3.trans hm]; exact hd9⟩
    · exact (q0.2 h1.2).elim
    · exact (q0 h1.1).elim
  · rcases q with ⟨q0, q1, q2, q3⟩ | ⟨q0, q1, q2⟩ | ⟨q0, q1, q2⟩
    · exact absurd q1 (by omega)
    · exact (q0.2 h1.2).elim
    · exact (q0 h1.1).elim
theorem x_draft_exI {T : List aT} {I : aI} {J : aJ} {R : aR} {m : aI} {x its f a b : Int32} (h : GX T I J R m) (h1 : ¬ (0 ≤ x ∧ x ≤ 2)) : MX11_draft 3 200 [.ref 0, .int x, .int its, .int f, .int a, .int b] T I J R (EX (pt (-71) m)) := by
  have hd := h.dy
  obtain ⟨sq, gq, eq, pq, h9⟩ := h.g9
  refine AMet.mono (m_X11_draft h9 x its f a b) (ex_of (by simp) hd (fun y m2 q => ?_) (fun j E9 hj q => ?_))
  · rcases q with ⟨q0, q1, q2, q3⟩ | ⟨q0, q1, q2⟩ | ⟨q0, q1, q2⟩
    · exact (h1 q0.1).elim
    · exact (h1 q0.1).elim
    · exact absurd q1 (by omega)
  · rcases q with ⟨q0, q1, q2, q3⟩ | ⟨q0, q1, q2⟩ | ⟨q0, q1, q2⟩
    · exact absurd q1 (by omega)
    · exact (h1 q0.1).elim
    · obtain rfl : j = 0 := by omega
      obtain rfl : exI = E9 := Option.some.inj hj
      exact ⟨xc_I, rfl⟩
theorem x_draft_1 {T : List aT} {I : aI} {J : aJ} {R : aR} {m : aI} {x its f a b : Int32} (h : GX T I J R m) (h1 : (0 ≤ x ∧ x ≤ 2) ∧ mCode its f a b (iN m 44 0) = 1) : MX11_draft 3 200 [.ref 0, .int x, .int its, .int f, .int a, .int b] T I J R (EX (pt (-71) m)) := by
  have hd := h.dy
  obtain ⟨sq, gq, eq, pq, h9⟩ := h.g9
  refine AMet.mono (m_X11_draft h9 x its f a b) (ex_of (by simp) hd (fun y m2 q => ?_) (fun j E9 hj q => ?_))
  · rcases q with ⟨q0, q1, q2, q3⟩ | ⟨q0, q1, q2⟩ | ⟨q0, q1, q2⟩
    · rw [h1.2] at q0; exact absurd q0.2 (by decide)
    · rw [h1.2] at q1; exact absurd q1 (by decide)
    · exact absurd q1 (by omega)
  · rcases q with ⟨q0, q1, q2, q3⟩ | ⟨q0, q1, q2⟩ | ⟨q0, q1, q2⟩
    · exact absurd q1 (by omega)
    · rw [h1.2] at q1
      rcases j with _ | _ | _ | j
      · obtain rfl : exI = E9 := Option.some.inj hj; exact ⟨xc_I, rfl⟩
      · exact absurd q1 (by decide)
      · exact absurd q1 (by decide)
      · cases hj
    · exact (q0 h1.1).elim
theorem x_draft_2 {T : List aT} {I : aI} {J : aJ} {R : aR} {m : aI} {x its f a b : Int32} (h : GX T I J R m) (h1 : (0 ≤ x ∧ x ≤ 2) ∧ mCode its f a b (iN m 44 0) = 2) : MX11_draft 3 200 [.ref 0, .int x, .int its, .int f, .int a, .int b] T I J R (EX (pt (-72) m)) := by
  have hd := h.dy
  obtain ⟨sq, gq, eq, pq, h9⟩ := h.g9
  refine AMet.mono (m_X11_draft h9 x its f a b) (ex_of (by simp) hd (fun y m2 q => ?_) (fun j E9 hj q => ?_))
  · rcases q with ⟨q0, q1, q2, q3⟩ | ⟨q0, q1, q2⟩ | ⟨q0, q1, q2⟩
    · rw [h1.2] at q0; exact absurd q0.2 (by decide)
    · rw [h1.2] at q1; exact absurd q1 (by decide)
    · exact absurd q1 (by omega)
  · rcases q with ⟨q0, q1, q2, q3⟩ | ⟨q0, q1, q2⟩ | ⟨q0, q1, q2⟩
    · exact absurd q1 (by omega)
    · rw [h1.2] at q1
      rcases j with _ | _ | _ | j
      · exact absurd q1 (by decide)
      · obtain rfl : exA = E9 := Option.some.inj hj; exact ⟨xc_A, rfl⟩
      · exact absurd q1 (by decide)
      · cases hj
    · exact (q0 h1.1).elim
theorem x_draft_3 {T : List aT} {I : aI} {J : aJ} {R : aR} {m : aI} {x its f a b : Int32} (h : GX T I J R m) (h1 : (0 ≤ x ∧ x ≤ 2) ∧ mCode its f a b (iN m 44 0) = 3) : MX11_draft 3 200 [.ref 0, .int x, .int its, .int f, .int a, .int b] T I J R (EX (pt (-73) m)) := by
  have hd := h.dy
  obtain ⟨sq, gq, eq, pq, h9⟩ := h.g9
  refine AMet.mono (m_X11_draft h9 x its f a b) (ex_of (by simp) hd (fun y m2 q => ?_) (fun j E9 hj q => ?_))
  · rcases q with ⟨q0, q1, q2, q3⟩ | ⟨q0, q1, q2⟩ | ⟨q0, q1, q2⟩
    · rw [h1.2] at q0; exact absurd q0.2 (by decide)
    · rw [h1.2] at q1; exact absurd q1 (by decide)
    · exact absurd q1 (by omega)
  · rcases q with ⟨q0, q1, q2, q3⟩ | ⟨q0, q1, q2⟩ | ⟨q0, q1, q2⟩
    · exact absurd q1 (by omega)
    · rw [h1.2] at q1
      rcases j with _ | _ | _ | j
      · exact absurd q1 (by decide)
      · exact absurd q1 (by decide)
      · obtain rfl : exS = E9 := Option.some.inj hj; exact ⟨xc_S, rfl⟩
      · cases hj
    · exact (q0 h1.1).elim
theorem e_read {T : List aT} {I : aI} {J : aJ} {R : aR} {m m9 : aI} {M : aI} {P S : Nat → Int64} {w9 : Int32} (h : GX T I J R m) (h1 : m 44 45 < 0) (hs : SvM m P S M) (hv : nI (100 * (rdN m (M 44 57) (fun _ => S) (iN m 44 20) (16 * iN m 44 20)).2.1 + (rdN m (M 44 57) (fun _ => S) (iN m 44 20) (16 * iN m 44 20)).2.2) = w9) (hm : rdS m (M 44 57) (fun _ => S) (iN m 44 20) = m9) (hd9 : dyM m9) : MX11_read 3 200 [.ref 0] T I J R (EX (pt w9 m9)) := by
  have hd := h.dy
  obtain ⟨sq, gq, eq, pq, h9⟩ := h.g9
  refine AMet.mono (m_X11_read h9) (ex_of (by simp) hd (fun y m2 q => ?_) (fun j E9 hj q => ?_))
  · rcases q with ⟨q0, q1, m0, M2, P2, S2, a1, a2, a3, a4⟩ | ⟨q0, q1, q2⟩
    · obtain ⟨b1, b2, b3, b4⟩ := hs.use h9.bk.1 a1 a2
      rw [b3, b4] at a3 a4
      exact ⟨⟨a3.trans hv, a4.trans hm⟩, by rw [a4.trans hm]; exact hd9⟩
    · exact absurd q1 (by omega)
  · rcases q with ⟨q0, q1, q2⟩ | ⟨q0, q1, q2⟩
    · exact absurd q1 (by omega)
    · exact (q0 h1).elim
theorem x_read_exS {T : List aT} {I : aI} {J : aJ} {R : aR} {m : aI} (h : GX T I J R m) (h1 : ¬ m 44 45 < 0) : MX11_read 3 200 [.ref 0] T I J R (EX (pt (-73) m)) := by
  have hd := h.dy
  obtain ⟨sq, gq, eq, pq, h9⟩ := h.g9
  refine AMet.mono (m_X11_read h9) (ex_of (by simp) hd (fun y m2 q => ?_) (fun j E9 hj q => ?_))
  · rcases q with ⟨q0, q1⟩ | ⟨q0, q1, q2⟩
    · exact (h1 q0).elim
    · exact absurd q1 (by omega)
  · rcases q with ⟨q0, q1, q2⟩ | ⟨q0, q1, q2⟩
    · exact absurd q1 (by omega)
    · obtain rfl : j = 0 := by omega
      obtain rfl : exS = E9 := Option.some.inj hj
      exact ⟨xc_S, rfl⟩
/-- reading, where the solution isn't known -/
theorem c_read {T : List aT} {I : aI} {J : aJ} {R : aR} {m : aI} (h : GX T I J R m) : MX11_read 3 200 [.ref 0] T I J R (EX (fun w m2 => -73 ≤ w ∧ (m2 = m ∨ ∃ c S, m2 = rdS m c S (iN m 44 20)))) := by
  have hd := h.dy
  obtain ⟨sq, gq, eq, pq, h9⟩ := h.g9
  have hg4 := h9.es.1.1.g4
  refine AMet.mono (m_X11_read h9) (ex_of (by simp) hd (fun y m2 q => ?_) (fun j E9 hj q => ?_))
  · rcases q with ⟨q0, q1, m0, M2, P2, S2, a1, a2, a3, a4⟩ | ⟨q0, q1, q2⟩
    · refine ⟨⟨?_, Or.inr ⟨_, _, a4⟩⟩, by rw [a4]; show (rdS _ _ _ _ 44 13).toNatClampNeg ≤ 30000; rw [rdS_4 (by decide)]; exact hd⟩
      have c := rdN_c m (M2 44 57) (fun _ => S2) (iN m 44 20) (16 * iN m 44 20)
      rw [a3, i_le, show (nI (100 * (rdN m (M2 44 57) (fun _ => S2) (iN m 44 20) (16 * iN m 44 20)).2.1 + (rdN m (M2 44 57) (fun _ => S2) (iN m 44 20) (16 * iN m 44 20)).2.2)).toInt = ((100 * (rdN m (M2 44 57) (fun _ => S2) (iN m 44 20) (16 * iN m 44 20)).2.1 + (rdN m (M2 44 57) (fun _ => S2) (iN m 44 20) (16 * iN m 44 20)).2.2 : Nat) : Int) from by rw [nI]; exact Int32.toInt_ofNat_of_lt (by omega), show ((-73 : Int32).toInt) = -73 from rfl]
      omega
    · exact absurd q1 (by omega)
  · rcases q with ⟨q0, q1, q2⟩ | ⟨q0, q1, q2⟩
    · exact absurd q1 (by omega)
    · obtain rfl : j = 0 := by omega
      obtain rfl : exS = E9 := Option.some.inj hj
      exact ⟨by rw [xc_S]; decide, Or.inl rfl⟩
/-- the step that is due -/
abbrev stU (m : aI) : Nat := iN m 44 43
abbrev stA (m : aI) : Nat := iN m 44 44
abbrev stG (m : aI) (c : Int32) (N : Nat → Int32) : aI := a_ur (a_u m 44 57 c) 91 N
theorem stG_o {m : aI} {c : Int32} {N : Nat → Int32} {o : Nat} (z1 : o ≠ 44) (z2 : o ≠ 91) : stG m c N o = m o := by
  show a_ur (a_u m 44 57 c) 91 N o = m o
  rw [a_ur_ne z2, a_u_row z1]
theorem stG_4 {m : aI} {c : Int32} {N : Nat → Int32} {k : Nat} (z : k ≠ 57) : stG m c N 44 k = m 44 k := by
  show a_ur (a_u m 44 57 c) 91 N 44 k = m 44 k
  rw [a_ur_ne (by decide), a_u_ne (fun q => z q.2)]
theorem stG_2 {m : aI} {c : Int32} {N N2 : Nat → Int32} {o : Nat} (z : o ≠ 91) : stG m c N o = stG m c N2 o := by
  show a_ur (a_u m 44 57 c) 91 N o = a_ur (a_u m 44 57 c) 91 N2 o
  rw [a_ur_ne z, a_ur_ne z]
theorem stG_91 {m : aI} {c : Int32} {N : Nat → Int32} (x : Nat) : stG m c N 91 x = N x := by
  show a_ur (a_u m 44 57 c) 91 N 91 x = N x
  rw [a_ur_self]
theorem st_ua {T : List aT} {I : aI} {J : aJ} {R : aR} {m : aI} {c n : Nat} {sq : Nat → Nat} {g : Nat} {gq eq : Nat → Nat} {r p : Nat} {pq : Nat → Nat} {k u a : Nat} (h9 : G9 T I J R m c n sq g gq eq r p pq k) (a3 : m 44 43 = nI u) (a4 : u < p) (a5 : m 44 44 = nI a) (a6 : a < iN m 79 u) : u = stU m ∧ a = stA m ∧ acN m u a < 16 * g ∧ 1 ≤ acW m u a ∧ acW m u a ≤ 4 := by
  have p40 := h9.pl.2.1
  have ok := h9.pl.2.2.1 u a4
  have q := ok.2.1 a a6
  have n79 := h9.pl.2.2.2.1.1 u (by omega)
  refine ⟨?_, ?_, q.1, q.2.1, q.2.2⟩
  · show u = (m 44 43).toNatClampNeg; rw [a3]; exact (nI_clamp (by omega)).symm
  · show a = (m 44 44).toNatClampNeg; rw [a5]; exact (nI_clamp (by omega)).symm
theorem e_step {T : List aT} {I : aI} {J : aJ} {R : aR} {m m9 : aI} {M : aI} {P S : Nat → Int64} {N : Nat → Int32} {w w9 : Int32} (h : GX T I J R m) (h1 : (0 ≤ w ∧ w ≤ 2) ∧ 0 ≤ m 44 43) (hs : SvM m P S M) (hN : ndB (a_u m 44 57 (M 44 57)) (fun _ => S) N (16 * iN m 44 20) = true) (hv : nI (iN m 80 (128 * stU m + stA m)) = w9) (hm : LEq (stS (stG m (M 44 57) N) (fun _ => S) (acN m (stU m) (stA m)) (acW m (stU m) (stA m)) w.toNatClampNeg (iN m 44 25) (stU m) (stA m)) m9) (hd9 : dyM m9) : MX11_step 3 200 [.ref 0, .int w] T I J R (EX (pt w9 m9)) := by
  have hd := h.dy
  obtain ⟨sq, gq, eq, pq, h9⟩ := h.g9
  refine AMet.mono (m_X11_step h9 w) (ex_ofL (by simp) hd (fun y m2 q => ?_) (fun j E9 hj q => ?_))
  · rcases q with ⟨q0, q1, m0, M2, P2, S2, N2, u, a, a1, a2, a3, a4, a5, a6, a7, a8, a9⟩ | ⟨q0, q1, q2⟩ | ⟨q0, q1, q2⟩
    · obtain ⟨b1, b2, b3, b4⟩ := hs.use h9.bk.1 a1 a2
      obtain ⟨eu, ea, hx, -, -⟩ := st_ua h9 a3 a4 a5 a6
      rw [b3, b4] at a7 a9
      have hg := h9.es.1.1
      have hso : ∀ N9, SO3 (stG m (M 44 57) N9) := fun N9 => SO3_cg (stG_o (by decide) (by decide)) hg.so
      have hN2 := ndB_ok hN
      have e := cmp_eq (A := stG m (M 44 57) N) (JA := fun _ => S) (B := stG m (M 44 57) N2) (JB := fun _ => S) (g := iN m 44 20) hg.g4 (hso N) (congrFun (stG_2 (by decide)) 57) rfl (fun o u v => stG_2 (by omega)) (fun x hx => by rw [stG_91]; exact hN2 x hx) (fun x hx => by rw [stG_91]; exact a7 x hx)
      have sx : SX (stG m (M 44 57) N2) (stG m (M 44 57) N) (fun _ => S) (fun _ => S) (iN m 44 20) := ⟨⟨fun o u v => stG_2 (by omega), fun k _ _ _ _ => congrFun (stG_2 (by decide)) k⟩, congrFun (stG_2 (by decide)) 57, rfl, fun y hy => (e y hy).symm, hso N2, hg.g4⟩
      refine ⟨m9, ?_, ⟨?_, rfl⟩, hd9⟩
      · rw [a9]
        have z := sx.sts (x := acN m u a) (wh := acW m u a) (hw := w.toNatClampNeg) (r := iN m 44 25) (p := u) (a := a) hx
        rw [eu, ea] at z ⊢
        exact z.trans hm
      · rw [a8, eu, ea]; exact hv
    · exact absurd q1 (by omega)
    · exact absurd q1 (by omega)
  · rcases q with ⟨q0, q1, q2⟩ | ⟨q0, q1, q2⟩ | ⟨q0, q1, q2⟩
    · exact absurd q1 (by omega)
    · exact (q0.2 h1.2).elim
    · exact (q0 h1.1).elim
theorem x_step_exS {T : List aT} {I : aI} {J : aJ} {R : aR} {m : aI} {w : Int32} (h : GX T I J R m) (h1 : (0 ≤ w ∧ w ≤ 2) ∧ ¬ 0 ≤ m 44 43) : MX11_step 3 200 [.ref 0, .int w] T I J R (EX (pt (-73) m)) := by
  have hd := h.dy
  obtain ⟨sq, gq, eq, pq, h9⟩ := h.g9
  refine AMet.mono (m_X11_step h9 w) (ex_of (by simp) hd (fun y m2 q => ?_) (fun j E9 hj q => ?_))
  · rcases q with ⟨q0, q1⟩ | ⟨q0, q1, q2⟩ | ⟨q0, q1, q2⟩
    · exact (h1.2 q0.2).elim
    · exact absurd q1 (by omega)
    · exact absurd q1 (by omega)
  · rcases q with ⟨q0, q1⟩ | ⟨q0, q1, q2⟩ | ⟨q0, q1, q2⟩
    · exact (h1.2 q0.2).elim
    · obtain rfl : j = 1 := by omega
      obtain rfl : exS = E9 := Option.some.inj hj
      exact ⟨xc_S, rfl⟩
    · exact (q0 h1.1).elim
theorem x_step_exA {T : List aT} {I : aI} {J : aJ} {R : aR} {m : aI} {w : Int32} (h : GX T I J R m) (h1 : ¬ (0 ≤ w ∧ w ≤ 2)) : MX11_step 3 200 [.ref 0, .int w] T I J R (EX (pt (-72) m)) := by
  have hd := h.dy
  obtain ⟨sq, gq, eq, pq, h9⟩ := h.g9
  refine AMet.mono (m_X11_step h9 w) (ex_of (by simp) hd (fun y m2 q => ?_) (fun j E9 hj q => ?_))
  · rcases q with ⟨q0, q1⟩ | ⟨q0, q1, q2⟩ | ⟨q0, q1, q2⟩
    · exact (h1 q0.1).elim
    · exact absurd q1 (by omega)
    · exact absurd q1 (by omega)
  · rcases q with ⟨q0, q1⟩ | ⟨q0, q1, q2⟩ | ⟨q0, q1, q2⟩
    · exact (h1 q0.1).elim
    · exact (h1 q0.1).elim
    · obtain rfl : j = 0 := by omega
      obtain rfl : exA = E9 := Option.some.inj hj
      exact ⟨xc_A, rfl⟩
/-- a step, where the solution isn't known -/
theorem c_step {T : List aT} {I : aI} {J : aJ} {R : aR} {m : aI} {w : Int32} (h : GX T I J R m) (h1 : 0 ≤ w ∧ w ≤ 2) : MX11_step 3 200 [.ref 0, .int w] T I J R (EX (fun y m2 => -73 ≤ y ∧ (0 ≤ m 44 43 → 100 ≤ y) ∧ (m2 = m ∨ ∃ A S x wh r u a, (∀ o, o ≠ 44 → o ≠ 91 → A o = m o) ∧ (∀ k, k ≠ 57 → A 44 k = m 44 k) ∧ m2 = stS A S x wh w.toNatClampNeg r u a))) := by
  have hd := h.dy
  obtain ⟨sq, gq, eq, pq, h9⟩ := h.g9
  refine AMet.mono (m_X11_step h9 w) (ex_of (by simp) hd (fun y m2 q => ?_) (fun j E9 hj q => ?_))
  · rcases q with ⟨q0, q1, m0, M2, P2, S2, N2, u, a, a1, a2, a3, a4, a5, a6, a7, a8, a9⟩ | ⟨q0, q1, q2⟩ | ⟨q0, q1, q2⟩
    · obtain ⟨eu, ea, hx, h1w, h4w⟩ := st_ua h9 a3 a4 a5 a6
      have hy : 100 ≤ y := by
        have hx2 := h9.es.1.1.g4
        have e : iN m 80 (128 * u + a) < 500 := by
          have z1 := h4w
          unfold acW at z1
          omega
        have e1 : 100 ≤ iN m 80 (128 * u + a) := by
          have z1 := h1w
          unfold acW at z1
          omega
        rw [a8, i_le, show (nI (iN m 80 (128 * u + a))).toInt = ((iN m 80 (128 * u + a) : Nat) : Int) from by rw [nI]; exact Int32.toInt_ofNat_of_lt (by omega), show ((100 : Int32).toInt) = 100 from rfl]
        omega
      refine ⟨⟨Int32.le_trans (by decide) hy, fun _ => hy, Or.inr ⟨stG m (M2 44 57) N2, fun _ => S2, acN m u a, acW m u a, iN m 44 25, u, a, fun o z1 z2 => stG_o z1 z2, fun k z => stG_4 z, a9⟩⟩, ?_⟩
      rw [a9]; show (stS _ _ _ _ _ _ _ _ 44 13).toNatClampNeg ≤ 30000
      rw [stS_4e (by decide) (by decide) (by decide) (by decide) (by decide), show a_ur (a_u m 44 57 (M2 44 57)) 91 N2 44 13 = m 44 13 from stG_4 (by decide)]; exact hd
    · exact absurd q1 (by omega)
    · exact absurd q1 (by omega)
  · rcases q with ⟨q0, q1⟩ | ⟨q0, q1, q2⟩ | ⟨q0, q1, q2⟩
    · exact absurd q1.1 (by omega)
    · obtain rfl : j = 1 := by omega
      obtain rfl : exS = E9 := Option.some.inj hj
      exact ⟨by rw [xc_S]; decide, fun z => (q0.2 z).elim, Or.inl rfl⟩
    · exact (q0 h1).elim
