/-! EACH CALL AT ANY GHOST -/
theorem e_isLocked {T : List aT} {I : aI} {J : aJ} {R : aR} {m : aI} {w9 : Int32} (h : GX T I J R m)   (hv : bI (decide (0 ≤ m 44 45)) = w9) : MX11_isLocked 3 200 [.ref 0] T I J R (EK (pt w9 m)) := by
  have hd := h.dy
  have hm : m = m := rfl
  have hdm := h.dy
  obtain ⟨sq, gq, eq, pq, h9⟩ := h.g9
  refine AMet.mono (m_X11_isLocked h9  ) (ek0_of (fun y m2 q => ?_))
  · obtain ⟨q0, q1, q2⟩ := q
    exact ⟨⟨q1.trans hv, q2.trans hm⟩, by rw [q2.trans hm]; exact hd⟩
theorem e_serial {T : List aT} {I : aI} {J : aJ} {R : aR} {m : aI} {w9 : Int32} (h : GX T I J R m)   (hv : m 44 35 = w9) : MX11_serial 3 200 [.ref 0] T I J R (EK (pt w9 m)) := by
  have hd := h.dy
  have hm : m = m := rfl
  have hdm := h.dy
  obtain ⟨sq, gq, eq, pq, h9⟩ := h.g9
  refine AMet.mono (m_X11_serial h9  ) (ek0_of (fun y m2 q => ?_))
  · obtain ⟨q0, q1, q2⟩ := q
    exact ⟨⟨q1.trans hv, q2.trans hm⟩, by rw [q2.trans hm]; exact hd⟩
theorem e_resources {T : List aT} {I : aI} {J : aJ} {R : aR} {m : aI} {w9 : Int32} (h : GX T I J R m)   (hv : m 44 25 = w9) : MX11_resources 3 200 [.ref 0] T I J R (EK (pt w9 m)) := by
  have hd := h.dy
  have hm : m = m := rfl
  have hdm := h.dy
  obtain ⟨sq, gq, eq, pq, h9⟩ := h.g9
  refine AMet.mono (m_X11_resources h9  ) (ek0_of (fun y m2 q => ?_))
  · obtain ⟨q0, q1, q2⟩ := q
    exact ⟨⟨q1.trans hv, q2.trans hm⟩, by rw [q2.trans hm]; exact hd⟩
theorem e_setLayer {T : List aT} {I : aI} {J : aJ} {R : aR} {m m9 : aI} {f l9 : Int32} {w9 : Int32} (h : GX T I J R m)  (h1 : ¬ (¬ ((0 ≤ f ∧ f ≤ 5) ∧ (0 ≤ l9 ∧ l9 ≤ 3)))) (hv : m 54 f.toNatClampNeg = w9) (hm : a_u m 54 f.toNatClampNeg l9 = m9) (hd : dyM m9) : MX11_setLayer 3 200 [.ref 0, .int f, .int l9] T I J R (EX (pt w9 m9)) := by
  have hdm := h.dy
  obtain ⟨sq, gq, eq, pq, h9⟩ := h.g9
  refine AMet.mono (m_X11_setLayer h9 f l9 ) (ex_of (by simp) hdm (fun y m2 q => ?_) (fun j E9 hj q => ?_))
  · rcases q with ⟨q0, q1, q2, q3⟩ | ⟨q0, q1, q2⟩
    · exact ⟨⟨q2.trans hv, q3.trans hm⟩, by rw [q3.trans hm]; exact hd⟩
    · exact absurd q1 (by omega)
  · rcases q with ⟨q0, q1, q2, q3⟩ | ⟨q0, q1, q2⟩
    · exact absurd q1 (by omega)
    · exact (h1 q0).elim
theorem x_setLayer_exI {T : List aT} {I : aI} {J : aJ} {R : aR} {m : aI} {f l9 : Int32} (h : GX T I J R m)  (h0 : ¬ (((0 ≤ f ∧ f ≤ 5) ∧ (0 ≤ l9 ∧ l9 ≤ 3)))) : MX11_setLayer 3 200 [.ref 0, .int f, .int l9] T I J R (EX (pt (-71) m)) := by
  have hdm := h.dy
  obtain ⟨sq, gq, eq, pq, h9⟩ := h.g9
  refine AMet.mono (m_X11_setLayer h9 f l9 ) (ex_of (by simp) hdm (fun y m2 q => ?_) (fun j E9 hj q => ?_))
  · rcases q with ⟨q0, q1, q2, q3⟩ | ⟨q0, q1, q2⟩
    · exact (h0 q0).elim
    · exact absurd q1 (by omega)
  · rcases q with ⟨q0, q1, q2, q3⟩ | ⟨q0, q1, q2⟩
    · exact absurd q1 (by omega)
    · obtain rfl : j = 0 := by omega
      obtain rfl : exI = E9 := Option.some.inj hj
      exact ⟨xc_I, rfl⟩
theorem e_isApplying {T : List aT} {I : aI} {J : aJ} {R : aR} {m : aI} {w9 : Int32} (h : GX T I J R m)   (hv : bI (decide (0 ≤ m 44 43)) = w9) : MX11_isApplying 3 200 [.ref 0] T I J R (EK (pt w9 m)) := by
  have hd := h.dy
  have hm : m = m := rfl
  have hdm := h.dy
  obtain ⟨sq, gq, eq, pq, h9⟩ := h.g9
  refine AMet.mono (m_X11_isApplying h9  ) (ek0_of (fun y m2 q => ?_))
  · obtain ⟨q0, q1, q2⟩ := q
    exact ⟨⟨q1.trans hv, q2.trans hm⟩, by rw [q2.trans hm]; exact hd⟩
theorem e_entry {T : List aT} {I : aI} {J : aJ} {R : aR} {m : aI} {x : Int32} {w9 : Int32} (h : GX T I J R m)  (h1 : ¬ (¬ (0 ≤ x ∧ x < nI (16 * (iN m 44 20))))) (hv : (if m 69 x.toNatClampNeg = 0 then -1 else 100 * (m 69 x.toNatClampNeg - 1) + 10 * m 72 x.toNatClampNeg + (if m 71 x.toNatClampNeg = 0 then 0 else 1)) = w9) : MX11_entry 3 200 [.ref 0, .int x] T I J R (EX (pt w9 m)) := by
  have hd := h.dy
  have hm : m = m := rfl
  have hdm := h.dy
  obtain ⟨sq, gq, eq, pq, h9⟩ := h.g9
  refine AMet.mono (m_X11_entry h9 x ) (ex_of (by simp) hdm (fun y m2 q => ?_) (fun j E9 hj q => ?_))
  · rcases q with ⟨q0, q1, q2, q3⟩ | ⟨q0, q1, q2⟩
    · exact ⟨⟨q2.trans hv, q3.trans hm⟩, by rw [q3.trans hm]; exact hd⟩
    · exact absurd q1 (by omega)
  · rcases q with ⟨q0, q1, q2, q3⟩ | ⟨q0, q1, q2⟩
    · exact absurd q1 (by omega)
    · exact (h1 q0).elim
theorem x_entry_exI {T : List aT} {I : aI} {J : aJ} {R : aR} {m : aI} {x : Int32} (h : GX T I J R m)  (h0 : ¬ ((0 ≤ x ∧ x < nI (16 * (iN m 44 20))))) : MX11_entry 3 200 [.ref 0, .int x] T I J R (EX (pt (-71) m)) := by
  have hdm := h.dy
  obtain ⟨sq, gq, eq, pq, h9⟩ := h.g9
  refine AMet.mono (m_X11_entry h9 x ) (ex_of (by simp) hdm (fun y m2 q => ?_) (fun j E9 hj q => ?_))
  · rcases q with ⟨q0, q1, q2, q3⟩ | ⟨q0, q1, q2⟩
    · exact (h0 q0).elim
    · exact absurd q1 (by omega)
  · rcases q with ⟨q0, q1, q2, q3⟩ | ⟨q0, q1, q2⟩
    · exact absurd q1 (by omega)
    · obtain rfl : j = 0 := by omega
      obtain rfl : exI = E9 := Option.some.inj hj
      exact ⟨xc_I, rfl⟩
theorem e_stored {T : List aT} {I : aI} {J : aJ} {R : aR} {m : aI} {x a : Int32} {w9 : Int32} (h : GX T I J R m)  (h1 : ¬ (¬ ((0 ≤ x ∧ x < nI (16 * (iN m 44 20))) ∧ m 69 x.toNatClampNeg ≠ 0 ∧ (0 ≤ a ∧ a ≤ 2)))) (hv : m 70 (3 * x + a).toNatClampNeg = w9) : MX11_stored 3 200 [.ref 0, .int x, .int a] T I J R (EX (pt w9 m)) := by
  have hd := h.dy
  have hm : m = m := rfl
  have hdm := h.dy
  obtain ⟨sq, gq, eq, pq, h9⟩ := h.g9
  refine AMet.mono (m_X11_stored h9 x a ) (ex_of (by simp) hdm (fun y m2 q => ?_) (fun j E9 hj q => ?_))
  · rcases q with ⟨q0, q1, q2, q3⟩ | ⟨q0, q1, q2⟩
    · exact ⟨⟨q2.trans hv, q3.trans hm⟩, by rw [q3.trans hm]; exact hd⟩
    · exact absurd q1 (by omega)
  · rcases q with ⟨q0, q1, q2, q3⟩ | ⟨q0, q1, q2⟩
    · exact absurd q1 (by omega)
    · exact (h1 q0).elim
theorem x_stored_exI {T : List aT} {I : aI} {J : aJ} {R : aR} {m : aI} {x a : Int32} (h : GX T I J R m)  (h0 : ¬ (((0 ≤ x ∧ x < nI (16 * (iN m 44 20))) ∧ m 69 x.toNatClampNeg ≠ 0 ∧ (0 ≤ a ∧ a ≤ 2)))) : MX11_stored 3 200 [.ref 0, .int x, .int a] T I J R (EX (pt (-71) m)) := by
  have hdm := h.dy
  obtain ⟨sq, gq, eq, pq, h9⟩ := h.g9
  refine AMet.mono (m_X11_stored h9 x a ) (ex_of (by simp) hdm (fun y m2 q => ?_) (fun j E9 hj q => ?_))
  · rcases q with ⟨q0, q1, q2, q3⟩ | ⟨q0, q1, q2⟩
    · exact (h0 q0).elim
    · exact absurd q1 (by omega)
  · rcases q with ⟨q0, q1, q2, q3⟩ | ⟨q0, q1, q2⟩
    · exact absurd q1 (by omega)
    · obtain rfl : j = 0 := by omega
      obtain rfl : exI = E9 := Option.some.inj hj
      exact ⟨xc_I, rfl⟩
theorem e_real {T : List aT} {I : aI} {J : aJ} {R : aR} {m : aI} {x a : Int32} {w9 : Int32} (h : GX T I J R m)  (h1 : ¬ (¬ ((0 ≤ x ∧ x < nI (iN m 44 25)) ∧ (0 ≤ a ∧ a ≤ 2)))) (hv : (if m 68 x.toNatClampNeg = 0 then m 67 (3 * x + a).toNatClampNeg else -1) = w9) : MX11_real 3 200 [.ref 0, .int x, .int a] T I J R (EX (pt w9 m)) := by
  have hd := h.dy
  have hm : m = m := rfl
  have hdm := h.dy
  obtain ⟨sq, gq, eq, pq, h9⟩ := h.g9
  refine AMet.mono (m_X11_real h9 x a ) (ex_of (by simp) hdm (fun y m2 q => ?_) (fun j E9 hj q => ?_))
  · rcases q with ⟨q0, q1, q2, q3⟩ | ⟨q0, q1, q2⟩
    · exact ⟨⟨q2.trans hv, q3.trans hm⟩, by rw [q3.trans hm]; exact hd⟩
    · exact absurd q1 (by omega)
  · rcases q with ⟨q0, q1, q2, q3⟩ | ⟨q0, q1, q2⟩
    · exact absurd q1 (by omega)
    · exact (h1 q0).elim
theorem x_real_exI {T : List aT} {I : aI} {J : aJ} {R : aR} {m : aI} {x a : Int32} (h : GX T I J R m)  (h0 : ¬ (((0 ≤ x ∧ x < nI (iN m 44 25)) ∧ (0 ≤ a ∧ a ≤ 2)))) : MX11_real 3 200 [.ref 0, .int x, .int a] T I J R (EX (pt (-71) m)) := by
  have hdm := h.dy
  obtain ⟨sq, gq, eq, pq, h9⟩ := h.g9
  refine AMet.mono (m_X11_real h9 x a ) (ex_of (by simp) hdm (fun y m2 q => ?_) (fun j E9 hj q => ?_))
  · rcases q with ⟨q0, q1, q2, q3⟩ | ⟨q0, q1, q2⟩
    · exact (h0 q0).elim
    · exact absurd q1 (by omega)
  · rcases q with ⟨q0, q1, q2, q3⟩ | ⟨q0, q1, q2⟩
    · exact absurd q1 (by omega)
    · obtain rfl : j = 0 := by omega
      obtain rfl : exI = E9 := Option.some.inj hj
      exact ⟨xc_I, rfl⟩
theorem e_lock {T : List aT} {I : aI} {J : aJ} {R : aR} {m m9 : aI} {f l9 : Int32} {w9 : Int32} (h : GX T I J R m)  (h1 : ¬ (¬ ((0 ≤ f ∧ f ≤ 9) ∧ (-1 ≤ l9 ∧ l9 ≤ 3)))) (hv : m 55 f.toNatClampNeg - 1 = w9) (hm : a_u m 55 f.toNatClampNeg (l9 + 1) = m9) (hd : dyM m9) : MX11_lock 3 200 [.ref 0, .int f, .int l9] T I J R (EX (pt w9 m9)) := by
  have hdm := h.dy
  obtain ⟨sq, gq, eq, pq, h9⟩ := h.g9
  refine AMet.mono (m_X11_lock h9 f l9 ) (ex_of (by simp) hdm (fun y m2 q => ?_) (fun j E9 hj q => ?_))
  · rcases q with ⟨q0, q1, q2, q3⟩ | ⟨q0, q1, q2⟩
    · exact ⟨⟨q2.trans hv, q3.trans hm⟩, by rw [q3.trans hm]; exact hd⟩
    · exact absurd q1 (by omega)
  · rcases q with ⟨q0, q1, q2, q3⟩ | ⟨q0, q1, q2⟩
    · exact absurd q1 (by omega)
    · exact (h1 q0).elim
theorem x_lock_exI {T : List aT} {I : aI} {J : aJ} {R : aR} {m : aI} {f l9 : Int32} (h : GX T I J R m)  (h0 : ¬ (((0 ≤ f ∧ f ≤ 9) ∧ (-1 ≤ l9 ∧ l9 ≤ 3)))) : MX11_lock 3 200 [.ref 0, .int f, .int l9] T I J R (EX (pt (-71) m)) := by
  have hdm := h.dy
  obtain ⟨sq, gq, eq, pq, h9⟩ := h.g9
  refine AMet.mono (m_X11_lock h9 f l9 ) (ex_of (by simp) hdm (fun y m2 q => ?_) (fun j E9 hj q => ?_))
  · rcases q with ⟨q0, q1, q2, q3⟩ | ⟨q0, q1, q2⟩
    · exact (h0 q0).elim
    · exact absurd q1 (by omega)
  · rcases q with ⟨q0, q1, q2, q3⟩ | ⟨q0, q1, q2⟩
    · exact absurd q1 (by omega)
    · obtain rfl : j = 0 := by omega
      obtain rfl : exI = E9 := Option.some.inj hj
      exact ⟨xc_I, rfl⟩
theorem e_except {T : List aT} {I : aI} {J : aJ} {R : aR} {m m9 : aI} {f l9 d : Int32} {w9 : Int32} (h : GX T I J R m)  (h1 : ¬ (((0 ≤ f ∧ f ≤ 5) ∧ (0 ≤ l9 ∧ l9 ≤ 9)) ∧ ¬ (1 ≤ d ∧ d ≤ 30))) (h2 : ¬ (¬ ((0 ≤ f ∧ f ≤ 5) ∧ (0 ≤ l9 ∧ l9 ≤ 9)))) (hv : m 44 13 + d = w9) (hm : a_u m 56 (10 * f + l9).toNatClampNeg (m 44 13 + d) = m9) (hd : dyM m9) : MX11_except 3 200 [.ref 0, .int f, .int l9, .int d] T I J R (EX (pt w9 m9)) := by
  have hdm := h.dy
  obtain ⟨sq, gq, eq, pq, h9⟩ := h.g9
  refine AMet.mono (m_X11_except h9 f l9 d ) (ex_of (by simp) hdm (fun y m2 q => ?_) (fun j E9 hj q => ?_))
  · rcases q with ⟨q0, q1, q2, q3⟩ | ⟨q0, q1, q2, q3⟩ | ⟨q0, q1, q2⟩
    · exact ⟨⟨q2.trans hv, q3.trans hm⟩, by rw [q3.trans hm]; exact hd⟩
    · exact absurd q2 (by omega)
    · exact absurd q1 (by omega)
  · rcases q with ⟨q0, q1, q2, q3⟩ | ⟨q0, q1, q2, q3⟩ | ⟨q0, q1, q2⟩
    · exact absurd q1 (by omega)
    · exact (h1 ⟨q0, q1⟩).elim
    · exact (h2 q0).elim
theorem x_except_exA {T : List aT} {I : aI} {J : aJ} {R : aR} {m : aI} {f l9 d : Int32} (h : GX T I J R m)  (h0 : ¬ ((((0 ≤ f ∧ f ≤ 5) ∧ (0 ≤ l9 ∧ l9 ≤ 9)) ∧ (1 ≤ d ∧ d ≤ 30)))) (h2 : ¬ (¬ ((0 ≤ f ∧ f ≤ 5) ∧ (0 ≤ l9 ∧ l9 ≤ 9)))) : MX11_except 3 200 [.ref 0, .int f, .int l9, .int d] T I J R (EX (pt (-72) m)) := by
  have hdm := h.dy
  obtain ⟨sq, gq, eq, pq, h9⟩ := h.g9
  refine AMet.mono (m_X11_except h9 f l9 d ) (ex_of (by simp) hdm (fun y m2 q => ?_) (fun j E9 hj q => ?_))
  · rcases q with ⟨q0, q1, q2, q3⟩ | ⟨q0, q1, q2, q3⟩ | ⟨q0, q1, q2⟩
    · exact (h0 q0).elim
    · exact absurd q2 (by omega)
    · exact absurd q1 (by omega)
  · rcases q with ⟨q0, q1, q2, q3⟩ | ⟨q0, q1, q2, q3⟩ | ⟨q0, q1, q2⟩
    · exact absurd q1 (by omega)
    · obtain rfl : j = 1 := by omega
      obtain rfl : exA = E9 := Option.some.inj hj
      exact ⟨xc_A, rfl⟩
    · exact (h2 q0).elim
theorem x_except_exI {T : List aT} {I : aI} {J : aJ} {R : aR} {m : aI} {f l9 d : Int32} (h : GX T I J R m)  (h0 : ¬ ((((0 ≤ f ∧ f ≤ 5) ∧ (0 ≤ l9 ∧ l9 ≤ 9)) ∧ (1 ≤ d ∧ d ≤ 30)))) (h1 : ¬ (((0 ≤ f ∧ f ≤ 5) ∧ (0 ≤ l9 ∧ l9 ≤ 9)) ∧ ¬ (1 ≤ d ∧ d ≤ 30))) : MX11_except 3 200 [.ref 0, .int f, .int l9, .int d] T I J R (EX (pt (-71) m)) := by
  have hdm := h.dy
  obtain ⟨sq, gq, eq, pq, h9⟩ := h.g9
  refine AMet.mono (m_X11_except h9 f l9 d ) (ex_of (by simp) hdm (fun y m2 q => ?_) (fun j E9 hj q => ?_))
  · rcases q with ⟨q0, q1, q2, q3⟩ | ⟨q0, q1, q2, q3⟩ | ⟨q0, q1, q2⟩
    · exact (h0 q0).elim
    · exact absurd q2 (by omega)
    · exact absurd q1 (by omega)
  · rcases q with ⟨q0, q1, q2, q3⟩ | ⟨q0, q1, q2, q3⟩ | ⟨q0, q1, q2⟩
    · exact absurd q1 (by omega)
    · exact (h1 ⟨q0, q1⟩).elim
    · obtain rfl : j = 0 := by omega
      obtain rfl : exI = E9 := Option.some.inj hj
      exact ⟨xc_I, rfl⟩
theorem e_pass {T : List aT} {I : aI} {J : aJ} {R : aR} {m m9 : aI} {d : Int32} {w9 : Int32} (h : GX T I J R m)  (h1 : ¬ (¬ (1 ≤ d ∧ d ≤ 30))) (hv : m 44 13 + d = w9) (hm : (if 0 ≤ m 44 45 ∧ m 44 45 ≤ m 44 13 + d then a_u (a_u (a_u m 44 13 (m 44 13 + d)) 44 43 (-1)) 44 45 (-1) else (a_u m 44 13 (m 44 13 + d))) = m9) (hd : dyM m9) : MX11_pass 3 200 [.ref 0, .int d] T I J R (EX (pt w9 m9)) := by
  have hdm := h.dy
  obtain ⟨sq, gq, eq, pq, h9⟩ := h.g9
  refine AMet.mono (m_X11_pass h9 d ) (ex_of (by simp) hdm (fun y m2 q => ?_) (fun j E9 hj q => ?_))
  · rcases q with ⟨q0, q1, q2, q3⟩ | ⟨q0, q1, q2⟩
    · exact ⟨⟨q2.trans hv, q3.trans hm⟩, by rw [q3.trans hm]; exact hd⟩
    · exact absurd q1 (by omega)
  · rcases q with ⟨q0, q1, q2, q3⟩ | ⟨q0, q1, q2⟩
    · exact absurd q1 (by omega)
    · exact (h1 q0).elim
theorem x_pass_exA {T : List aT} {I : aI} {J : aJ} {R : aR} {m : aI} {d : Int32} (h : GX T I J R m)  (h0 : ¬ ((1 ≤ d ∧ d ≤ 30))) : MX11_pass 3 200 [.ref 0, .int d] T I J R (EX (pt (-72) m)) := by
  have hdm := h.dy
  obtain ⟨sq, gq, eq, pq, h9⟩ := h.g9
  refine AMet.mono (m_X11_pass h9 d ) (ex_of (by simp) hdm (fun y m2 q => ?_) (fun j E9 hj q => ?_))
  · rcases q with ⟨q0, q1, q2, q3⟩ | ⟨q0, q1, q2⟩
    · exact (h0 q0).elim
    · exact absurd q1 (by omega)
  · rcases q with ⟨q0, q1, q2, q3⟩ | ⟨q0, q1, q2⟩
    · exact absurd q1 (by omega)
    · obtain rfl : j = 0 := by omega
      obtain rfl : exA = E9 := Option.some.inj hj
      exact ⟨xc_A, rfl⟩
theorem e_policy {T : List aT} {I : aI} {J : aJ} {R : aR} {m m9 : aI} {f a b : Int32} {w9 : Int32} (h : GX T I J R m)  (h1 : ¬ ((0 ≤ f ∧ f ≤ 9) ∧ ((0 ≤ a ∧ a ≤ 63) ∧ (a ≤ b ∧ b ≤ 63)) ∧ (iN m 44 14) = 8)) (h2 : ¬ ((0 ≤ f ∧ f ≤ 9) ∧ ¬ ((0 ≤ a ∧ a ≤ 63) ∧ (a ≤ b ∧ b ≤ 63)))) (h3 : ¬ (¬ (0 ≤ f ∧ f ≤ 9))) (hv : nI (iN m 44 14) = w9) (hm : poM m (iN m 44 14) f.toNatClampNeg a.toNatClampNeg b.toNatClampNeg = m9) (hd : dyM m9) : MX11_policy 3 200 [.ref 0, .int f, .int a, .int b] T I J R (EX (pt w9 m9)) := by
  have hdm := h.dy
  obtain ⟨sq, gq, eq, pq, h9⟩ := h.g9
  refine AMet.mono (m_X11_policy h9 f a b ) (ex_of (by simp) hdm (fun y m2 q => ?_) (fun j E9 hj q => ?_))
  · rcases q with ⟨q0, q1, q2, q3, q4, q5⟩ | ⟨q0, q1, q2, q3, q4⟩ | ⟨q0, q1, q2, q3⟩ | ⟨q0, q1, q2⟩
    · exact ⟨⟨q4.trans hv, q5.trans hm⟩, by rw [q5.trans hm]; exact hd⟩
    · exact absurd q3 (by omega)
    · exact absurd q2 (by omega)
    · exact absurd q1 (by omega)
  · rcases q with ⟨q0, q1, q2, q3, q4, q5⟩ | ⟨q0, q1, q2, q3, q4⟩ | ⟨q0, q1, q2, q3⟩ | ⟨q0, q1, q2⟩
    · exact absurd q3 (by omega)
    · exact (h1 ⟨q0, q1, q2⟩).elim
    · exact (h2 ⟨q0, q1⟩).elim
    · exact (h3 q0).elim
theorem x_policy_exS {T : List aT} {I : aI} {J : aJ} {R : aR} {m : aI} {f a b : Int32} (h : GX T I J R m)  (h0 : ¬ ((0 ≤ f ∧ f ≤ 9) ∧ ((0 ≤ a ∧ a ≤ 63) ∧ (a ≤ b ∧ b ≤ 63)) ∧ (iN m 44 14) ≠ 8)) (h2 : ¬ ((0 ≤ f ∧ f ≤ 9) ∧ ¬ ((0 ≤ a ∧ a ≤ 63) ∧ (a ≤ b ∧ b ≤ 63)))) (h3 : ¬ (¬ (0 ≤ f ∧ f ≤ 9))) : MX11_policy 3 200 [.ref 0, .int f, .int a, .int b] T I J R (EX (pt (-73) m)) := by
  have hdm := h.dy
  obtain ⟨sq, gq, eq, pq, h9⟩ := h.g9
  refine AMet.mono (m_X11_policy h9 f a b ) (ex_of (by simp) hdm (fun y m2 q => ?_) (fun j E9 hj q => ?_))
  · rcases q with ⟨q0, q1, q2, q3, q4, q5⟩ | ⟨q0, q1, q2, q3, q4⟩ | ⟨q0, q1, q2, q3⟩ | ⟨q0, q1, q2⟩
    · exact (h0 ⟨q0, q1, q2⟩).elim
    · exact absurd q3 (by omega)
    · exact absurd q2 (by omega)
    · exact absurd q1 (by omega)
  · rcases q with ⟨q0, q1, q2, q3, q4, q5⟩ | ⟨q0, q1, q2, q3, q4⟩ | ⟨q0, q1, q2, q3⟩ | ⟨q0, q1, q2⟩
    · exact absurd q3 (by omega)
    · obtain rfl : j = 2 := by omega
      obtain rfl : exS = E9 := Option.some.inj hj
      exact ⟨xc_S, rfl⟩
    · exact (h2 ⟨q0, q1⟩).elim
    · exact (h3 q0).elim
theorem x_policy_exA {T : List aT} {I : aI} {J : aJ} {R : aR} {m : aI} {f a b : Int32} (h : GX T I J R m)  (h0 : ¬ ((0 ≤ f ∧ f ≤ 9) ∧ ((0 ≤ a ∧ a ≤ 63) ∧ (a ≤ b ∧ b ≤ 63)) ∧ (iN m 44 14) ≠ 8)) (h1 : ¬ ((0 ≤ f ∧ f ≤ 9) ∧ ((0 ≤ a ∧ a ≤ 63) ∧ (a ≤ b ∧ b ≤ 63)) ∧ (iN m 44 14) = 8)) (h3 : ¬ (¬ (0 ≤ f ∧ f ≤ 9))) : MX11_policy 3 200 [.ref 0, .int f, .int a, .int b] T I J R (EX (pt (-72) m)) := by
  have hdm := h.dy
  obtain ⟨sq, gq, eq, pq, h9⟩ := h.g9
  refine AMet.mono (m_X11_policy h9 f a b ) (ex_of (by simp) hdm (fun y m2 q => ?_) (fun j E9 hj q => ?_))
  · rcases q with ⟨q0, q1, q2, q3, q4, q5⟩ | ⟨q0, q1, q2, q3, q4⟩ | ⟨q0, q1, q2, q3⟩ | ⟨q0, q1, q2⟩
    · exact (h0 ⟨q0, q1, q2⟩).elim
    · exact absurd q3 (by omega)
    · exact absurd q2 (by omega)
    · exact absurd q1 (by omega)
  · rcases q with ⟨q0, q1, q2, q3, q4, q5⟩ | ⟨q0, q1, q2, q3, q4⟩ | ⟨q0, q1, q2, q3⟩ | ⟨q0, q1, q2⟩
    · exact absurd q3 (by omega)
    · exact (h1 ⟨q0, q1, q2⟩).elim
    · obtain rfl : j = 1 := by omega
      obtain rfl : exA = E9 := Option.some.inj hj
      exact ⟨xc_A, rfl⟩
    · exact (h3 q0).elim
theorem x_policy_exI {T : List aT} {I : aI} {J : aJ} {R : aR} {m : aI} {f a b : Int32} (h : GX T I J R m)  (h0 : ¬ ((0 ≤ f ∧ f ≤ 9) ∧ ((0 ≤ a ∧ a ≤ 63) ∧ (a ≤ b ∧ b ≤ 63)) ∧ (iN m 44 14) ≠ 8)) (h1 : ¬ ((0 ≤ f ∧ f ≤ 9) ∧ ((0 ≤ a ∧ a ≤ 63) ∧ (a ≤ b ∧ b ≤ 63)) ∧ (iN m 44 14) = 8)) (h2 : ¬ ((0 ≤ f ∧ f ≤ 9) ∧ ¬ ((0 ≤ a ∧ a ≤ 63) ∧ (a ≤ b ∧ b ≤ 63)))) : MX11_policy 3 200 [.ref 0, .int f, .int a, .int b] T I J R (EX (pt (-71) m)) := by
  have hdm := h.dy
  obtain ⟨sq, gq, eq, pq, h9⟩ := h.g9
  refine AMet.mono (m_X11_policy h9 f a b ) (ex_of (by simp) hdm (fun y m2 q => ?_) (fun j E9 hj q => ?_))
  · rcases q with ⟨q0, q1, q2, q3, q4, q5⟩ | ⟨q0, q1, q2, q3, q4⟩ | ⟨q0, q1, q2, q3⟩ | ⟨q0, q1, q2⟩
    · exact (h0 ⟨q0, q1, q2⟩).elim
    · exact absurd q3 (by omega)
    · exact absurd q2 (by omega)
    · exact absurd q1 (by omega)
  · rcases q with ⟨q0, q1, q2, q3, q4, q5⟩ | ⟨q0, q1, q2, q3, q4⟩ | ⟨q0, q1, q2, q3⟩ | ⟨q0, q1, q2⟩
    · exact absurd q3 (by omega)
    · exact (h1 ⟨q0, q1, q2⟩).elim
    · exact (h2 ⟨q0, q1⟩).elim
    · obtain rfl : j = 0 := by omega
      obtain rfl : exI = E9 := Option.some.inj hj
      exact ⟨xc_I, rfl⟩
theorem e_action {T : List aT} {I : aI} {J : aJ} {R : aR} {m : aI} {x y : Int32} {w9 : Int32} (h : GX T I J R m)  (h1 : ¬ (¬ ((0 ≤ x ∧ x < nI (iN m 44 36)) ∧ (0 ≤ y ∧ y < nI (iN m 79 x.toNatClampNeg))))) (hv : m 80 (128 * x + y).toNatClampNeg = w9) : MX11_action 3 200 [.ref 0, .int x, .int y] T I J R (EX (pt w9 m)) := by
  have hd := h.dy
  have hm : m = m := rfl
  have hdm := h.dy
  obtain ⟨sq, gq, eq, pq, h9⟩ := h.g9
  refine AMet.mono (m_X11_action h9 x y ) (ex_of (by simp) hdm (fun y m2 q => ?_) (fun j E9 hj q => ?_))
  · rcases q with ⟨q0, q1, q2, q3⟩ | ⟨q0, q1, q2⟩
    · exact ⟨⟨q2.trans hv, q3.trans hm⟩, by rw [q3.trans hm]; exact hd⟩
    · exact absurd q1 (by omega)
  · rcases q with ⟨q0, q1, q2, q3⟩ | ⟨q0, q1, q2⟩
    · exact absurd q1 (by omega)
    · exact (h1 q0).elim
theorem x_action_exI {T : List aT} {I : aI} {J : aJ} {R : aR} {m : aI} {x y : Int32} (h : GX T I J R m)  (h0 : ¬ (((0 ≤ x ∧ x < nI (iN m 44 36)) ∧ (0 ≤ y ∧ y < nI (iN m 79 x.toNatClampNeg))))) : MX11_action 3 200 [.ref 0, .int x, .int y] T I J R (EX (pt (-71) m)) := by
  have hdm := h.dy
  obtain ⟨sq, gq, eq, pq, h9⟩ := h.g9
  refine AMet.mono (m_X11_action h9 x y ) (ex_of (by simp) hdm (fun y m2 q => ?_) (fun j E9 hj q => ?_))
  · rcases q with ⟨q0, q1, q2, q3⟩ | ⟨q0, q1, q2⟩
    · exact (h0 q0).elim
    · exact absurd q1 (by omega)
  · rcases q with ⟨q0, q1, q2, q3⟩ | ⟨q0, q1, q2⟩
    · exact absurd q1 (by omega)
    · obtain rfl : j = 0 := by omega
      obtain rfl : exI = E9 := Option.some.inj hj
      exact ⟨xc_I, rfl⟩
theorem e_change {T : List aT} {I : aI} {J : aJ} {R : aR} {m m9 : aI} {x a v9 : Int32} {w9 : Int32} (h : GX T I J R m)  (h1 : ¬ ((((0 ≤ x ∧ x < nI (iN m 44 25)) ∧ (0 ≤ a ∧ a ≤ 2)) ∧ (0 ≤ v9 ∧ v9 ≤ 255) ∧ m 68 x.toNatClampNeg ≠ 0))) (h2 : ¬ ((((0 ≤ x ∧ x < nI (iN m 44 25)) ∧ (0 ≤ a ∧ a ≤ 2)) ∧ ¬ (0 ≤ v9 ∧ v9 ≤ 255)))) (h3 : ¬ (¬ ((0 ≤ x ∧ x < nI (iN m 44 25)) ∧ (0 ≤ a ∧ a ≤ 2)))) (hv : m 67 (3 * x + a).toNatClampNeg = w9) (hm : a_u m 67 (3 * x + a).toNatClampNeg v9 = m9) (hd : dyM m9) : MX11_change 3 200 [.ref 0, .int x, .int a, .int v9] T I J R (EX (pt w9 m9)) := by
  have hdm := h.dy
  obtain ⟨sq, gq, eq, pq, h9⟩ := h.g9
  refine AMet.mono (m_X11_change h9 x a v9 ) (ex_of (by simp) hdm (fun y m2 q => ?_) (fun j E9 hj q => ?_))
  · rcases q with ⟨q0, q1, q2, q3⟩ | ⟨q0, q1, q2⟩ | ⟨q0, q1, q2⟩ | ⟨q0, q1, q2⟩
    · exact ⟨⟨q2.trans hv, q3.trans hm⟩, by rw [q3.trans hm]; exact hd⟩
    · exact absurd q1 (by omega)
    · exact absurd q1 (by omega)
    · exact absurd q1 (by omega)
  · rcases q with ⟨q0, q1, q2, q3⟩ | ⟨q0, q1, q2⟩ | ⟨q0, q1, q2⟩ | ⟨q0, q1, q2⟩
    · exact absurd q1 (by omega)
    · exact (h1 q0).elim
    · exact (h2 q0).elim
    · exact (h3 q0).elim
theorem x_change_exS {T : List aT} {I : aI} {J : aJ} {R : aR} {m : aI} {x a v9 : Int32} (h : GX T I J R m)  (h0 : ¬ ((((0 ≤ x ∧ x < nI (iN m 44 25)) ∧ (0 ≤ a ∧ a ≤ 2)) ∧ (0 ≤ v9 ∧ v9 ≤ 255) ∧ m 68 x.toNatClampNeg = 0))) (h2 : ¬ ((((0 ≤ x ∧ x < nI (iN m 44 25)) ∧ (0 ≤ a ∧ a ≤ 2)) ∧ ¬ (0 ≤ v9 ∧ v9 ≤ 255)))) (h3 : ¬ (¬ ((0 ≤ x ∧ x < nI (iN m 44 25)) ∧ (0 ≤ a ∧ a ≤ 2)))) : MX11_change 3 200 [.ref 0, .int x, .int a, .int v9] T I J R (EX (pt (-73) m)) := by
  have hdm := h.dy
  obtain ⟨sq, gq, eq, pq, h9⟩ := h.g9
  refine AMet.mono (m_X11_change h9 x a v9 ) (ex_of (by simp) hdm (fun y m2 q => ?_) (fun j E9 hj q => ?_))
  · rcases q with ⟨q0, q1, q2, q3⟩ | ⟨q0, q1, q2⟩ | ⟨q0, q1, q2⟩ | ⟨q0, q1, q2⟩
    · exact (h0 q0).elim
    · exact absurd q1 (by omega)
    · exact absurd q1 (by omega)
    · exact absurd q1 (by omega)
  · rcases q with ⟨q0, q1, q2, q3⟩ | ⟨q0, q1, q2⟩ | ⟨q0, q1, q2⟩ | ⟨q0, q1, q2⟩
    · exact absurd q1 (by omega)
    · obtain rfl : j = 2 := by omega
      obtain rfl : exS = E9 := Option.some.inj hj
      exact ⟨xc_S, rfl⟩
    · exact (h2 q0).elim
    · exact (h3 q0).elim
theorem x_change_exA {T : List aT} {I : aI} {J : aJ} {R : aR} {m : aI} {x a v9 : Int32} (h : GX T I J R m)  (h0 : ¬ ((((0 ≤ x ∧ x < nI (iN m 44 25)) ∧ (0 ≤ a ∧ a ≤ 2)) ∧ (0 ≤ v9 ∧ v9 ≤ 255) ∧ m 68 x.toNatClampNeg = 0))) (h1 : ¬ ((((0 ≤ x ∧ x < nI (iN m 44 25)) ∧ (0 ≤ a ∧ a ≤ 2)) ∧ (0 ≤ v9 ∧ v9 ≤ 255) ∧ m 68 x.toNatClampNeg ≠ 0))) (h3 : ¬ (¬ ((0 ≤ x ∧ x < nI (iN m 44 25)) ∧ (0 ≤ a ∧ a ≤ 2)))) : MX11_change 3 200 [.ref 0, .int x, .int a, .int v9] T I J R (EX (pt (-72) m)) := by
  have hdm := h.dy
  obtain ⟨sq, gq, eq, pq, h9⟩ := h.g9
  refine AMet.mono (m_X11_change h9 x a v9 ) (ex_of (by simp) hdm (fun y m2 q => ?_) (fun j E9 hj q => ?_))
  · rcases q with ⟨q0, q1, q2, q3⟩ | ⟨q0, q1, q2⟩ | ⟨q0, q1, q2⟩ | ⟨q0, q1, q2⟩
    · exact (h0 q0).elim
    · exact absurd q1 (by omega)
    · exact absurd q1 (by omega)
    · exact absurd q1 (by omega)
  · rcases q with ⟨q0, q1, q2, q3⟩ | ⟨q0, q1, q2⟩ | ⟨q0, q1, q2⟩ | ⟨q0, q1, q2⟩
    · exact absurd q1 (by omega)
    · exact (h1 q0).elim
    · obtain rfl : j = 1 := by omega
      obtain rfl : exA = E9 := Option.some.inj hj
      exact ⟨xc_A, rfl⟩
    · exact (h3 q0).elim
theorem x_change_exI {T : List aT} {I : aI} {J : aJ} {R : aR} {m : aI} {x a v9 : Int32} (h : GX T I J R m)  (h0 : ¬ ((((0 ≤ x ∧ x < nI (iN m 44 25)) ∧ (0 ≤ a ∧ a ≤ 2)) ∧ (0 ≤ v9 ∧ v9 ≤ 255) ∧ m 68 x.toNatClampNeg = 0))) (h1 : ¬ ((((0 ≤ x ∧ x < nI (iN m 44 25)) ∧ (0 ≤ a ∧ a ≤ 2)) ∧ (0 ≤ v9 ∧ v9 ≤ 255) ∧ m 68 x.toNatClampNeg ≠ 0))) (h2 : ¬ ((((0 ≤ x ∧ x < nI (iN m 44 25)) ∧ (0 ≤ a ∧ a ≤ 2)) ∧ ¬ (0 ≤ v9 ∧ v9 ≤ 255)))) : MX11_change 3 200 [.ref 0, .int x, .int a, .int v9] T I J R (EX (pt (-71) m)) := by
  have hdm := h.dy
  obtain ⟨sq, gq, eq, pq, h9⟩ := h.g9
  refine AMet.mono (m_X11_change h9 x a v9 ) (ex_of (by simp) hdm (fun y m2 q => ?_) (fun j E9 hj q => ?_))
  · rcases q with ⟨q0, q1, q2, q3⟩ | ⟨q0, q1, q2⟩ | ⟨q0, q1, q2⟩ | ⟨q0, q1, q2⟩
    · exact (h0 q0).elim
    · exact absurd q1 (by omega)
    · exact absurd q1 (by omega)
    · exact absurd q1 (by omega)
  · rcases q with ⟨q0, q1, q2, q3⟩ | ⟨q0, q1, q2⟩ | ⟨q0, q1, q2⟩ | ⟨q0, q1, q2⟩
    · exact absurd q1 (by omega)
    · exact (h1 q0).elim
    · exact (h2 q0).elim
    · obtain rfl : j = 0 := by omega
      obtain rfl : exI = E9 := Option.some.inj hj
      exact ⟨xc_I, rfl⟩
theorem e_destroy {T : List aT} {I : aI} {J : aJ} {R : aR} {m m9 : aI} {x : Int32} {w9 : Int32} (h : GX T I J R m)  (h1 : ¬ (¬ (0 ≤ x ∧ x < nI (iN m 44 25)))) (hv : (if m 68 x.toNatClampNeg = 0 then 1 else 0) = w9) (hm : a_u m 68 x.toNatClampNeg 1 = m9) (hd : dyM m9) : MX11_destroy 3 200 [.ref 0, .int x] T I J R (EB (pt w9 m9)) := by
  have hdm := h.dy
  obtain ⟨sq, gq, eq, pq, h9⟩ := h.g9
  refine AMet.mono (m_X11_destroy h9 x ) (eb_of (fun v z q => by rcases q with ⟨q0, q1, q2, q3⟩ | ⟨q0, q1, q2⟩ <;> first | exact absurd (by assumption : 0 = _) (by decide) | (rw [q2]; split <;> simp)) (by simp) hdm (fun y m2 q => ?_) (fun j E9 hj q => ?_))
  · rcases q with ⟨q0, q1, q2, q3⟩ | ⟨q0, q1, q2⟩
    · exact ⟨⟨q2.trans hv, q3.trans hm⟩, by rw [q3.trans hm]; exact hd⟩
    · exact absurd q1 (by omega)
  · rcases q with ⟨q0, q1, q2, q3⟩ | ⟨q0, q1, q2⟩
    · exact absurd q1 (by omega)
    · exact (h1 q0).elim
theorem x_destroy_exI {T : List aT} {I : aI} {J : aJ} {R : aR} {m : aI} {x : Int32} (h : GX T I J R m)  (h0 : ¬ ((0 ≤ x ∧ x < nI (iN m 44 25)))) : MX11_destroy 3 200 [.ref 0, .int x] T I J R (EB (pt (-71) m)) := by
  have hdm := h.dy
  obtain ⟨sq, gq, eq, pq, h9⟩ := h.g9
  refine AMet.mono (m_X11_destroy h9 x ) (eb_of (fun v z q => by rcases q with ⟨q0, q1, q2, q3⟩ | ⟨q0, q1, q2⟩ <;> first | exact absurd (by assumption : 0 = _) (by decide) | (rw [q2]; split <;> simp)) (by simp) hdm (fun y m2 q => ?_) (fun j E9 hj q => ?_))
  · rcases q with ⟨q0, q1, q2, q3⟩ | ⟨q0, q1, q2⟩
    · exact (h0 q0).elim
    · exact absurd q1 (by omega)
  · rcases q with ⟨q0, q1, q2, q3⟩ | ⟨q0, q1, q2⟩
    · exact absurd q1 (by omega)
    · obtain rfl : j = 0 := by omega
      obtain rfl : exI = E9 := Option.some.inj hj
      exact ⟨xc_I, rfl⟩
theorem e_make {T : List aT} {I : aI} {J : aJ} {R : aR} {m m9 : aI} {t : Int32} {w9 : Int32} (h : GX T I J R m)  (h1 : ¬ (((0 ≤ t ∧ t ≤ 2) ∧ (iN m 44 25) = 60))) (h2 : ¬ (¬ (0 ≤ t ∧ t ≤ 2))) (hv : nI (iN m 44 25) = w9) (hm : mkT m (iN m 44 25) t = m9) (hd : dyM m9) : MX11_make 3 200 [.ref 0, .int t] T I J R (EX (pt w9 m9)) := by
  have hdm := h.dy
  obtain ⟨sq, gq, eq, pq, h9⟩ := h.g9
  refine AMet.mono (m_X11_make h9 t ) (ex_of (by simp) hdm (fun y m2 q => ?_) (fun j E9 hj q => ?_))
  · rcases q with ⟨q0, q1, q2, q3⟩ | ⟨q0, q1, q2⟩ | ⟨q0, q1, q2⟩
    · exact ⟨⟨q2.trans hv, q3.trans hm⟩, by rw [q3.trans hm]; exact hd⟩
    · exact absurd q1 (by omega)
    · exact absurd q1 (by omega)
  · rcases q with ⟨q0, q1, q2, q3⟩ | ⟨q0, q1, q2⟩ | ⟨q0, q1, q2⟩
    · exact absurd q1 (by omega)
    · exact (h1 q0).elim
    · exact (h2 q0).elim
theorem x_make_exS {T : List aT} {I : aI} {J : aJ} {R : aR} {m : aI} {t : Int32} (h : GX T I J R m)  (h0 : ¬ (((0 ≤ t ∧ t ≤ 2) ∧ (iN m 44 25) ≠ 60))) (h2 : ¬ (¬ (0 ≤ t ∧ t ≤ 2))) : MX11_make 3 200 [.ref 0, .int t] T I J R (EX (pt (-73) m)) := by
  have hdm := h.dy
  obtain ⟨sq, gq, eq, pq, h9⟩ := h.g9
  refine AMet.mono (m_X11_make h9 t ) (ex_of (by simp) hdm (fun y m2 q => ?_) (fun j E9 hj q => ?_))
  · rcases q with ⟨q0, q1, q2, q3⟩ | ⟨q0, q1, q2⟩ | ⟨q0, q1, q2⟩
    · exact (h0 q0).elim
    · exact absurd q1 (by omega)
    · exact absurd q1 (by omega)
  · rcases q with ⟨q0, q1, q2, q3⟩ | ⟨q0, q1, q2⟩ | ⟨q0, q1, q2⟩
    · exact absurd q1 (by omega)
    · obtain rfl : j = 1 := by omega
      obtain rfl : exS = E9 := Option.some.inj hj
      exact ⟨xc_S, rfl⟩
    · exact (h2 q0).elim
theorem x_make_exI {T : List aT} {I : aI} {J : aJ} {R : aR} {m : aI} {t : Int32} (h : GX T I J R m)  (h0 : ¬ (((0 ≤ t ∧ t ≤ 2) ∧ (iN m 44 25) ≠ 60))) (h1 : ¬ (((0 ≤ t ∧ t ≤ 2) ∧ (iN m 44 25) = 60))) : MX11_make 3 200 [.ref 0, .int t] T I J R (EX (pt (-71) m)) := by
  have hdm := h.dy
  obtain ⟨sq, gq, eq, pq, h9⟩ := h.g9
  refine AMet.mono (m_X11_make h9 t ) (ex_of (by simp) hdm (fun y m2 q => ?_) (fun j E9 hj q => ?_))
  · rcases q with ⟨q0, q1, q2, q3⟩ | ⟨q0, q1, q2⟩ | ⟨q0, q1, q2⟩
    · exact (h0 q0).elim
    · exact absurd q1 (by omega)
    · exact absurd q1 (by omega)
  · rcases q with ⟨q0, q1, q2, q3⟩ | ⟨q0, q1, q2⟩ | ⟨q0, q1, q2⟩
    · exact absurd q1 (by omega)
    · exact (h1 q0).elim
    · obtain rfl : j = 0 := by omega
      obtain rfl : exI = E9 := Option.some.inj hj
      exact ⟨xc_I, rfl⟩
theorem e_key {T : List aT} {I : aI} {J : aJ} {R : aR} {m m9 : aI} {x y z : Int32} {w9 : Int32} (h : GX T I J R m)  (h1 : ¬ (((0 ≤ x ∧ x < nI (iN m 44 20)) ∧ (0 ≤ y ∧ y ≤ nI (iN m 63 x.toNatClampNeg)) ∧ (0 ≤ z ∧ z ≤ 15) ∧ ¬ (hkB m x.toNatClampNeg z = false ∧ iN m 63 x.toNatClampNeg < 8)))) (h2 : ¬ (((0 ≤ x ∧ x < nI (iN m 44 20)) ∧ (0 ≤ y ∧ y ≤ nI (iN m 63 x.toNatClampNeg)) ∧ ¬ (0 ≤ z ∧ z ≤ 15)))) (h3 : ¬ (¬ ((0 ≤ x ∧ x < nI (iN m 44 20)) ∧ (0 ≤ y ∧ y ≤ nI (iN m 63 x.toNatClampNeg))))) (hv : nI (iN m 63 x.toNatClampNeg + 1) = w9) (hm : kyM m x.toNatClampNeg y.toNatClampNeg (iN m 63 x.toNatClampNeg) z = m9) (hd : dyM m9) : MX11_key 3 200 [.ref 0, .int x, .int y, .int z] T I J R (EX (pt w9 m9)) := by
  have hdm := h.dy
  obtain ⟨sq, gq, eq, pq, h9⟩ := h.g9
  refine AMet.mono (m_X11_key h9 x y z ) (ex_of (by simp) hdm (fun y m2 q => ?_) (fun j E9 hj q => ?_))
  · rcases q with ⟨q0, q1, q2, q3⟩ | ⟨q0, q1, q2⟩ | ⟨q0, q1, q2⟩ | ⟨q0, q1, q2⟩
    · exact ⟨⟨q2.trans hv, q3.trans hm⟩, by rw [q3.trans hm]; exact hd⟩
    · exact absurd q1 (by omega)
    · exact absurd q1 (by omega)
    · exact absurd q1 (by omega)
  · rcases q with ⟨q0, q1, q2, q3⟩ | ⟨q0, q1, q2⟩ | ⟨q0, q1, q2⟩ | ⟨q0, q1, q2⟩
    · exact absurd q1 (by omega)
    · exact (h1 q0).elim
    · exact (h2 q0).elim
    · exact (h3 q0).elim
theorem x_key_exS {T : List aT} {I : aI} {J : aJ} {R : aR} {m : aI} {x y z : Int32} (h : GX T I J R m)  (h0 : ¬ (((0 ≤ x ∧ x < nI (iN m 44 20)) ∧ (0 ≤ y ∧ y ≤ nI (iN m 63 x.toNatClampNeg)) ∧ (0 ≤ z ∧ z ≤ 15) ∧ hkB m x.toNatClampNeg z = false ∧ iN m 63 x.toNatClampNeg < 8))) (h2 : ¬ (((0 ≤ x ∧ x < nI (iN m 44 20)) ∧ (0 ≤ y ∧ y ≤ nI (iN m 63 x.toNatClampNeg)) ∧ ¬ (0 ≤ z ∧ z ≤ 15)))) (h3 : ¬ (¬ ((0 ≤ x ∧ x < nI (iN m 44 20)) ∧ (0 ≤ y ∧ y ≤ nI (iN m 63 x.toNatClampNeg))))) : MX11_key 3 200 [.ref 0, .int x, .int y, .int z] T I J R (EX (pt (-73) m)) := by
  have hdm := h.dy
  obtain ⟨sq, gq, eq, pq, h9⟩ := h.g9
  refine AMet.mono (m_X11_key h9 x y z ) (ex_of (by simp) hdm (fun y m2 q => ?_) (fun j E9 hj q => ?_))
  · rcases q with ⟨q0, q1, q2, q3⟩ | ⟨q0, q1, q2⟩ | ⟨q0, q1, q2⟩ | ⟨q0, q1, q2⟩
    · exact (h0 q0).elim
    · exact absurd q1 (by omega)
    · exact absurd q1 (by omega)
    · exact absurd q1 (by omega)
  · rcases q with ⟨q0, q1, q2, q3⟩ | ⟨q0, q1, q2⟩ | ⟨q0, q1, q2⟩ | ⟨q0, q1, q2⟩
    · exact absurd q1 (by omega)
    · obtain rfl : j = 2 := by omega
      obtain rfl : exS = E9 := Option.some.inj hj
      exact ⟨xc_S, rfl⟩
    · exact (h2 q0).elim
    · exact (h3 q0).elim
theorem x_key_exA {T : List aT} {I : aI} {J : aJ} {R : aR} {m : aI} {x y z : Int32} (h : GX T I J R m)  (h0 : ¬ (((0 ≤ x ∧ x < nI (iN m 44 20)) ∧ (0 ≤ y ∧ y ≤ nI (iN m 63 x.toNatClampNeg)) ∧ (0 ≤ z ∧ z ≤ 15) ∧ hkB m x.toNatClampNeg z = false ∧ iN m 63 x.toNatClampNeg < 8))) (h1 : ¬ (((0 ≤ x ∧ x < nI (iN m 44 20)) ∧ (0 ≤ y ∧ y ≤ nI (iN m 63 x.toNatClampNeg)) ∧ (0 ≤ z ∧ z ≤ 15) ∧ ¬ (hkB m x.toNatClampNeg z = false ∧ iN m 63 x.toNatClampNeg < 8)))) (h3 : ¬ (¬ ((0 ≤ x ∧ x < nI (iN m 44 20)) ∧ (0 ≤ y ∧ y ≤ nI (iN m 63 x.toNatClampNeg))))) : MX11_key 3 200 [.ref 0, .int x, .int y, .int z] T I J R (EX (pt (-72) m)) := by
  have hdm := h.dy
  obtain ⟨sq, gq, eq, pq, h9⟩ := h.g9
  refine AMet.mono (m_X11_key h9 x y z ) (ex_of (by simp) hdm (fun y m2 q => ?_) (fun j E9 hj q => ?_))
  · rcases q with ⟨q0, q1, q2, q3⟩ | ⟨q0, q1, q2⟩ | ⟨q0, q1, q2⟩ | ⟨q0, q1, q2⟩
    · exact (h0 q0).elim
    · exact absurd q1 (by omega)
    · exact absurd q1 (by omega)
    · exact absurd q1 (by omega)
  · rcases q with ⟨q0, q1, q2, q3⟩ | ⟨q0, q1, q2⟩ | ⟨q0, q1, q2⟩ | ⟨q0, q1, q2⟩
    · exact absurd q1 (by omega)
    · exact (h1 q0).elim
    · obtain rfl : j = 1 := by omega
      obtain rfl : exA = E9 := Option.some.inj hj
      exact ⟨xc_A, rfl⟩
    · exact (h3 q0).elim
theorem x_key_exI {T : List aT} {I : aI} {J : aJ} {R : aR} {m : aI} {x y z : Int32} (h : GX T I J R m)  (h0 : ¬ (((0 ≤ x ∧ x < nI (iN m 44 20)) ∧ (0 ≤ y ∧ y ≤ nI (iN m 63 x.toNatClampNeg)) ∧ (0 ≤ z ∧ z ≤ 15) ∧ hkB m x.toNatClampNeg z = false ∧ iN m 63 x.toNatClampNeg < 8))) (h1 : ¬ (((0 ≤ x ∧ x < nI (iN m 44 20)) ∧ (0 ≤ y ∧ y ≤ nI (iN m 63 x.toNatClampNeg)) ∧ (0 ≤ z ∧ z ≤ 15) ∧ ¬ (hkB m x.toNatClampNeg z = false ∧ iN m 63 x.toNatClampNeg < 8)))) (h2 : ¬ (((0 ≤ x ∧ x < nI (iN m 44 20)) ∧ (0 ≤ y ∧ y ≤ nI (iN m 63 x.toNatClampNeg)) ∧ ¬ (0 ≤ z ∧ z ≤ 15)))) : MX11_key 3 200 [.ref 0, .int x, .int y, .int z] T I J R (EX (pt (-71) m)) := by
  have hdm := h.dy
  obtain ⟨sq, gq, eq, pq, h9⟩ := h.g9
  refine AMet.mono (m_X11_key h9 x y z ) (ex_of (by simp) hdm (fun y m2 q => ?_) (fun j E9 hj q => ?_))
  · rcases q with ⟨q0, q1, q2, q3⟩ | ⟨q0, q1, q2⟩ | ⟨q0, q1, q2⟩ | ⟨q0, q1, q2⟩
    · exact (h0 q0).elim
    · exact absurd q1 (by omega)
    · exact absurd q1 (by omega)
    · exact absurd q1 (by omega)
  · rcases q with ⟨q0, q1, q2, q3⟩ | ⟨q0, q1, q2⟩ | ⟨q0, q1, q2⟩ | ⟨q0, q1, q2⟩
    · exact absurd q1 (by omega)
    · exact (h1 q0).elim
    · exact (h2 q0).elim
    · obtain rfl : j = 0 := by omega
      obtain rfl : exI = E9 := Option.some.inj hj
      exact ⟨xc_I, rfl⟩
theorem e_unkey {T : List aT} {I : aI} {J : aJ} {R : aR} {m m9 : aI} {x y : Int32} {w9 : Int32} (h : GX T I J R m)  (h1 : ¬ (¬ ((0 ≤ x ∧ x < nI (iN m 44 20)) ∧ (0 ≤ y ∧ y < nI (iN m 63 x.toNatClampNeg))))) (hv : m 64 (8 * x.toNatClampNeg + y.toNatClampNeg) = w9) (hm : kdM m x.toNatClampNeg y.toNatClampNeg (iN m 63 x.toNatClampNeg) = m9) (hd : dyM m9) : MX11_unkey 3 200 [.ref 0, .int x, .int y] T I J R (EX (pt w9 m9)) := by
  have hdm := h.dy
  obtain ⟨sq, gq, eq, pq, h9⟩ := h.g9
  refine AMet.mono (m_X11_unkey h9 x y ) (ex_of (by simp) hdm (fun y m2 q => ?_) (fun j E9 hj q => ?_))
  · rcases q with ⟨q0, q1, q2, q3⟩ | ⟨q0, q1, q2⟩
    · exact ⟨⟨q2.trans hv, q3.trans hm⟩, by rw [q3.trans hm]; exact hd⟩
    · exact absurd q1 (by omega)
  · rcases q with ⟨q0, q1, q2, q3⟩ | ⟨q0, q1, q2⟩
    · exact absurd q1 (by omega)
    · exact (h1 q0).elim
theorem x_unkey_exI {T : List aT} {I : aI} {J : aJ} {R : aR} {m : aI} {x y : Int32} (h : GX T I J R m)  (h0 : ¬ (((0 ≤ x ∧ x < nI (iN m 44 20)) ∧ (0 ≤ y ∧ y < nI (iN m 63 x.toNatClampNeg))))) : MX11_unkey 3 200 [.ref 0, .int x, .int y] T I J R (EX (pt (-71) m)) := by
  have hdm := h.dy
  obtain ⟨sq, gq, eq, pq, h9⟩ := h.g9
  refine AMet.mono (m_X11_unkey h9 x y ) (ex_of (by simp) hdm (fun y m2 q => ?_) (fun j E9 hj q => ?_))
  · rcases q with ⟨q0, q1, q2, q3⟩ | ⟨q0, q1, q2⟩
    · exact (h0 q0).elim
    · exact absurd q1 (by omega)
  · rcases q with ⟨q0, q1, q2, q3⟩ | ⟨q0, q1, q2⟩
    · exact absurd q1 (by omega)
    · obtain rfl : j = 0 := by omega
      obtain rfl : exI = E9 := Option.some.inj hj
      exact ⟨xc_I, rfl⟩
theorem e_generator {T : List aT} {I : aI} {J : aJ} {R : aR} {m m9 : aI} {t : Int32} {w9 : Int32} (h : GX T I J R m)  (h1 : ¬ (((0 ≤ t ∧ t ≤ 2) ∧ (iN m 44 20) = 4))) (h2 : ¬ (¬ (0 ≤ t ∧ t ≤ 2))) (hv : nI (iN m 44 20) = w9) (hm : gnM m (iN m 44 20) t = m9) (hd : dyM m9) : MX11_generator 3 200 [.ref 0, .int t] T I J R (EX (pt w9 m9)) := by
  have hdm := h.dy
  obtain ⟨sq, gq, eq, pq, h9⟩ := h.g9
  refine AMet.mono (m_X11_generator h9 t ) (ex_of (by simp) hdm (fun y m2 q => ?_) (fun j E9 hj q => ?_))
  · rcases q with ⟨q0, q1, q2, q3⟩ | ⟨q0, q1, q2⟩ | ⟨q0, q1, q2⟩
    · exact ⟨⟨q2.trans hv, q3.trans hm⟩, by rw [q3.trans hm]; exact hd⟩
    · exact absurd q1 (by omega)
    · exact absurd q1 (by omega)
  · rcases q with ⟨q0, q1, q2, q3⟩ | ⟨q0, q1, q2⟩ | ⟨q0, q1, q2⟩
    · exact absurd q1 (by omega)
    · exact (h1 q0).elim
    · exact (h2 q0).elim
theorem x_generator_exS {T : List aT} {I : aI} {J : aJ} {R : aR} {m : aI} {t : Int32} (h : GX T I J R m)  (h0 : ¬ (((0 ≤ t ∧ t ≤ 2) ∧ (iN m 44 20) ≠ 4))) (h2 : ¬ (¬ (0 ≤ t ∧ t ≤ 2))) : MX11_generator 3 200 [.ref 0, .int t] T I J R (EX (pt (-73) m)) := by
  have hdm := h.dy
  obtain ⟨sq, gq, eq, pq, h9⟩ := h.g9
  refine AMet.mono (m_X11_generator h9 t ) (ex_of (by simp) hdm (fun y m2 q => ?_) (fun j E9 hj q => ?_))
  · rcases q with ⟨q0, q1, q2, q3⟩ | ⟨q0, q1, q2⟩ | ⟨q0, q1, q2⟩
    · exact (h0 q0).elim
    · exact absurd q1 (by omega)
    · exact absurd q1 (by omega)
  · rcases q with ⟨q0, q1, q2, q3⟩ | ⟨q0, q1, q2⟩ | ⟨q0, q1, q2⟩
    · exact absurd q1 (by omega)
    · obtain rfl : j = 1 := by omega
      obtain rfl : exS = E9 := Option.some.inj hj
      exact ⟨xc_S, rfl⟩
    · exact (h2 q0).elim
theorem x_generator_exI {T : List aT} {I : aI} {J : aJ} {R : aR} {m : aI} {t : Int32} (h : GX T I J R m)  (h0 : ¬ (((0 ≤ t ∧ t ≤ 2) ∧ (iN m 44 20) ≠ 4))) (h1 : ¬ (((0 ≤ t ∧ t ≤ 2) ∧ (iN m 44 20) = 4))) : MX11_generator 3 200 [.ref 0, .int t] T I J R (EX (pt (-71) m)) := by
  have hdm := h.dy
  obtain ⟨sq, gq, eq, pq, h9⟩ := h.g9
  refine AMet.mono (m_X11_generator h9 t ) (ex_of (by simp) hdm (fun y m2 q => ?_) (fun j E9 hj q => ?_))
  · rcases q with ⟨q0, q1, q2, q3⟩ | ⟨q0, q1, q2⟩ | ⟨q0, q1, q2⟩
    · exact (h0 q0).elim
    · exact absurd q1 (by omega)
    · exact absurd q1 (by omega)
  · rcases q with ⟨q0, q1, q2, q3⟩ | ⟨q0, q1, q2⟩ | ⟨q0, q1, q2⟩
    · exact absurd q1 (by omega)
    · exact (h1 q0).elim
    · obtain rfl : j = 0 := by omega
      obtain rfl : exI = E9 := Option.some.inj hj
      exact ⟨xc_I, rfl⟩
theorem e_approve {T : List aT} {I : aI} {J : aJ} {R : aR} {m m9 : aI} {x t : Int32} {w9 : Int32} (h : GX T I J R m)  (h1 : ¬ ((((0 ≤ x ∧ x < nI (iN m 44 36)) ∧ (0 ≤ t ∧ t ≤ 2)) ∧ m 75 x.toNatClampNeg = t))) (h2 : ¬ (¬ ((0 ≤ x ∧ x < nI (iN m 44 36)) ∧ (0 ≤ t ∧ t ≤ 2)))) (hv : (if m 77 x.toNatClampNeg = 0 then 1 else 0) = w9) (hm : a_u m 77 x.toNatClampNeg 1 = m9) (hd : dyM m9) : MX11_approve 3 200 [.ref 0, .int x, .int t] T I J R (EB (pt w9 m9)) := by
  have hdm := h.dy
  obtain ⟨sq, gq, eq, pq, h9⟩ := h.g9
  refine AMet.mono (m_X11_approve h9 x t ) (eb_of (fun v z q => by rcases q with ⟨q0, q1, q2, q3⟩ | ⟨q0, q1, q2⟩ | ⟨q0, q1, q2⟩ <;> first | exact absurd (by assumption : 0 = _) (by decide) | (rw [q2]; split <;> simp)) (by simp) hdm (fun y m2 q => ?_) (fun j E9 hj q => ?_))
  · rcases q with ⟨q0, q1, q2, q3⟩ | ⟨q0, q1, q2⟩ | ⟨q0, q1, q2⟩
    · exact ⟨⟨q2.trans hv, q3.trans hm⟩, by rw [q3.trans hm]; exact hd⟩
    · exact absurd q1 (by omega)
    · exact absurd q1 (by omega)
  · rcases q with ⟨q0, q1, q2, q3⟩ | ⟨q0, q1, q2⟩ | ⟨q0, q1, q2⟩
    · exact absurd q1 (by omega)
    · exact (h1 q0).elim
    · exact (h2 q0).elim
theorem x_approve_exS {T : List aT} {I : aI} {J : aJ} {R : aR} {m : aI} {x t : Int32} (h : GX T I J R m)  (h0 : ¬ ((((0 ≤ x ∧ x < nI (iN m 44 36)) ∧ (0 ≤ t ∧ t ≤ 2)) ∧ m 75 x.toNatClampNeg ≠ t))) (h2 : ¬ (¬ ((0 ≤ x ∧ x < nI (iN m 44 36)) ∧ (0 ≤ t ∧ t ≤ 2)))) : MX11_approve 3 200 [.ref 0, .int x, .int t] T I J R (EB (pt (-73) m)) := by
  have hdm := h.dy
  obtain ⟨sq, gq, eq, pq, h9⟩ := h.g9
  refine AMet.mono (m_X11_approve h9 x t ) (eb_of (fun v z q => by rcases q with ⟨q0, q1, q2, q3⟩ | ⟨q0, q1, q2⟩ | ⟨q0, q1, q2⟩ <;> first | exact absurd (by assumption : 0 = _) (by decide) | (rw [q2]; split <;> simp)) (by simp) hdm (fun y m2 q => ?_) (fun j E9 hj q => ?_))
  · rcases q with ⟨q0, q1, q2, q3⟩ | ⟨q0, q1, q2⟩ | ⟨q0, q1, q2⟩
    · exact (h0 q0).elim
    · exact absurd q1 (by omega)
    · exact absurd q1 (by omega)
  · rcases q with ⟨q0, q1, q2, q3⟩ | ⟨q0, q1, q2⟩ | ⟨q0, q1, q2⟩
    · exact absurd q1 (by omega)
    · obtain rfl : j = 1 := by omega
      obtain rfl : exS = E9 := Option.some.inj hj
      exact ⟨xc_S, rfl⟩
    · exact (h2 q0).elim
theorem x_approve_exI {T : List aT} {I : aI} {J : aJ} {R : aR} {m : aI} {x t : Int32} (h : GX T I J R m)  (h0 : ¬ ((((0 ≤ x ∧ x < nI (iN m 44 36)) ∧ (0 ≤ t ∧ t ≤ 2)) ∧ m 75 x.toNatClampNeg ≠ t))) (h1 : ¬ ((((0 ≤ x ∧ x < nI (iN m 44 36)) ∧ (0 ≤ t ∧ t ≤ 2)) ∧ m 75 x.toNatClampNeg = t))) : MX11_approve 3 200 [.ref 0, .int x, .int t] T I J R (EB (pt (-71) m)) := by
  have hdm := h.dy
  obtain ⟨sq, gq, eq, pq, h9⟩ := h.g9
  refine AMet.mono (m_X11_approve h9 x t ) (eb_of (fun v z q => by rcases q with ⟨q0, q1, q2, q3⟩ | ⟨q0, q1, q2⟩ | ⟨q0, q1, q2⟩ <;> first | exact absurd (by assumption : 0 = _) (by decide) | (rw [q2]; split <;> simp)) (by simp) hdm (fun y m2 q => ?_) (fun j E9 hj q => ?_))
  · rcases q with ⟨q0, q1, q2, q3⟩ | ⟨q0, q1, q2⟩ | ⟨q0, q1, q2⟩
    · exact (h0 q0).elim
    · exact absurd q1 (by omega)
    · exact absurd q1 (by omega)
  · rcases q with ⟨q0, q1, q2, q3⟩ | ⟨q0, q1, q2⟩ | ⟨q0, q1, q2⟩
    · exact absurd q1 (by omega)
    · exact (h1 q0).elim
    · obtain rfl : j = 0 := by omega
      obtain rfl : exI = E9 := Option.some.inj hj
      exact ⟨xc_I, rfl⟩
theorem e_bind {T : List aT} {I : aI} {J : aJ} {R : aR} {m m9 : aI} {x a s : Int32} {w9 : Int32} (h : GX T I J R m)  (h1 : ¬ ((((0 ≤ x ∧ x < nI (iN m 44 20)) ∧ (0 ≤ a ∧ a ≤ 2) ∧ (-1 ≤ s ∧ s ≤ nI (10 + 3 * x.toNatClampNeg - 1))) ∧ ¬ bdC m x.toNatClampNeg a.toNatClampNeg s))) (h2 : ¬ (¬ ((0 ≤ x ∧ x < nI (iN m 44 20)) ∧ (0 ≤ a ∧ a ≤ 2) ∧ (-1 ≤ s ∧ s ≤ nI (10 + 3 * x.toNatClampNeg - 1))))) (hv : m 65 (3 * x.toNatClampNeg + a.toNatClampNeg) = w9) (hm : a_u m 65 (3 * x.toNatClampNeg + a.toNatClampNeg) s = m9) (hd : dyM m9) : MX11_bind 3 200 [.ref 0, .int x, .int a, .int s] T I J R (EX (pt w9 m9)) := by
  have hdm := h.dy
  obtain ⟨sq, gq, eq, pq, h9⟩ := h.g9
  refine AMet.mono (m_X11_bind h9 x a s ) (ex_of (by simp) hdm (fun y m2 q => ?_) (fun j E9 hj q => ?_))
  · rcases q with ⟨q0, q1, q2, q3⟩ | ⟨q0, q1, q2⟩ | ⟨q0, q1, q2⟩
    · exact ⟨⟨q2.trans hv, q3.trans hm⟩, by rw [q3.trans hm]; exact hd⟩
    · exact absurd q1 (by omega)
    · exact absurd q1 (by omega)
  · rcases q with ⟨q0, q1, q2, q3⟩ | ⟨q0, q1, q2⟩ | ⟨q0, q1, q2⟩
    · exact absurd q1 (by omega)
    · exact (h1 q0).elim
    · exact (h2 q0).elim
theorem x_bind_exS {T : List aT} {I : aI} {J : aJ} {R : aR} {m : aI} {x a s : Int32} (h : GX T I J R m)  (h0 : ¬ ((((0 ≤ x ∧ x < nI (iN m 44 20)) ∧ (0 ≤ a ∧ a ≤ 2) ∧ (-1 ≤ s ∧ s ≤ nI (10 + 3 * x.toNatClampNeg - 1))) ∧ bdC m x.toNatClampNeg a.toNatClampNeg s))) (h2 : ¬ (¬ ((0 ≤ x ∧ x < nI (iN m 44 20)) ∧ (0 ≤ a ∧ a ≤ 2) ∧ (-1 ≤ s ∧ s ≤ nI (10 + 3 * x.toNatClampNeg - 1))))) : MX11_bind 3 200 [.ref 0, .int x, .int a, .int s] T I J R (EX (pt (-73) m)) := by
  have hdm := h.dy
  obtain ⟨sq, gq, eq, pq, h9⟩ := h.g9
  refine AMet.mono (m_X11_bind h9 x a s ) (ex_of (by simp) hdm (fun y m2 q => ?_) (fun j E9 hj q => ?_))
  · rcases q with ⟨q0, q1, q2, q3⟩ | ⟨q0, q1, q2⟩ | ⟨q0, q1, q2⟩
    · exact (h0 q0).elim
    · exact absurd q1 (by omega)
    · exact absurd q1 (by omega)
  · rcases q with ⟨q0, q1, q2, q3⟩ | ⟨q0, q1, q2⟩ | ⟨q0, q1, q2⟩
    · exact absurd q1 (by omega)
    · obtain rfl : j = 1 := by omega
      obtain rfl : exS = E9 := Option.some.inj hj
      exact ⟨xc_S, rfl⟩
    · exact (h2 q0).elim
theorem x_bind_exI {T : List aT} {I : aI} {J : aJ} {R : aR} {m : aI} {x a s : Int32} (h : GX T I J R m)  (h0 : ¬ ((((0 ≤ x ∧ x < nI (iN m 44 20)) ∧ (0 ≤ a ∧ a ≤ 2) ∧ (-1 ≤ s ∧ s ≤ nI (10 + 3 * x.toNatClampNeg - 1))) ∧ bdC m x.toNatClampNeg a.toNatClampNeg s))) (h1 : ¬ ((((0 ≤ x ∧ x < nI (iN m 44 20)) ∧ (0 ≤ a ∧ a ≤ 2) ∧ (-1 ≤ s ∧ s ≤ nI (10 + 3 * x.toNatClampNeg - 1))) ∧ ¬ bdC m x.toNatClampNeg a.toNatClampNeg s))) : MX11_bind 3 200 [.ref 0, .int x, .int a, .int s] T I J R (EX (pt (-71) m)) := by
  have hdm := h.dy
  obtain ⟨sq, gq, eq, pq, h9⟩ := h.g9
  refine AMet.mono (m_X11_bind h9 x a s ) (ex_of (by simp) hdm (fun y m2 q => ?_) (fun j E9 hj q => ?_))
  · rcases q with ⟨q0, q1, q2, q3⟩ | ⟨q0, q1, q2⟩ | ⟨q0, q1, q2⟩
    · exact (h0 q0).elim
    · exact absurd q1 (by omega)
    · exact absurd q1 (by omega)
  · rcases q with ⟨q0, q1, q2, q3⟩ | ⟨q0, q1, q2⟩ | ⟨q0, q1, q2⟩
    · exact absurd q1 (by omega)
    · exact (h1 q0).elim
    · obtain rfl : j = 0 := by omega
      obtain rfl : exI = E9 := Option.some.inj hj
      exact ⟨xc_I, rfl⟩
theorem e_setType {T : List aT} {I : aI} {J : aJ} {R : aR} {m m9 : aI} {t u v9 w d e : Int32} (h : GX T I J R m) (hd9 : d = 0 ∨ d = 1) (he9 : e = 0 ∨ e = 1) (h1 : ¬ ((0 ≤ t ∧ t ≤ 2) ∧ ((0 ≤ u ∧ u ≤ 7) ∧ (0 ≤ v9 ∧ v9 ≤ 7) ∧ (0 ≤ w ∧ w ≤ 7)) ∧ (anyB (fun j => decide (m 62 j = t)) (iN m 44 20) = true ∨ anyB (fun j => decide (m 66 j = t)) (iN m 44 25) = true))) (h2 : ¬ ((0 ≤ t ∧ t ≤ 2) ∧ ¬ ((0 ≤ u ∧ u ≤ 7) ∧ (0 ≤ v9 ∧ v9 ≤ 7) ∧ (0 ≤ w ∧ w ≤ 7)))) (h3 : ¬ (¬ (0 ≤ t ∧ t ≤ 2))) (hm : tyM m t.toNatClampNeg u v9 w d e = m9) (hd : dyM m9) : MX11_setType 3 200 [.ref 0, .int t, .int u, .int v9, .int w, .int d, .int e] T I J R (EV (pt 0 m9)) := by
  have hdm := h.dy
  obtain ⟨sq, gq, eq, pq, h9⟩ := h.g9
  refine AMet.mono (m_X11_setType h9 t u v9 w d e hd9 he9) (exv_of (by simp) hdm (fun m2 q => ?_) (fun j E9 hj q => ?_))
  · rcases q with ⟨q0, q1, q2, q3, q4⟩ | ⟨q0, q1, q2, q3, q4⟩ | ⟨q0, q1, q2, q3⟩ | ⟨q0, q1, q2⟩
    · exact ⟨⟨rfl, q4.trans hm⟩, by rw [q4.trans hm]; exact hd⟩
    · exact absurd q3 (by omega)
    · exact absurd q2 (by omega)
    · exact absurd q1 (by omega)
  · rcases q with ⟨q0, q1, q2, q3, q4⟩ | ⟨q0, q1, q2, q3, q4⟩ | ⟨q0, q1, q2, q3⟩ | ⟨q0, q1, q2⟩
    · exact absurd q3 (by omega)
    · exact (h1 ⟨q0, q1, q2⟩).elim
    · exact (h2 ⟨q0, q1⟩).elim
    · exact (h3 q0).elim
theorem x_setType_exS {T : List aT} {I : aI} {J : aJ} {R : aR} {m : aI} {t u v9 w d e : Int32} (h : GX T I J R m) (hd9 : d = 0 ∨ d = 1) (he9 : e = 0 ∨ e = 1) (h0 : ¬ ((0 ≤ t ∧ t ≤ 2) ∧ ((0 ≤ u ∧ u ≤ 7) ∧ (0 ≤ v9 ∧ v9 ≤ 7) ∧ (0 ≤ w ∧ w ≤ 7)) ∧ ¬ (anyB (fun j => decide (m 62 j = t)) (iN m 44 20) = true ∨ anyB (fun j => decide (m 66 j = t)) (iN m 44 25) = true))) (h2 : ¬ ((0 ≤ t ∧ t ≤ 2) ∧ ¬ ((0 ≤ u ∧ u ≤ 7) ∧ (0 ≤ v9 ∧ v9 ≤ 7) ∧ (0 ≤ w ∧ w ≤ 7)))) (h3 : ¬ (¬ (0 ≤ t ∧ t ≤ 2))) : MX11_setType 3 200 [.ref 0, .int t, .int u, .int v9, .int w, .int d, .int e] T I J R (EV (pt (-73) m)) := by
  have hdm := h.dy
  obtain ⟨sq, gq, eq, pq, h9⟩ := h.g9
  refine AMet.mono (m_X11_setType h9 t u v9 w d e hd9 he9) (exv_of (by simp) hdm (fun m2 q => ?_) (fun j E9 hj q => ?_))
  · rcases q with ⟨q0, q1, q2, q3, q4⟩ | ⟨q0, q1, q2, q3, q4⟩ | ⟨q0, q1, q2, q3⟩ | ⟨q0, q1, q2⟩
    · exact (h0 ⟨q0, q1, q2⟩).elim
    · exact absurd q3 (by omega)
    · exact absurd q2 (by omega)
    · exact absurd q1 (by omega)
  · rcases q with ⟨q0, q1, q2, q3, q4⟩ | ⟨q0, q1, q2, q3, q4⟩ | ⟨q0, q1, q2, q3⟩ | ⟨q0, q1, q2⟩
    · exact absurd q3 (by omega)
    · obtain rfl : j = 2 := by omega
      obtain rfl : exS = E9 := Option.some.inj hj
      exact ⟨xc_S, rfl⟩
    · exact (h2 ⟨q0, q1⟩).elim
    · exact (h3 q0).elim
theorem x_setType_exA {T : List aT} {I : aI} {J : aJ} {R : aR} {m : aI} {t u v9 w d e : Int32} (h : GX T I J R m) (hd9 : d = 0 ∨ d = 1) (he9 : e = 0 ∨ e = 1) (h0 : ¬ ((0 ≤ t ∧ t ≤ 2) ∧ ((0 ≤ u ∧ u ≤ 7) ∧ (0 ≤ v9 ∧ v9 ≤ 7) ∧ (0 ≤ w ∧ w ≤ 7)) ∧ ¬ (anyB (fun j => decide (m 62 j = t)) (iN m 44 20) = true ∨ anyB (fun j => decide (m 66 j = t)) (iN m 44 25) = true))) (h1 : ¬ ((0 ≤ t ∧ t ≤ 2) ∧ ((0 ≤ u ∧ u ≤ 7) ∧ (0 ≤ v9 ∧ v9 ≤ 7) ∧ (0 ≤ w ∧ w ≤ 7)) ∧ (anyB (fun j => decide (m 62 j = t)) (iN m 44 20) = true ∨ anyB (fun j => decide (m 66 j = t)) (iN m 44 25) = true))) (h3 : ¬ (¬ (0 ≤ t ∧ t ≤ 2))) : MX11_setType 3 200 [.ref 0, .int t, .int u, .int v9, .int w, .int d, .int e] T I J R (EV (pt (-72) m)) := by
  have hdm := h.dy
  obtain ⟨sq, gq, eq, pq, h9⟩ := h.g9
  refine AMet.mono (m_X11_setType h9 t u v9 w d e hd9 he9) (exv_of (by simp) hdm (fun m2 q => ?_) (fun j E9 hj q => ?_))
  · rcases q with ⟨q0, q1, q2, q3, q4⟩ | ⟨q0, q1, q2, q3, q4⟩ | ⟨q0, q1, q2, q3⟩ | ⟨q0, q1, q2⟩
    · exact (h0 ⟨q0, q1, q2⟩).elim
    · exact absurd q3 (by omega)
    · exact absurd q2 (by omega)
    · exact absurd q1 (by omega)
  · rcases q with ⟨q0, q1, q2, q3, q4⟩ | ⟨q0, q1, q2, q3, q4⟩ | ⟨q0, q1, q2, q3⟩ | ⟨q0, q1, q2⟩
    · exact absurd q3 (by omega)
    · exact (h1 ⟨q0, q1, q2⟩).elim
    · obtain rfl : j = 1 := by omega
      obtain rfl : exA = E9 := Option.some.inj hj
      exact ⟨xc_A, rfl⟩
    · exact (h3 q0).elim
theorem x_setType_exI {T : List aT} {I : aI} {J : aJ} {R : aR} {m : aI} {t u v9 w d e : Int32} (h : GX T I J R m) (hd9 : d = 0 ∨ d = 1) (he9 : e = 0 ∨ e = 1) (h0 : ¬ ((0 ≤ t ∧ t ≤ 2) ∧ ((0 ≤ u ∧ u ≤ 7) ∧ (0 ≤ v9 ∧ v9 ≤ 7) ∧ (0 ≤ w ∧ w ≤ 7)) ∧ ¬ (anyB (fun j => decide (m 62 j = t)) (iN m 44 20) = true ∨ anyB (fun j => decide (m 66 j = t)) (iN m 44 25) = true))) (h1 : ¬ ((0 ≤ t ∧ t ≤ 2) ∧ ((0 ≤ u ∧ u ≤ 7) ∧ (0 ≤ v9 ∧ v9 ≤ 7) ∧ (0 ≤ w ∧ w ≤ 7)) ∧ (anyB (fun j => decide (m 62 j = t)) (iN m 44 20) = true ∨ anyB (fun j => decide (m 66 j = t)) (iN m 44 25) = true))) (h2 : ¬ ((0 ≤ t ∧ t ≤ 2) ∧ ¬ ((0 ≤ u ∧ u ≤ 7) ∧ (0 ≤ v9 ∧ v9 ≤ 7) ∧ (0 ≤ w ∧ w ≤ 7)))) : MX11_setType 3 200 [.ref 0, .int t, .int u, .int v9, .int w, .int d, .int e] T I J R (EV (pt (-71) m)) := by
  have hdm := h.dy
  obtain ⟨sq, gq, eq, pq, h9⟩ := h.g9
  refine AMet.mono (m_X11_setType h9 t u v9 w d e hd9 he9) (exv_of (by simp) hdm (fun m2 q => ?_) (fun j E9 hj q => ?_))
  · rcases q with ⟨q0, q1, q2, q3, q4⟩ | ⟨q0, q1, q2, q3, q4⟩ | ⟨q0, q1, q2, q3⟩ | ⟨q0, q1, q2⟩
    · exact (h0 ⟨q0, q1, q2⟩).elim
    · exact absurd q3 (by omega)
    · exact absurd q2 (by omega)
    · exact absurd q1 (by omega)
  · rcases q with ⟨q0, q1, q2, q3, q4⟩ | ⟨q0, q1, q2, q3, q4⟩ | ⟨q0, q1, q2, q3⟩ | ⟨q0, q1, q2⟩
    · exact absurd q3 (by omega)
    · exact (h1 ⟨q0, q1, q2⟩).elim
    · exact (h2 ⟨q0, q1⟩).elim
    · obtain rfl : j = 0 := by omega
      obtain rfl : exI = E9 := Option.some.inj hj
      exact ⟨xc_I, rfl⟩
theorem e_move {T : List aT} {I : aI} {J : aJ} {R : aR} {m m9 : aI} {x y : Int32} {w9 : Int32} (h : GX T I J R m)  (h1 : ¬ ((((0 ≤ x ∧ x < nI (16 * (iN m 44 20))) ∧ (0 ≤ y ∧ y < nI (16 * (iN m 44 20)))) ∧ ¬ canMv m x.toNatClampNeg y.toNatClampNeg))) (h2 : ¬ (¬ ((0 ≤ x ∧ x < nI (16 * (iN m 44 20))) ∧ (0 ≤ y ∧ y < nI (16 * (iN m 44 20)))))) (hv : m 44 35 + 1 = w9) (hm : mvB m x.toNatClampNeg y.toNatClampNeg = m9) (hd : dyM m9) : MX11_move 3 200 [.ref 0, .int x, .int y] T I J R (EX (pt w9 m9)) := by
  have hdm := h.dy
  obtain ⟨sq, gq, eq, pq, h9⟩ := h.g9
  refine AMet.mono (m_X11_move h9 x y ) (ex_of (by simp) hdm (fun y m2 q => ?_) (fun j E9 hj q => ?_))
  · rcases q with ⟨q0, q1, q2, q3⟩ | ⟨q0, q1, q2⟩ | ⟨q0, q1, q2⟩
    · exact ⟨⟨q2.trans hv, q3.trans hm⟩, by rw [q3.trans hm]; exact hd⟩
    · exact absurd q1 (by omega)
    · exact absurd q1 (by omega)
  · rcases q with ⟨q0, q1, q2, q3⟩ | ⟨q0, q1, q2⟩ | ⟨q0, q1, q2⟩
    · exact absurd q1 (by omega)
    · exact (h1 q0).elim
    · exact (h2 q0).elim
theorem x_move_exS {T : List aT} {I : aI} {J : aJ} {R : aR} {m : aI} {x y : Int32} (h : GX T I J R m)  (h0 : ¬ ((((0 ≤ x ∧ x < nI (16 * (iN m 44 20))) ∧ (0 ≤ y ∧ y < nI (16 * (iN m 44 20)))) ∧ canMv m x.toNatClampNeg y.toNatClampNeg))) (h2 : ¬ (¬ ((0 ≤ x ∧ x < nI (16 * (iN m 44 20))) ∧ (0 ≤ y ∧ y < nI (16 * (iN m 44 20)))))) : MX11_move 3 200 [.ref 0, .int x, .int y] T I J R (EX (pt (-73) m)) := by
  have hdm := h.dy
  obtain ⟨sq, gq, eq, pq, h9⟩ := h.g9
  refine AMet.mono (m_X11_move h9 x y ) (ex_of (by simp) hdm (fun y m2 q => ?_) (fun j E9 hj q => ?_))
  · rcases q with ⟨q0, q1, q2, q3⟩ | ⟨q0, q1, q2⟩ | ⟨q0, q1, q2⟩
    · exact (h0 q0).elim
    · exact absurd q1 (by omega)
    · exact absurd q1 (by omega)
  · rcases q with ⟨q0, q1, q2, q3⟩ | ⟨q0, q1, q2⟩ | ⟨q0, q1, q2⟩
    · exact absurd q1 (by omega)
    · obtain rfl : j = 1 := by omega
      obtain rfl : exS = E9 := Option.some.inj hj
      exact ⟨xc_S, rfl⟩
    · exact (h2 q0).elim
theorem x_move_exI {T : List aT} {I : aI} {J : aJ} {R : aR} {m : aI} {x y : Int32} (h : GX T I J R m)  (h0 : ¬ ((((0 ≤ x ∧ x < nI (16 * (iN m 44 20))) ∧ (0 ≤ y ∧ y < nI (16 * (iN m 44 20)))) ∧ canMv m x.toNatClampNeg y.toNatClampNeg))) (h1 : ¬ ((((0 ≤ x ∧ x < nI (16 * (iN m 44 20))) ∧ (0 ≤ y ∧ y < nI (16 * (iN m 44 20)))) ∧ ¬ canMv m x.toNatClampNeg y.toNatClampNeg))) : MX11_move 3 200 [.ref 0, .int x, .int y] T I J R (EX (pt (-71) m)) := by
  have hdm := h.dy
  obtain ⟨sq, gq, eq, pq, h9⟩ := h.g9
  refine AMet.mono (m_X11_move h9 x y ) (ex_of (by simp) hdm (fun y m2 q => ?_) (fun j E9 hj q => ?_))
  · rcases q with ⟨q0, q1, q2, q3⟩ | ⟨q0, q1, q2⟩ | ⟨q0, q1, q2⟩
    · exact (h0 q0).elim
    · exact absurd q1 (by omega)
    · exact absurd q1 (by omega)
  · rcases q with ⟨q0, q1, q2, q3⟩ | ⟨q0, q1, q2⟩ | ⟨q0, q1, q2⟩
    · exact absurd q1 (by omega)
    · exact (h1 q0).elim
    · obtain rfl : j = 0 := by omega
      obtain rfl : exI = E9 := Option.some.inj hj
      exact ⟨xc_I, rfl⟩
theorem e_take {T : List aT} {I : aI} {J : aJ} {R : aR} {m m9 : aI} {x y : Int32} {w9 : Int32} (h : GX T I J R m)  (h1 : ¬ ((((0 ≤ x ∧ x < nI (16 * (iN m 44 20))) ∧ (0 ≤ y ∧ y < nI (iN m 44 25))) ∧ ¬ canTk m x.toNatClampNeg y.toNatClampNeg))) (h2 : ¬ (¬ ((0 ≤ x ∧ x < nI (16 * (iN m 44 20))) ∧ (0 ≤ y ∧ y < nI (iN m 44 25))))) (hv : m 44 35 + 1 = w9) (hm : tkM m x.toNatClampNeg y.toNatClampNeg = m9) (hd : dyM m9) : MX11_take 3 200 [.ref 0, .int x, .int y] T I J R (EX (pt w9 m9)) := by
  have hdm := h.dy
  obtain ⟨sq, gq, eq, pq, h9⟩ := h.g9
  refine AMet.mono (m_X11_take h9 x y ) (ex_of (by simp) hdm (fun y m2 q => ?_) (fun j E9 hj q => ?_))
  · rcases q with ⟨q0, q1, q2, q3⟩ | ⟨q0, q1, q2⟩ | ⟨q0, q1, q2⟩
    · exact ⟨⟨q2.trans hv, q3.trans hm⟩, by rw [q3.trans hm]; exact hd⟩
    · exact absurd q1 (by omega)
    · exact absurd q1 (by omega)
  · rcases q with ⟨q0, q1, q2, q3⟩ | ⟨q0, q1, q2⟩ | ⟨q0, q1, q2⟩
    · exact absurd q1 (by omega)
    · exact (h1 q0).elim
    · exact (h2 q0).elim
theorem x_take_exS {T : List aT} {I : aI} {J : aJ} {R : aR} {m : aI} {x y : Int32} (h : GX T I J R m)  (h0 : ¬ ((((0 ≤ x ∧ x < nI (16 * (iN m 44 20))) ∧ (0 ≤ y ∧ y < nI (iN m 44 25))) ∧ canTk m x.toNatClampNeg y.toNatClampNeg))) (h2 : ¬ (¬ ((0 ≤ x ∧ x < nI (16 * (iN m 44 20))) ∧ (0 ≤ y ∧ y < nI (iN m 44 25))))) : MX11_take 3 200 [.ref 0, .int x, .int y] T I J R (EX (pt (-73) m)) := by
  have hdm := h.dy
  obtain ⟨sq, gq, eq, pq, h9⟩ := h.g9
  refine AMet.mono (m_X11_take h9 x y ) (ex_of (by simp) hdm (fun y m2 q => ?_) (fun j E9 hj q => ?_))
  · rcases q with ⟨q0, q1, q2, q3⟩ | ⟨q0, q1, q2⟩ | ⟨q0, q1, q2⟩
    · exact (h0 q0).elim
    · exact absurd q1 (by omega)
    · exact absurd q1 (by omega)
  · rcases q with ⟨q0, q1, q2, q3⟩ | ⟨q0, q1, q2⟩ | ⟨q0, q1, q2⟩
    · exact absurd q1 (by omega)
    · obtain rfl : j = 1 := by omega
      obtain rfl : exS = E9 := Option.some.inj hj
      exact ⟨xc_S, rfl⟩
    · exact (h2 q0).elim
theorem x_take_exI {T : List aT} {I : aI} {J : aJ} {R : aR} {m : aI} {x y : Int32} (h : GX T I J R m)  (h0 : ¬ ((((0 ≤ x ∧ x < nI (16 * (iN m 44 20))) ∧ (0 ≤ y ∧ y < nI (iN m 44 25))) ∧ canTk m x.toNatClampNeg y.toNatClampNeg))) (h1 : ¬ ((((0 ≤ x ∧ x < nI (16 * (iN m 44 20))) ∧ (0 ≤ y ∧ y < nI (iN m 44 25))) ∧ ¬ canTk m x.toNatClampNeg y.toNatClampNeg))) : MX11_take 3 200 [.ref 0, .int x, .int y] T I J R (EX (pt (-71) m)) := by
  have hdm := h.dy
  obtain ⟨sq, gq, eq, pq, h9⟩ := h.g9
  refine AMet.mono (m_X11_take h9 x y ) (ex_of (by simp) hdm (fun y m2 q => ?_) (fun j E9 hj q => ?_))
  · rcases q with ⟨q0, q1, q2, q3⟩ | ⟨q0, q1, q2⟩ | ⟨q0, q1, q2⟩
    · exact (h0 q0).elim
    · exact absurd q1 (by omega)
    · exact absurd q1 (by omega)
  · rcases q with ⟨q0, q1, q2, q3⟩ | ⟨q0, q1, q2⟩ | ⟨q0, q1, q2⟩
    · exact absurd q1 (by omega)
    · exact (h1 q0).elim
    · obtain rfl : j = 0 := by omega
      obtain rfl : exI = E9 := Option.some.inj hj
      exact ⟨xc_I, rfl⟩
theorem e_publish {T : List aT} {I : aI} {J : aJ} {R : aR} {m m9 : aI} {x : Int32} {w9 : Int32} (h : GX T I J R m)  (h1 : ¬ (((0 ≤ x ∧ x ≤ 2) ∧ ¬ iN m 53 x.toNatClampNeg < 3))) (h2 : ¬ (¬ (0 ≤ x ∧ x ≤ 2))) (hv : nI (iN m 53 x.toNatClampNeg + 1) = w9) (hm : pbM m x.toNatClampNeg (iN m 44 0) = m9) (hd : dyM m9) : MX11_publish 3 200 [.ref 0, .int x] T I J R (EX (pt w9 m9)) := by
  have hdm := h.dy
  obtain ⟨sq, gq, eq, pq, h9⟩ := h.g9
  refine AMet.mono (m_X11_publish h9 x ) (ex_of (by simp) hdm (fun y m2 q => ?_) (fun j E9 hj q => ?_))
  · rcases q with ⟨q0, q1, q2, q3⟩ | ⟨q0, q1, q2⟩ | ⟨q0, q1, q2⟩
    · exact ⟨⟨q2.trans hv, q3.trans hm⟩, by rw [q3.trans hm]; exact hd⟩
    · exact absurd q1 (by omega)
    · exact absurd q1 (by omega)
  · rcases q with ⟨q0, q1, q2, q3⟩ | ⟨q0, q1, q2⟩ | ⟨q0, q1, q2⟩
    · exact absurd q1 (by omega)
    · exact (h1 q0).elim
    · exact (h2 q0).elim
theorem x_publish_exS {T : List aT} {I : aI} {J : aJ} {R : aR} {m : aI} {x : Int32} (h : GX T I J R m)  (h0 : ¬ (((0 ≤ x ∧ x ≤ 2) ∧ iN m 53 x.toNatClampNeg < 3))) (h2 : ¬ (¬ (0 ≤ x ∧ x ≤ 2))) : MX11_publish 3 200 [.ref 0, .int x] T I J R (EX (pt (-73) m)) := by
  have hdm := h.dy
  obtain ⟨sq, gq, eq, pq, h9⟩ := h.g9
  refine AMet.mono (m_X11_publish h9 x ) (ex_of (by simp) hdm (fun y m2 q => ?_) (fun j E9 hj q => ?_))
  · rcases q with ⟨q0, q1, q2, q3⟩ | ⟨q0, q1, q2⟩ | ⟨q0, q1, q2⟩
    · exact (h0 q0).elim
    · exact absurd q1 (by omega)
    · exact absurd q1 (by omega)
  · rcases q with ⟨q0, q1, q2, q3⟩ | ⟨q0, q1, q2⟩ | ⟨q0, q1, q2⟩
    · exact absurd q1 (by omega)
    · obtain rfl : j = 1 := by omega
      obtain rfl : exS = E9 := Option.some.inj hj
      exact ⟨xc_S, rfl⟩
    · exact (h2 q0).elim
theorem x_publish_exI {T : List aT} {I : aI} {J : aJ} {R : aR} {m : aI} {x : Int32} (h : GX T I J R m)  (h0 : ¬ (((0 ≤ x ∧ x ≤ 2) ∧ iN m 53 x.toNatClampNeg < 3))) (h1 : ¬ (((0 ≤ x ∧ x ≤ 2) ∧ ¬ iN m 53 x.toNatClampNeg < 3))) : MX11_publish 3 200 [.ref 0, .int x] T I J R (EX (pt (-71) m)) := by
  have hdm := h.dy
  obtain ⟨sq, gq, eq, pq, h9⟩ := h.g9
  refine AMet.mono (m_X11_publish h9 x ) (ex_of (by simp) hdm (fun y m2 q => ?_) (fun j E9 hj q => ?_))
  · rcases q with ⟨q0, q1, q2, q3⟩ | ⟨q0, q1, q2⟩ | ⟨q0, q1, q2⟩
    · exact (h0 q0).elim
    · exact absurd q1 (by omega)
    · exact absurd q1 (by omega)
  · rcases q with ⟨q0, q1, q2, q3⟩ | ⟨q0, q1, q2⟩ | ⟨q0, q1, q2⟩
    · exact absurd q1 (by omega)
    · exact (h1 q0).elim
    · obtain rfl : j = 0 := by omega
      obtain rfl : exI = E9 := Option.some.inj hj
      exact ⟨xc_I, rfl⟩
theorem e_upgrade {T : List aT} {I : aI} {J : aJ} {R : aR} {m m9 : aI} {t : Int32} {w9 : Int32} (h : GX T I J R m)  (h1 : ¬ (((0 ≤ t ∧ t ≤ 2) ∧ ¬ (iN m 61 t.toNatClampNeg < 2 ∧ m 44 45 < 0)))) (h2 : ¬ (¬ (0 ≤ t ∧ t ≤ 2))) (hv : nI (iN m 61 t.toNatClampNeg + 1) = w9) (hm : upB m t.toNatClampNeg (iN m 44 20) (iN m 44 25) = m9) (hd : dyM m9) : MX11_upgrade 3 200 [.ref 0, .int t] T I J R (EX (pt w9 m9)) := by
  have hdm := h.dy
  obtain ⟨sq, gq, eq, pq, h9⟩ := h.g9
  refine AMet.mono (m_X11_upgrade h9 t ) (ex_of (by simp) hdm (fun y m2 q => ?_) (fun j E9 hj q => ?_))
  · rcases q with ⟨q0, q1, q2, q3⟩ | ⟨q0, q1, q2⟩ | ⟨q0, q1, q2⟩
    · exact ⟨⟨q2.trans hv, q3.trans hm⟩, by rw [q3.trans hm]; exact hd⟩
    · exact absurd q1 (by omega)
    · exact absurd q1 (by omega)
  · rcases q with ⟨q0, q1, q2, q3⟩ | ⟨q0, q1, q2⟩ | ⟨q0, q1, q2⟩
    · exact absurd q1 (by omega)
    · exact (h1 q0).elim
    · exact (h2 q0).elim
theorem x_upgrade_exS {T : List aT} {I : aI} {J : aJ} {R : aR} {m : aI} {t : Int32} (h : GX T I J R m)  (h0 : ¬ (((0 ≤ t ∧ t ≤ 2) ∧ (iN m 61 t.toNatClampNeg < 2 ∧ m 44 45 < 0)))) (h2 : ¬ (¬ (0 ≤ t ∧ t ≤ 2))) : MX11_upgrade 3 200 [.ref 0, .int t] T I J R (EX (pt (-73) m)) := by
  have hdm := h.dy
  obtain ⟨sq, gq, eq, pq, h9⟩ := h.g9
  refine AMet.mono (m_X11_upgrade h9 t ) (ex_of (by simp) hdm (fun y m2 q => ?_) (fun j E9 hj q => ?_))
  · rcases q with ⟨q0, q1, q2, q3⟩ | ⟨q0, q1, q2⟩ | ⟨q0, q1, q2⟩
    · exact (h0 q0).elim
    · exact absurd q1 (by omega)
    · exact absurd q1 (by omega)
  · rcases q with ⟨q0, q1, q2, q3⟩ | ⟨q0, q1, q2⟩ | ⟨q0, q1, q2⟩
    · exact absurd q1 (by omega)
    · obtain rfl : j = 1 := by omega
      obtain rfl : exS = E9 := Option.some.inj hj
      exact ⟨xc_S, rfl⟩
    · exact (h2 q0).elim
theorem x_upgrade_exI {T : List aT} {I : aI} {J : aJ} {R : aR} {m : aI} {t : Int32} (h : GX T I J R m)  (h0 : ¬ (((0 ≤ t ∧ t ≤ 2) ∧ (iN m 61 t.toNatClampNeg < 2 ∧ m 44 45 < 0)))) (h1 : ¬ (((0 ≤ t ∧ t ≤ 2) ∧ ¬ (iN m 61 t.toNatClampNeg < 2 ∧ m 44 45 < 0)))) : MX11_upgrade 3 200 [.ref 0, .int t] T I J R (EX (pt (-71) m)) := by
  have hdm := h.dy
  obtain ⟨sq, gq, eq, pq, h9⟩ := h.g9
  refine AMet.mono (m_X11_upgrade h9 t ) (ex_of (by simp) hdm (fun y m2 q => ?_) (fun j E9 hj q => ?_))
  · rcases q with ⟨q0, q1, q2, q3⟩ | ⟨q0, q1, q2⟩ | ⟨q0, q1, q2⟩
    · exact (h0 q0).elim
    · exact absurd q1 (by omega)
    · exact absurd q1 (by omega)
  · rcases q with ⟨q0, q1, q2, q3⟩ | ⟨q0, q1, q2⟩ | ⟨q0, q1, q2⟩
    · exact absurd q1 (by omega)
    · exact (h1 q0).elim
    · obtain rfl : j = 0 := by omega
      obtain rfl : exI = E9 := Option.some.inj hj
      exact ⟨xc_I, rfl⟩
