/-! WHAT IS ASKED OF THE ESTATE, at any ghost -/
noncomputable def ndB (m : aI) (mj : aJ) (N : Nat → Int32) (k : Nat) : Bool := allB (fun y => decide (N y = sCmp (a_ur m 91 N) mj y)) k
theorem ndB_ok {m : aI} {mj : aJ} {N : Nat → Int32} {k : Nat} (h : ndB m mj N k = true) : NdR m mj N k := fun y hy => of_decide_eq_true (allB_iff.mp h y hy)
/-- the list of actions -/
def plA (m M : aI) (S : Nat → Int64) (n g : Nat) (w : Int32) (N : Nat → Int32) : Option (List Nat) := if cPv (gst m M) (fun _ => S) n g w = true then some (allA (a_ur (gst m M) 91 N) (16 * g)) else none
theorem gst_cx {m M M2 : aI} {n : Nat} (b1 : DQ M M2 n) (b4 : M2 44 57 = M 44 57) : gst m M2 44 57 = gst m M 44 57 ∧ (∀ o, 58 ≤ o → o ≤ 73 → gst m M2 o = gst m M o) ∧ ∀ s, s < n → gst m M2 86 s = gst m M 86 s :=
  ⟨by rw [gst_57, gst_57, b4], fun o u v => by rw [gst_lo (by omega) (by omega), gst_lo (by omega) (by omega)], fun s hs9 => by rw [gst_hi (by decide), gst_hi (by decide)]; exact (b1.2.2.2 s hs9).2.2⟩
theorem gst_so {m M : aI} (h : SO3 m) : SO3 (gst m M) := SO3_cg (gst_lo (by decide) (by decide)) h
theorem nd_cx {m M M2 : aI} {n g : Nat} {S : Nat → Int64} {JA mj : aJ} {N N2 : Nat → Int32} (hg : GW m g) (b1 : DQ M M2 n) (b4 : M2 44 57 = M 44 57) (gA : JA 88 = S) (gJ : mj 88 = S) (hN : NdR (gst m M) JA N (16 * g)) (c : NdR (gst m M2) mj N2 (16 * g)) : ∀ x, x < 16 * g → N2 x = N x := by
  obtain ⟨g57, gr, _⟩ := gst_cx (m := m) b1 b4
  have q := cmp_eq (A := a_ur (gst m M) 91 N) (JA := JA) (B := a_ur (gst m M2) 91 N2) (JB := mj) (g := g) hg.g4 (SO3_cg (a_ur_ne (by decide)) (gst_so hg.so)) (by rw [a_ur_ne (by decide), a_ur_ne (by decide)]; exact g57) (gJ.trans gA.symm) (fun o u v => by rw [a_ur_ne (by omega), a_ur_ne (by omega)]; exact gr o u v) (fun x hx => by rw [a_ur_self]; exact hN x hx) (fun x hx => by rw [a_ur_self]; exact c x hx)
  intro x hx
  have e := q x hx
  rw [a_ur_self, a_ur_self] at e
  exact e
theorem PlQ.det {m M : aI} {P S : Nat → Int64} {w : Int32} {N : Nat → Int32} {A : Option (List Nat)} (hS : SW m (iN m 44 0)) (hg : GW m (iN m 44 20)) (hs : SvM m P S M) (ht : TnL M (fun _ => P) (iN m 44 0) w) (hN : NdR (gst m M) (fun _ => S) N (16 * iN m 44 20)) (h : PlQ m (iN m 44 0) (iN m 44 20) A) : A = plA m M S (iN m 44 0) (iN m 44 20) w N := by
  obtain ⟨m0, M2, P2, S2, mj, w2, a1, a2, a3, a4, a5⟩ := h
  obtain ⟨b1, b2, b3, b4⟩ := hs.use hS a1 a2
  rw [b2] at a4
  have ew : w2 = w := b1.tnL ht a4
  rw [ew] at a5
  have gJ : mj 88 = S := a3.trans b3
  obtain ⟨g57, gr, g86⟩ := gst_cx (m := m) b1 b4
  rw [cPv_cr (A := gst m M) (JA := fun _ => S) hg.g4 (gst_so hg.so) g57 gJ gr g86] at a5
  unfold plA
  rcases a5 with ⟨c1, c2⟩ | ⟨c1, N2, G, c2, c3⟩
  · rw [if_neg (by rw [c1]; decide)]; exact c2
  · rw [if_pos c1, c3]
    have e := nd_cx hg b1 b4 rfl gJ hN (fun y hy => (c2 y hy).1)
    exact congrArg some (allA_cx (by rw [a_ur_ne (by decide), a_ur_ne (by decide)]; exact gr 59 (by decide) (by decide)) (by rw [a_ur_ne (by decide), a_ur_ne (by decide)]; exact gr 62 (by decide) (by decide)) (fun x hx => by rw [a_ur_self, a_ur_self]; exact e x hx))
/-- the actions that are due -/
def Fnd (m : aI) (A0 : Option (List Nat)) : Prop := ∀ A, SW m (iN m 44 0) → GW m (iN m 44 20) → PlQ m (iN m 44 0) (iN m 44 20) A → A = A0
theorem Fnd.mk {m M : aI} {P S : Nat → Int64} {w : Int32} {N : Nat → Int32} {A0 : Option (List Nat)} (hs : SvM m P S M) (ht : TnL M (fun _ => P) (iN m 44 0) w) (hN : ndB (gst m M) (fun _ => S) N (16 * iN m 44 20) = true) (hA : plA m M S (iN m 44 0) (iN m 44 20) w N = A0) : Fnd m A0 := fun A h1 h2 h => by
  rw [← hA]; exact PlQ.det h1 h2 hs ht (ndB_ok hN) h
theorem PlQ.uniq {m : aI} {n g : Nat} {A B : Option (List Nat)} (hS : SW m n) (hg : GW m g) (hA : PlQ m n g A) (hB : PlQ m n g B) : B = A := by
  obtain ⟨m0, M, P, S, ma, w, a1, a2, a3, a4, a5⟩ := hA
  obtain ⟨m2, M2, P2, S2, mj, w2, b1, b2, b3, b4, b5⟩ := hB
  have e1 := StEq.sym a1
  obtain ⟨c1, c2, c3, c4⟩ := SolR_uniq (SW_cgr hS (fun o u v => a1.1 o ⟨u, by omega⟩) a1.2.1) (StEq.trans e1 b1) a2 b2
  rw [c2] at b4
  have ew : w2 = w := c1.tnL a4 b4
  rw [ew] at b5
  have gJ : mj 88 = S := b3.trans c3
  obtain ⟨g57, gr, g86⟩ := gst_cx (m := m) c1 c4
  rw [cPv_cr (A := gst m M) (JA := ma) hg.g4 (gst_so hg.so) g57 (gJ.trans a3.symm) gr g86] at b5
  rcases a5 with ⟨d1, d2⟩ | ⟨d1, N, G, d2, d3⟩
  · rcases b5 with ⟨f1, f2⟩ | ⟨f1, N2, G2, f2, f3⟩
    · rw [d2, f2]
    · rw [d1] at f1; cases f1
  · rcases b5 with ⟨f1, f2⟩ | ⟨f1, N2, G2, f2, f3⟩
    · rw [d1] at f1; cases f1
    · rw [d3, f3]
      have e := nd_cx hg c1 c4 a3 gJ (fun y hy => (d2 y hy).1) (fun y hy => (f2 y hy).1)
      exact congrArg some (allA_cx (by rw [a_ur_ne (by decide), a_ur_ne (by decide)]; exact gr 59 (by decide) (by decide)) (by rw [a_ur_ne (by decide), a_ur_ne (by decide)]; exact gr 62 (by decide) (by decide)) (fun x hx => by rw [a_ur_self, a_ur_self]; exact e x hx))
theorem Fnd.of {m : aI} {A : Option (List Nat)} (h : PlQ m (iN m 44 0) (iN m 44 20) A) : Fnd m A := fun B h1 h2 hB => PlQ.uniq h1 h2 h hB
theorem GX.gw {T : List aT} {I : aI} {J : aJ} {R : aR} {m : aI} (h : GX T I J R m) : GW m (iN m 44 20) := by
  obtain ⟨sq, gq, eq, pq, h9⟩ := h.g9; exact h9.es.1.1
section AE
variable {T : List aT} {I : aI} {J : aJ} {R : aR} {m m9 : aI} {A0 : Option (List Nat)} {x w9 : Int32}
theorem e_pending (h : GX T I J R m) (hF : Fnd m A0) (hv : aLen A0 = w9) : MX11_pending 3 200 [.ref 0] T I J R (EK (pt w9 m)) := by
  have hd := h.dy
  obtain ⟨sq, gq, eq, pq, h9⟩ := h.g9
  refine AMet.mono (m_X11_pending h9) (ek0_of (fun y m2 q => ?_))
  · obtain ⟨q0, ⟨A, a1, a2⟩, q3⟩ := q
    rw [hF _ h9.bk.1 h9.es.1.1 a1] at a2
    exact ⟨⟨a2.trans hv, q3⟩, by rw [q3]; exact hd⟩
theorem c_pending (h : GX T I J R m) : MX11_pending 3 200 [.ref 0] T I J R (EK (fun w m2 => m2 = m ∧ ∃ A, PlQ m (iN m 44 0) (iN m 44 20) A ∧ w = aLen A)) := by
  have hd := h.dy
  obtain ⟨sq, gq, eq, pq, h9⟩ := h.g9
  refine AMet.mono (m_X11_pending h9) (ek0_of (fun y m2 q => ?_))
  · obtain ⟨q0, ⟨A, a1, a2⟩, q3⟩ := q
    exact ⟨⟨q3, A, a1, a2⟩, by rw [q3]; exact hd⟩
theorem e_isStale (h : GX T I J R m) (hF : Fnd m A0) (h1 : 0 ≤ x ∧ x < nI (iN m 44 36)) (hv : bI (decide (m 76 x.toNatClampNeg ≠ m 44 35) || !hasA m x.toNatClampNeg A0) = w9) : MX11_isStale 3 200 [.ref 0, .int x] T I J R (EB (pt w9 m)) := by
  have hd := h.dy
  obtain ⟨sq, gq, eq, pq, h9⟩ := h.g9
  refine AMet.mono (m_X11_isStale h9 x) (eb_of (fun v z q => by
    rcases q with ⟨q0, q1, ⟨A, a1, a2⟩, q3⟩ | ⟨q0, q1, q2⟩
    · rw [a2]; exact bI_01 _
    · exact absurd q1 (by decide)) (by simp) hd (fun y m2 q => ?_) (fun j E9 hj q => ?_))
  · rcases q with ⟨q0, q1, ⟨A, a1, a2⟩, q3⟩ | ⟨q0, q1, q2⟩
    · rw [hF _ h9.bk.1 h9.es.1.1 a1] at a2
      exact ⟨⟨a2.trans hv, q3⟩, by rw [q3]; exact hd⟩
    · exact absurd q1 (by omega)
  · rcases q with ⟨q0, q1, q2, q3⟩ | ⟨q0, q1, q2⟩
    · exact absurd q1 (by omega)
    · exact (q0 h1).elim
theorem x_isStale_exI (h : GX T I J R m) (h1 : ¬ (0 ≤ x ∧ x < nI (iN m 44 36))) : MX11_isStale 3 200 [.ref 0, .int x] T I J R (EB (pt (-71) m)) := by
  have hd := h.dy
  obtain ⟨sq, gq, eq, pq, h9⟩ := h.g9
  refine AMet.mono (m_X11_isStale h9 x) (eb_of (fun v z q => by
    rcases q with ⟨q0, q1, ⟨A, a1, a2⟩, q3⟩ | ⟨q0, q1, q2⟩
    · rw [a2]; exact bI_01 _
    · exact absurd q1 (by decide)) (by simp) hd (fun y m2 q => ?_) (fun j E9 hj q => ?_))
  · rcases q with ⟨q0, q1, q2, q3⟩ | ⟨q0, q1, q2⟩
    · exact (h1 q0).elim
    · exact absurd q1 (by omega)
  · rcases q with ⟨q0, q1, q2, q3⟩ | ⟨q0, q1, q2⟩
    · exact (h1 q0).elim
    · obtain rfl : j = 0 := by omega
      obtain rfl : exI = E9 := Option.some.inj hj
      exact ⟨xc_I, rfl⟩
theorem e_rebase (h : GX T I J R m) (hF : Fnd m A0) (h1 : (0 ≤ x ∧ x < nI (iN m 44 36)) ∧ m 78 x.toNatClampNeg = 0) (hv : bI (hasA m x.toNatClampNeg A0) = w9) (hm : (if hasA m x.toNatClampNeg A0 = true then a_u m 76 x.toNatClampNeg (m 44 35) else m) = m9) (hd9 : dyM m9) : MX11_rebase 3 200 [.ref 0, .int x] T I J R (EB (pt w9 m9)) := by
  have hd := h.dy
  obtain ⟨sq, gq, eq, pq, h9⟩ := h.g9
  refine AMet.mono (m_X11_rebase h9 x) (eb_of (fun v z q => by
    rcases q with ⟨q0, q1, A, a1, a2, a3⟩ | ⟨q0, q1, q2⟩ | ⟨q0, q1, q2⟩
    · rw [a2]; exact bI_01 _
    · exact absurd q1 (by decide)
    · exact absurd q1 (by decide)) (by simp) hd (fun y m2 q => ?_) (fun j E9 hj q => ?_))
  · rcases q with ⟨q0, q1, A, a1, a2, a3⟩ | ⟨q0, q1, q2⟩ | ⟨q0, q1, q2⟩
    · rw [hF _ h9.bk.1 h9.es.1.1 a1] at a2 a3
      exact ⟨⟨a2.trans hv, a3.trans hm⟩, by rw [a3.trans hm]; exact hd9⟩
    · exact absurd q1 (by omega)
    · exact absurd q1 (by omega)
  · rcases q with ⟨q0, q1, q2⟩ | ⟨q0, q1, q2⟩ | ⟨q0, q1, q2⟩
    · exact absurd q1 (by omega)
    · exact (q0.2 h1.2).elim
    · exact (q0 h1.1).elim
theorem x_rebase_exS (h : GX T I J R m) (h1 : (0 ≤ x ∧ x < nI (iN m 44 36)) ∧ m 78 x.toNatClampNeg ≠ 0) : MX11_rebase 3 200 [.ref 0, .int x] T I J R (EB (pt (-73) m)) := by
  have hd := h.dy
  obtain ⟨sq, gq, eq, pq, h9⟩ := h.g9
  refine AMet.mono (m_X11_rebase h9 x) (eb_of (fun v z q => by
    rcases q with ⟨q0, q1, A, a1, a2, a3⟩ | ⟨q0, q1, q2⟩ | ⟨q0, q1, q2⟩
    · rw [a2]; exact bI_01 _
    · exact absurd q1 (by decide)
    · exact absurd q1 (by decide)) (by simp) hd (fun y m2 q => ?_) (fun j E9 hj q => ?_))
  · rcases q with ⟨q0, q1, q2⟩ | ⟨q0, q1, q2⟩ | ⟨q0, q1, q2⟩
    · exact (h1.2 q0.2).elim
    · exact absurd q1 (by omega)
    · exact absurd q1 (by omega)
  · rcases q with ⟨q0, q1, q2⟩ | ⟨q0, q1, q2⟩ | ⟨q0, q1, q2⟩
    · exact absurd q1 (by omega)
    · obtain rfl : j = 1 := by omega
      obtain rfl : exS = E9 := Option.some.inj hj
      exact ⟨xc_S, rfl⟩
    · exact (q0 h1.1).elim
theorem x_rebase_exI (h : GX T I J R m) (h1 : ¬ (0 ≤ x ∧ x < nI (iN m 44 36))) : MX11_rebase 3 200 [.ref 0, .int x] T I J R (EB (pt (-71) m)) := by
  have hd := h.dy
  obtain ⟨sq, gq, eq, pq, h9⟩ := h.g9
  refine AMet.mono (m_X11_rebase h9 x) (eb_of (fun v z q => by
    rcases q with ⟨q0, q1, A, a1, a2, a3⟩ | ⟨q0, q1, q2⟩ | ⟨q0, q1, q2⟩
    · rw [a2]; exact bI_01 _
    · exact absurd q1 (by decide)
    · exact absurd q1 (by decide)) (by simp) hd (fun y m2 q => ?_) (fun j E9 hj q => ?_))
  · rcases q with ⟨q0, q1, q2⟩ | ⟨q0, q1, q2⟩ | ⟨q0, q1, q2⟩
    · exact (h1 q0.1).elim
    · exact absurd q1 (by omega)
    · exact absurd q1 (by omega)
  · rcases q with ⟨q0, q1, q2⟩ | ⟨q0, q1, q2⟩ | ⟨q0, q1, q2⟩
    · exact absurd q1 (by omega)
    · exact (h1 q0.1).elim
    · obtain rfl : j = 0 := by omega
      obtain rfl : exI = E9 := Option.some.inj hj
      exact ⟨xc_I, rfl⟩
theorem e_plan {L : List Nat} (h : GX T I J R m) (hF : Fnd m (some L)) (h1 : (0 ≤ x ∧ x ≤ 2) ∧ iN m 44 36 ≠ 40) (hv : nI (iN m 44 36) = w9) (hm : plB m (iN m 44 36) L x = m9) (hd9 : dyM m9) : MX11_plan 3 200 [.ref 0, .int x] T I J R (EX (pt w9 m9)) := by
  have hd := h.dy
  obtain ⟨sq, gq, eq, pq, h9⟩ := h.g9
  refine AMet.mono (m_X11_plan h9 x) (ex_of (by simp) hd (fun y m2 q => ?_) (fun j E9 hj q => ?_))
  · rcases q with ⟨q0, A, a1, ⟨L2, a2, a3, a4, a5⟩ | ⟨a2, a3, a4⟩⟩ | ⟨q0, q1, q2⟩ | ⟨q0, q1, q2⟩
    · rw [hF _ h9.bk.1 h9.es.1.1 a1] at a2
      cases a2
      exact ⟨⟨a4.trans hv, a5.trans hm⟩, by rw [a5.trans hm]; exact hd9⟩
    · exact absurd a3 (by omega)
    · exact absurd q1 (by omega)
    · exact absurd q1 (by omega)
  · rcases q with ⟨q0, A, a1, ⟨L2, a2, a3, a4, a5⟩ | ⟨a2, a3, a4⟩⟩ | ⟨q0, q1, q2⟩ | ⟨q0, q1, q2⟩
    · exact absurd a3 (by omega)
    · rw [hF _ h9.bk.1 h9.es.1.1 a1] at a2
      cases a2
    · exact (h1.2 q0.2).elim
    · exact (q0 h1.1).elim
theorem x_plan_none (h : GX T I J R m) (hF : Fnd m none) (h1 : 0 ≤ x ∧ x ≤ 2) : MX11_plan 3 200 [.ref 0, .int x] T I J R (EX (pt (-73) m)) := by
  have hd := h.dy
  obtain ⟨sq, gq, eq, pq, h9⟩ := h.g9
  refine AMet.mono (m_X11_plan h9 x) (ex_of (by simp) hd (fun y m2 q => ?_) (fun j E9 hj q => ?_))
  · rcases q with ⟨q0, A, a1, ⟨L2, a2, a3, a4, a5⟩ | ⟨a2, a3, a4⟩⟩ | ⟨q0, q1, q2⟩ | ⟨q0, q1, q2⟩
    · rw [hF _ h9.bk.1 h9.es.1.1 a1] at a2
      cases a2
    · exact absurd a3 (by omega)
    · exact absurd q1 (by omega)
    · exact absurd q1 (by omega)
  · rcases q with ⟨q0, A, a1, ⟨L2, a2, a3, a4, a5⟩ | ⟨a2, a3, a4⟩⟩ | ⟨q0, q1, q2⟩ | ⟨q0, q1, q2⟩
    · exact absurd a3 (by omega)
    · obtain rfl : j = 1 := by omega
      obtain rfl : exS = E9 := Option.some.inj hj
      exact ⟨xc_S, rfl⟩
    · obtain rfl : j = 1 := by omega
      obtain rfl : exS = E9 := Option.some.inj hj
      exact ⟨xc_S, rfl⟩
    · exact (q0 h1).elim
theorem x_plan_full (h : GX T I J R m) (h1 : (0 ≤ x ∧ x ≤ 2) ∧ iN m 44 36 = 40) : MX11_plan 3 200 [.ref 0, .int x] T I J R (EX (pt (-73) m)) := by
  have hd := h.dy
  obtain ⟨sq, gq, eq, pq, h9⟩ := h.g9
  refine AMet.mono (m_X11_plan h9 x) (ex_of (by simp) hd (fun y m2 q => ?_) (fun j E9 hj q => ?_))
  · rcases q with ⟨q0, A, q1⟩ | ⟨q0, q1, q2⟩ | ⟨q0, q1, q2⟩
    · exact (q0.2 h1.2).elim
    · exact absurd q1 (by omega)
    · exact absurd q1 (by omega)
  · rcases q with ⟨q0, A, q1⟩ | ⟨q0, q1, q2⟩ | ⟨q0, q1, q2⟩
    · exact (q0.2 h1.2).elim
    · obtain rfl : j = 1 := by omega
      obtain rfl : exS = E9 := Option.some.inj hj
      exact ⟨xc_S, rfl⟩
    · exact (q0 h1.1).elim
theorem x_plan_exI (h : GX T I J R m) (h1 : ¬ (0 ≤ x ∧ x ≤ 2)) : MX11_plan 3 200 [.ref 0, .int x] T I J R (EX (pt (-71) m)) := by
  have hd := h.dy
  obtain ⟨sq, gq, eq, pq, h9⟩ := h.g9
  refine AMet.mono (m_X11_plan h9 x) (ex_of (by simp) hd (fun y m2 q => ?_) (fun j E9 hj q => ?_))
  · rcases q with ⟨q0, A, q1⟩ | ⟨q0, q1, q2⟩ | ⟨q0, q1, q2⟩
    · exact (h1 q0.1).elim
    · exact absurd q1 (by omega)
    · exact absurd q1 (by omega)
  · rcases q with ⟨q0, A, q1⟩ | ⟨q0, q1, q2⟩ | ⟨q0, q1, q2⟩
    · exact (h1 q0.1).elim
    · exact (h1 q0.1).elim
    · obtain rfl : j = 0 := by omega
      obtain rfl : exI = E9 := Option.some.inj hj
      exact ⟨xc_I, rfl⟩
theorem e_apply (h : GX T I J R m) (hF : Fnd m A0) (h0 : hasA m x.toNatClampNeg A0 = true) (h1 : (0 ≤ x ∧ x < nI (iN m 44 36)) ∧ canAp m x.toNatClampNeg) (hv : m 79 x.toNatClampNeg = w9) (hm : apB m x.toNatClampNeg = m9) (hd9 : dyM m9) : MX11_apply 3 200 [.ref 0, .int x] T I J R (EX (pt w9 m9)) := by
  have hd := h.dy
  obtain ⟨sq, gq, eq, pq, h9⟩ := h.g9
  refine AMet.mono (m_X11_apply h9 (by decide) x) (ex_of (by simp) hd (fun y m2 q => ?_) (fun j E9 hj q => ?_))
  · rcases q with ⟨q0, A, a1, ⟨a2, a3, a4, a5⟩ | ⟨a2, a3, a4⟩⟩ | ⟨q0, q1, q2⟩ | ⟨q0, q1, q2⟩
    · exact ⟨⟨a4.trans hv, a5.trans hm⟩, by rw [a5.trans hm]; exact hd9⟩
    · exact absurd a3 (by omega)
    · exact absurd q1 (by omega)
    · exact absurd q1 (by omega)
  · rcases q with ⟨q0, A, a1, ⟨a2, a3, a4, a5⟩ | ⟨a2, a3, a4⟩⟩ | ⟨q0, q1, q2⟩ | ⟨q0, q1, q2⟩
    · exact absurd a3 (by omega)
    · rw [hF _ h9.bk.1 h9.es.1.1 a1, h0] at a2
      cases a2
    · exact (q0.2 h1.2).elim
    · exact (q0 h1.1).elim
theorem x_apply (h : GX T I J R m) (h1 : (0 ≤ x ∧ x < nI (iN m 44 36)) ∧ ¬ canAp m x.toNatClampNeg) : MX11_apply 3 200 [.ref 0, .int x] T I J R (EX (pt (-73) m)) := by
  have hd := h.dy
  obtain ⟨sq, gq, eq, pq, h9⟩ := h.g9
  refine AMet.mono (m_X11_apply h9 (by decide) x) (ex_of (by simp) hd (fun y m2 q => ?_) (fun j E9 hj q => ?_))
  · rcases q with ⟨q0, A, q1⟩ | ⟨q0, q1, q2⟩ | ⟨q0, q1, q2⟩
    · exact (h1.2 q0.2).elim
    · exact absurd q1 (by omega)
    · exact absurd q1 (by omega)
  · rcases q with ⟨q0, A, q1⟩ | ⟨q0, q1, q2⟩ | ⟨q0, q1, q2⟩
    · exact (h1.2 q0.2).elim
    · obtain rfl : j = 1 := by omega
      obtain rfl : exS = E9 := Option.some.inj hj
      exact ⟨xc_S, rfl⟩
    · exact (q0 h1.1).elim
theorem x_apply_not (h : GX T I J R m) (hF : Fnd m A0) (h0 : hasA m x.toNatClampNeg A0 = false) (h1 : 0 ≤ x ∧ x < nI (iN m 44 36)) : MX11_apply 3 200 [.ref 0, .int x] T I J R (EX (pt (-73) m)) := by
  have hd := h.dy
  obtain ⟨sq, gq, eq, pq, h9⟩ := h.g9
  refine AMet.mono (m_X11_apply h9 (by decide) x) (ex_of (by simp) hd (fun y m2 q => ?_) (fun j E9 hj q => ?_))
  · rcases q with ⟨q0, A, a1, ⟨a2, a3, a4, a5⟩ | ⟨a2, a3, a4⟩⟩ | ⟨q0, q1, q2⟩ | ⟨q0, q1, q2⟩
    · rw [hF _ h9.bk.1 h9.es.1.1 a1, h0] at a2
      cases a2
    · exact absurd a3 (by omega)
    · exact absurd q1 (by omega)
    · exact absurd q1 (by omega)
  · rcases q with ⟨q0, A, a1, ⟨a2, a3, a4, a5⟩ | ⟨a2, a3, a4⟩⟩ | ⟨q0, q1, q2⟩ | ⟨q0, q1, q2⟩
    · exact absurd a3 (by omega)
    · obtain rfl : j = 1 := by omega
      obtain rfl : exS = E9 := Option.some.inj hj
      exact ⟨xc_S, rfl⟩
    · obtain rfl : j = 1 := by omega
      obtain rfl : exS = E9 := Option.some.inj hj
      exact ⟨xc_S, rfl⟩
    · exact (q0 h1).elim
theorem x_apply_exI (h : GX T I J R m) (h1 : ¬ (0 ≤ x ∧ x < nI (iN m 44 36))) : MX11_apply 3 200 [.ref 0, .int x] T I J R (EX (pt (-71) m)) := by
  have hd := h.dy
  obtain ⟨sq, gq, eq, pq, h9⟩ := h.g9
  refine AMet.mono (m_X11_apply h9 (by decide) x) (ex_of (by simp) hd (fun y m2 q => ?_) (fun j E9 hj q => ?_))
  · rcases q with ⟨q0, A, q1⟩ | ⟨q0, q1, q2⟩ | ⟨q0, q1, q2⟩
    · exact (h1 q0.1).elim
    · exact absurd q1 (by omega)
    · exact absurd q1 (by omega)
  · rcases q with ⟨q0, A, q1⟩ | ⟨q0, q1, q2⟩ | ⟨q0, q1, q2⟩
    · exact (h1 q0.1).elim
    · exact (h1 q0.1).elim
    · obtain rfl : j = 0 := by omega
      obtain rfl : exI = E9 := Option.some.inj hj
      exact ⟨xc_I, rfl⟩
/-- what the sources give, and how many names differ -/
theorem GvQ.det {M : aI} {P S : Nat → Int64} {N G : Nat → Int32} {z a : Nat} (hS : SW m (iN m 44 0)) (hg : GW m (iN m 44 20)) (hs : SvM m P S M) (hN : NdR (gst m M) (fun _ => S) N (16 * iN m 44 20)) (h : GvQ m (iN m 44 0) (iN m 44 20) G) (hx : z < 16 * iN m 44 20) (ha : a < 3) : G (3 * z + a) = sGives (a_ur (gst m M) 91 N) (fun _ => S) z a := by
  obtain ⟨m0, M2, P2, S2, mj, N2, a1, a2, a3, c2⟩ := h
  obtain ⟨b1, b2, b3, b4⟩ := hs.use hS a1 a2
  have gJ : mj 88 = S := a3.trans b3
  obtain ⟨g57, gr, g86⟩ := gst_cx (m := m) b1 b4
  have e := nd_cx hg b1 b4 rfl gJ hN (fun y hy => (c2 y hy).1)
  have hg4 := hg.g4
  rw [(c2 z hx).2 a ha]
  have rr : ∀ o, 58 ≤ o → o ≤ 73 → a_ur (gst m M2) 91 N2 o = a_ur (gst m M) 91 N o := fun o u v => by rw [a_ur_ne (by omega), a_ur_ne (by omega)]; exact gr o u v
  exact sGives_cg (SO3_cg (a_ur_ne (by decide)) (gst_so hg.so)) (by omega) ha (by rw [a_ur_ne (by decide), a_ur_ne (by decide)]; exact g57) gJ (rr 58 (by decide) (by decide)) (rr 61 (by decide) (by decide)) (rr 62 (by decide) (by decide)) (rr 65 (by decide) (by decide)) (rr 69 (by decide) (by decide)) (rr 70 (by decide) (by decide)) (fun y hy => by rw [a_ur_self, a_ur_self]; exact e y (by omega))
theorem e_given {M : aI} {P S : Nat → Int64} {N : Nat → Int32} {z a : Nat} (h : GX T I J R m) (hs : SvM m P S M) (hN : ndB (gst m M) (fun _ => S) N (16 * iN m 44 20) = true) (hx : z < 16 * iN m 44 20) (ha : a < 3) (h1 : (0 ≤ nI z ∧ nI z < nI (16 * iN m 44 20)) ∧ (0 ≤ nI a ∧ nI a ≤ 2)) (h2 : (3 * nI z + nI a).toNatClampNeg = 3 * z + a) (hv : sGives (a_ur (gst m M) 91 N) (fun _ => S) z a = w9) : MX11_given 3 200 [.ref 0, .int (nI z), .int (nI a)] T I J R (EX (pt w9 m)) := by
  have hd := h.dy
  obtain ⟨sq, gq, eq, pq, h9⟩ := h.g9
  refine AMet.mono (m_X11_given h9 (nI z) (nI a)) (ex_of (by simp) hd (fun y m2 q => ?_) (fun j E9 hj q => ?_))
  · rcases q with ⟨q0, q1, ⟨G, a1, a2⟩, q3⟩ | ⟨q0, q1, q2⟩
    · refine ⟨⟨?_, q3⟩, by rw [q3]; exact hd⟩
      rw [a2, h2, GvQ.det h9.bk.1 h9.es.1.1 hs (ndB_ok hN) a1 hx ha]
      exact hv
    · exact absurd q1 (by omega)
  · rcases q with ⟨q0, q1, q2, q3⟩ | ⟨q0, q1, q2⟩
    · exact absurd q1 (by omega)
    · exact (q0 h1).elim
theorem x_given_exI {a : Int32} (h : GX T I J R m) (h1 : ¬ ((0 ≤ x ∧ x < nI (16 * iN m 44 20)) ∧ (0 ≤ a ∧ a ≤ 2))) : MX11_given 3 200 [.ref 0, .int x, .int a] T I J R (EX (pt (-71) m)) := by
  have hd := h.dy
  obtain ⟨sq, gq, eq, pq, h9⟩ := h.g9
  refine AMet.mono (m_X11_given h9 x a) (ex_of (by simp) hd (fun y m2 q => ?_) (fun j E9 hj q => ?_))
  · rcases q with ⟨q0, q1, q2, q3⟩ | ⟨q0, q1, q2⟩
    · exact (h1 q0).elim
    · exact absurd q1 (by omega)
  · rcases q with ⟨q0, q1, q2, q3⟩ | ⟨q0, q1, q2⟩
    · exact (h1 q0).elim
    · obtain rfl : j = 0 := by omega
      obtain rfl : exI = E9 := Option.some.inj hj
      exact ⟨xc_I, rfl⟩
theorem DfQ.det {M : aI} {P S : Nat → Int64} {N : Nat → Int32} {w v : Int32} (hS : SW m (iN m 44 0)) (hg : GW m (iN m 44 20)) (hs : SvM m P S M) (ht : TnL M (fun _ => P) (iN m 44 0) w) (hN : NdR (gst m M) (fun _ => S) N (16 * iN m 44 20)) (h : DfQ m (iN m 44 0) (iN m 44 20) v) : v = (if cPv (gst m M) (fun _ => S) (iN m 44 0) (iN m 44 20) w = true then nI (cntT (fun x => decide (0 < N x)) (16 * iN m 44 20)) else -1) := by
  obtain ⟨m0, M2, P2, S2, mj, w2, N2, a1, a2, a3, a4, a5, a6⟩ := h
  obtain ⟨b1, b2, b3, b4⟩ := hs.use hS a1 a2
  rw [b2] at a4
  have ew : w2 = w := b1.tnL ht a4
  have gJ : mj 88 = S := a3.trans b3
  obtain ⟨g57, gr, g86⟩ := gst_cx (m := m) b1 b4
  have e := nd_cx hg b1 b4 rfl gJ hN a5
  rw [a6, ew, cPv_cr (A := gst m M) (JA := fun _ => S) hg.g4 (gst_so hg.so) (by rw [a_ur_ne (by decide)]; exact g57) gJ (fun o u v => by rw [a_ur_ne (by omega)]; exact gr o u v) (fun s hs9 => by rw [a_ur_ne (by decide)]; exact g86 s hs9)]
  by_cases c : cPv (gst m M) (fun _ => S) (iN m 44 0) (iN m 44 20) w = true
  · rw [if_pos c, if_pos c]
    exact congrArg nI (cntT_cgx (fun x hx => by rw [e x hx]))
  · rw [if_neg c, if_neg c]
theorem e_differing {M : aI} {P S : Nat → Int64} {N : Nat → Int32} {w : Int32} (h : GX T I J R m) (hs : SvM m P S M) (ht : TnL M (fun _ => P) (iN m 44 0) w) (hN : ndB (gst m M) (fun _ => S) N (16 * iN m 44 20) = true) (hv : (if cPv (gst m M) (fun _ => S) (iN m 44 0) (iN m 44 20) w = true then nI (cntT (fun x => decide (0 < N x)) (16 * iN m 44 20)) else -1) = w9) : MX11_differing 3 200 [.ref 0] T I J R (EK (pt w9 m)) := by
  have hd := h.dy
  obtain ⟨sq, gq, eq, pq, h9⟩ := h.g9
  refine AMet.mono (m_X11_differing h9) (ek0_of (fun y m2 q => ?_))
  · obtain ⟨q0, q1, q3⟩ := q
    exact ⟨⟨(DfQ.det h9.bk.1 h9.es.1.1 hs ht (ndB_ok hN) q1).trans hv, q3⟩, by rw [q3]; exact hd⟩
/-- no plan can be made just where none differs: what the drawn turns ask -/
theorem c_differing (h : GX T I J R m) : MX11_differing 3 200 [.ref 0] T I J R (EK (fun w m2 => m2 = m ∧ ∀ A, PlQ m (iN m 44 0) (iN m 44 20) A → (w < 0 ↔ A = none))) := by
  have hd := h.dy
  obtain ⟨sq, gq, eq, pq, h9⟩ := h.g9
  refine AMet.mono (m_X11_differing h9) (ek0_of (fun y m2 q => ?_))
  · obtain ⟨q0, q1, q3⟩ := q
    refine ⟨⟨q3, fun A hA => ?_⟩, by rw [q3]; exact hd⟩
    obtain ⟨m0, M, P, S, mj, w, N, a1, a2, a3, a4, a5, a6⟩ := q1
    obtain ⟨l0, M2, P2, S2, mk9, w2, b1, b2, b3, b4, b5⟩ := hA
    have hS := h9.bk.1
    have hg := h9.es.1.1
    obtain ⟨c1, c2, c3, c4⟩ := (SvM.of a1 a2).use hS b1 b2
    rw [c2] at b4
    have ew : w2 = w := c1.tnL a4 b4
    obtain ⟨g57, gr, g86⟩ := gst_cx (m := m) c1 c4
    rw [ew, cPv_cr (A := gst m M) (JA := mj) hg.g4 (gst_so hg.so) g57 ((b3.trans c3).trans a3.symm) gr g86] at b5
    rw [cPv_cr (A := gst m M) (JA := mj) hg.g4 (gst_so hg.so) (by rw [a_ur_ne (by decide)]) rfl (fun o u v => by rw [a_ur_ne (by omega)]) (fun s hs9 => by rw [a_ur_ne (by decide)])] at a6
    have n0 : ∀ k, k ≤ 64 → ¬ (nI k < 0) := fun k hk z => by
      simp only [i_lt, Int32.reduceToInt] at z
      rw [show (nI k).toInt = k from by rw [nI]; exact Int32.toInt_ofNat_of_lt (by omega)] at z
      omega
    have hg4 := hg.g4
    have hc := cntT_le (fun x => decide (0 < N x)) (16 * iN m 44 20)
    rcases b5 with ⟨f1, f2⟩ | ⟨f1, N2, G2, f2, f3⟩
    · rw [f1, if_neg (by decide)] at a6
      exact ⟨fun _ => f2, fun _ => by rw [a6]; decide⟩
    · rw [f1, if_pos rfl] at a6
      refine ⟨fun z => absurd z (by rw [a6]; exact n0 _ (by omega)), fun z => by rw [f3] at z; cases z⟩
end AE
