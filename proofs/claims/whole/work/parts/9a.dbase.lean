/-! THE MODEL DOES THE SAME -/
theorem LEq.s61 {a b : aI} {v : Int32} (h : LEq a b) : LEq a (a_u b 44 61 v) := ⟨fun o u w => by rw [a_u_row (by omega)]; exact h.1 o u w, fun k z1 z2 z3 z4 => by rw [a_u_ne (fun z => z4 z.2)]; exact h.2 k z1 z2 z3 z4⟩
theorem LEq.s61b {a b : aI} {v : Int32} (h : LEq a b) : LEq (a_u a 44 61 v) b := ⟨fun o u w => by rw [a_u_row (by omega)]; exact h.1 o u w, fun k z1 z2 z3 z4 => by rw [a_u_ne (fun z => z4 z.2)]; exact h.2 k z1 z2 z3 z4⟩
theorem LEq.u {a b : aI} {o k : Nat} {v w : Int32} (h : LEq a b) (e : v = w) : LEq (a_u a o k v) (a_u b o k w) := by
  subst e
  refine ⟨fun q u w => funext fun j => ?_, fun q z1 z2 z3 z4 => ?_⟩
  · unfold a_u
    rw [h.1 q u w]
  · unfold a_u
    rw [h.2 q z1 z2 z3 z4]
theorem LEq.ur {a b : aI} {o : Nat} {f g : Nat → Int32} (h : LEq a b) (e : ∀ j, f j = g j) (ho : o ≠ 44) : LEq (a_ur a o f) (a_ur b o g) := by
  have e2 : f = g := funext e
  subst e2
  refine ⟨fun q u w => ?_, fun q z1 z2 z3 z4 => by rw [a_ur_ne (fun z => ho z.symm), a_ur_ne (fun z => ho z.symm)]; exact h.2 q z1 z2 z3 z4⟩
  by_cases zc : q = o
  · rw [zc, a_ur_self, a_ur_self]
  · rw [a_ur_ne zc, a_ur_ne zc]; exact h.1 q u w
theorem LEq.r {a b : aI} (h : LEq a b) {q : Nat} (h1 : 45 ≤ q ∧ q ≤ 82) : b q = a q := h.1 q h1.1 h1.2
theorem LEq.f {a b : aI} (h : LEq a b) {q : Nat} (h1 : q ≠ 53 ∧ q ≠ 57 ∧ q ≠ 59 ∧ q ≠ 61) : b 44 q = a 44 q := h.2 q h1.1 h1.2.1 h1.2.2.1 h1.2.2.2
/-- what holds of the model's rows between the calls -/
def MI (m : aI) (c n g r p k : Nat) : Prop := MBk m n ∧ MEs m g r ∧ MPl m g r p ∧ MPo m k ∧ MDy m c ∧ m 44 25 = nI r ∧ r ≤ 60
theorem MI.cg {m m2 : aI} {c n g r p k : Nat} (h : MI m c n g r p k) (e : LEq m m2) : MI m2 c n g r p k := by
  obtain ⟨h1, h2, h3, h4, ⟨d, d1, d2⟩, h5, h6⟩ := h
  exact ⟨MBk_cg h1 (fun o u v => e.r (by omega)) (e.f (by decide)), MEs_cg h2 (fun o u v => e.r (by omega)) (e.f (by decide)), MPl_cg h3 (fun o u v => e.r (by omega)) (e.r (by decide)) (fun k hk => e.f (by omega)) (fun i _ => ⟨by rw [e.r (q := 77) (by decide)], by rw [e.r (q := 78) (by decide)]⟩), MPo_cg h4 (e.r (by decide)) (e.f (by decide)), ⟨d, (e.f (by decide)).trans d1, d2⟩, (e.f (by decide)).trans h5, h6⟩
theorem G9.mi {T : List aT} {I : aI} {J : aJ} {R : aR} {m : aI} {c n : Nat} {sq : Nat → Nat} {g : Nat} {gq eq : Nat → Nat} {r p : Nat} {pq : Nat → Nat} {k : Nat} (h9 : G9 T I J R m c n sq g gq eq r p pq k) : MI m c n g r p k := ⟨h9.bk, h9.es, h9.pl, h9.po, h9.dy, h9.ces.rs.2.1, h9.ces.rs.2.2.1⟩
/-- what the model's method leaves, when the class's has answered v and left the ghost m2 -/
def DP (kq : Nat) (v : Int32) (m2 : aI) (T : List aT) (I : aI) (J : aJ) (R : aR) : aP := fun o T2 I2 J2 R2 => T2 = T ∧ R2 = R ∧ (∃ b, o = .inl (some (.int b)) ∧ (kq = 0 → b = v)) ∧ I2 44 61 = nI kq ∧ LEq m2 I2 ∧ (∀ q, q < 44 ∨ 94 ≤ q → I2 q = I q) ∧ (∀ q, q < 44 ∨ 94 ≤ q → J2 q = J q) ∧ Zr J2
def DPv (kq : Nat) (m2 : aI) (T : List aT) (I : aI) (J : aJ) (R : aR) : aP := fun o T2 I2 J2 R2 => T2 = T ∧ R2 = R ∧ o = .inl none ∧ I2 44 61 = nI kq ∧ LEq m2 I2 ∧ (∀ q, q < 44 ∨ 94 ≤ q → I2 q = I q) ∧ (∀ q, q < 44 ∨ 94 ≤ q → J2 q = J q) ∧ Zr J2
theorem DP.i {kq : Nat} {v b : Int32} {m2 : aI} {T : List aT} {I I3 : aI} {J : aJ} {R : aR} (h61 : I3 44 61 = nI kq) (hv : kq = 0 → b = v) (hL : LEq m2 I3) (hf : ∀ q, q < 44 ∨ 94 ≤ q → I3 q = I q) (hZ : Zr J) : ∀ (o : Option Value ⊕ String) (T2 : List aT) (I2 : aI) (J2 : aJ) (R2 : aR), T <+: T2 → aPure (some (.int b)) T I3 J R o T2 I2 J2 R2 → DP kq v m2 T I J R o T2 I2 J2 R2 := by
  rintro o T2 I2 J2 R2 - ⟨rfl, rfl, rfl, rfl, rfl⟩
  exact ⟨rfl, rfl, ⟨b, rfl, hv⟩, h61, hL, hf, fun _ _ => rfl, hZ⟩
theorem DP.f {kq j : Nat} {v b : Int32} {m : aI} {T : List aT} {I : aI} {J : aJ} {R : aR} (hk : kq = j) (h0 : 0 < j) (hL : LEq m I) (hZ : Zr J) : ∀ (o : Option Value ⊕ String) (T2 : List aT) (I2 : aI) (J2 : aJ) (R2 : aR), T <+: T2 → aPure (some (.int b)) T (a_u I 44 61 (nI j)) J R o T2 I2 J2 R2 → DP kq v m T I J R o T2 I2 J2 R2 := by
  subst hk
  exact DP.i a_u_self (fun z => absurd z (by omega)) hL.s61 (fun q hq => a_u_row (by omega)) hZ
theorem DPv.i {kq : Nat} {m2 : aI} {T : List aT} {I I3 : aI} {J : aJ} {R : aR} (h61 : I3 44 61 = nI kq) (hL : LEq m2 I3) (hf : ∀ q, q < 44 ∨ 94 ≤ q → I3 q = I q) (hZ : Zr J) : ∀ (o : Option Value ⊕ String) (T2 : List aT) (I2 : aI) (J2 : aJ) (R2 : aR), T <+: T2 → aPure none T I3 J R o T2 I2 J2 R2 → DPv kq m2 T I J R o T2 I2 J2 R2 := by
  rintro o T2 I2 J2 R2 - ⟨rfl, rfl, rfl, rfl, rfl⟩
  exact ⟨rfl, rfl, rfl, h61, hL, hf, fun _ _ => rfl, hZ⟩
theorem D_isLocked {T : List aT} {I : aI} {J : aJ} {R : aR} (hT : aPT T) (hR : aPR R) {m : aI} {c n g r p k : Nat} (hm : MI m c n g r p k) (hL : LEq m I) (hZ : Zr J)  {kq : Nat} {vq : Int32} {mq : aI} (hs : (fun k v m2 => k = 0 ∧ v = bI (decide (0 ≤ m 44 45)) ∧ m2 = m) kq vq mq) : MX12_isLocked 0 0 [.ref 44] T I J R (DP kq vq mq T I J R) := by
  have hi := hm.cg hL
  obtain ⟨hk, hv, hm2⟩ := hs
  subst hk hm2
  have q := m_X12_isLocked (I := I) (J := J) hT hR
  exact AMet.mono q (DP.i (by (repeat (first | rw [a_u_self] | rw [a_u_row (by decide)] | rw [a_ur_ne (by decide)] | rw [a_u_ne (fun z => absurd z.2 (by decide))])) <;> rfl) (fun _ => (by rw [hv, hL.f (q := 45) (by decide)])) hL.s61 (fun q hq => by repeat (first | rw [a_u_row (by omega)] | rw [a_ur_ne (by omega)])) hZ)
theorem D_serial {T : List aT} {I : aI} {J : aJ} {R : aR} (hT : aPT T) (hR : aPR R) {m : aI} {c n g r p k : Nat} (hm : MI m c n g r p k) (hL : LEq m I) (hZ : Zr J)  {kq : Nat} {vq : Int32} {mq : aI} (hs : (fun k v m2 => k = 0 ∧ v = m 44 35 ∧ m2 = m) kq vq mq) : MX12_serial 0 0 [.ref 44] T I J R (DP kq vq mq T I J R) := by
  have hi := hm.cg hL
  obtain ⟨hk, hv, hm2⟩ := hs
  subst hk hm2
  have q := m_X12_serial (I := I) (J := J) hT hR
  exact AMet.mono q (DP.i (by (repeat (first | rw [a_u_self] | rw [a_u_row (by decide)] | rw [a_ur_ne (by decide)] | rw [a_u_ne (fun z => absurd z.2 (by decide))])) <;> rfl) (fun _ => (by rw [hv]; exact hL.f (by decide))) hL.s61 (fun q hq => by repeat (first | rw [a_u_row (by omega)] | rw [a_ur_ne (by omega)])) hZ)
theorem D_resources {T : List aT} {I : aI} {J : aJ} {R : aR} (hT : aPT T) (hR : aPR R) {m : aI} {c n g r p k : Nat} (hm : MI m c n g r p k) (hL : LEq m I) (hZ : Zr J)  {kq : Nat} {vq : Int32} {mq : aI} (hs : (fun k v m2 => k = 0 ∧ v = m 44 25 ∧ m2 = m) kq vq mq) : MX12_resources 0 0 [.ref 44] T I J R (DP kq vq mq T I J R) := by
  have hi := hm.cg hL
  obtain ⟨hk, hv, hm2⟩ := hs
  subst hk hm2
  have q := m_X12_resources (I := I) (J := J) hT hR
  exact AMet.mono q (DP.i (by (repeat (first | rw [a_u_self] | rw [a_u_row (by decide)] | rw [a_ur_ne (by decide)] | rw [a_u_ne (fun z => absurd z.2 (by decide))])) <;> rfl) (fun _ => (by rw [hv]; exact hL.f (by decide))) hL.s61 (fun q hq => by repeat (first | rw [a_u_row (by omega)] | rw [a_ur_ne (by omega)])) hZ)
theorem D_isApplying {T : List aT} {I : aI} {J : aJ} {R : aR} (hT : aPT T) (hR : aPR R) {m : aI} {c n g r p k : Nat} (hm : MI m c n g r p k) (hL : LEq m I) (hZ : Zr J)  {kq : Nat} {vq : Int32} {mq : aI} (hs : (fun k v m2 => k = 0 ∧ v = bI (decide (0 ≤ m 44 43)) ∧ m2 = m) kq vq mq) : MX12_isApplying 0 0 [.ref 44] T I J R (DP kq vq mq T I J R) := by
  have hi := hm.cg hL
  obtain ⟨hk, hv, hm2⟩ := hs
  subst hk hm2
  have q := m_X12_isApplying (I := I) (J := J) hT hR
  exact AMet.mono q (DP.i (by (repeat (first | rw [a_u_self] | rw [a_u_row (by decide)] | rw [a_ur_ne (by decide)] | rw [a_u_ne (fun z => absurd z.2 (by decide))])) <;> rfl) (fun _ => (by rw [hv, hL.f (q := 43) (by decide)])) hL.s61 (fun q hq => by repeat (first | rw [a_u_row (by omega)] | rw [a_ur_ne (by omega)])) hZ)
theorem D_setLayer {T : List aT} {I : aI} {J : aJ} {R : aR} (hT : aPT T) (hR : aPR R) {m : aI} {c n g r p k : Nat} (hm : MI m c n g r p k) (hL : LEq m I) (hZ : Zr J) (f l : Int32) {kq : Nat} {vq : Int32} {mq : aI} (hs : (fun k v m2 => (((0 ≤ f ∧ f ≤ 5) ∧ (0 ≤ l ∧ l ≤ 3)) ∧ k = 0 ∧ v = m 54 f.toNatClampNeg ∧ m2 = a_u m 54 f.toNatClampNeg l) ∨ (¬ ((0 ≤ f ∧ f ≤ 5) ∧ (0 ≤ l ∧ l ≤ 3)) ∧ k = 1 ∧ m2 = m)) kq vq mq) : MX12_setLayer 0 0 [.ref 44, .int f, .int l] T I J R (DP kq vq mq T I J R) := by
  have hi := hm.cg hL
  have q := m_X12_setLayer (I := I) (J := J) hT hR f l
  rcases hs with ⟨hc, hk, hv, hm2⟩ | ⟨hc, hk, hm2⟩
  · rw [if_pos hc, if_pos hc] at q
    subst hk hm2
    exact AMet.mono q (DP.i (by (repeat (first | rw [a_u_self] | rw [a_u_row (by decide)] | rw [a_ur_ne (by decide)] | rw [a_u_ne (fun z => absurd z.2 (by decide))])) <;> rfl) (fun _ => (by rw [hv, hL.r (q := 54) (by decide)])) (hL.s61.u rfl) (fun q hq => by repeat (first | rw [a_u_row (by omega)] | rw [a_ur_ne (by omega)])) hZ)
  · rw [if_neg hc, if_neg hc] at q
    subst hm2
    exact AMet.mono q (DP.f (j := 1) hk (by decide) hL hZ)
theorem D_lock {T : List aT} {I : aI} {J : aJ} {R : aR} (hT : aPT T) (hR : aPR R) {m : aI} {c n g r p k : Nat} (hm : MI m c n g r p k) (hL : LEq m I) (hZ : Zr J) (f l : Int32) {kq : Nat} {vq : Int32} {mq : aI} (hs : (fun k v m2 => (((0 ≤ f ∧ f ≤ 9) ∧ (-1 ≤ l ∧ l ≤ 3)) ∧ k = 0 ∧ v = m 55 f.toNatClampNeg - 1 ∧ m2 = a_u m 55 f.toNatClampNeg (l + 1)) ∨ (¬ ((0 ≤ f ∧ f ≤ 9) ∧ (-1 ≤ l ∧ l ≤ 3)) ∧ k = 1 ∧ m2 = m)) kq vq mq) : MX12_lock 0 0 [.ref 44, .int f, .int l] T I J R (DP kq vq mq T I J R) := by
  have hi := hm.cg hL
  have q := m_X12_lock (I := I) (J := J) hT hR f l
  rcases hs with ⟨hc, hk, hv, hm2⟩ | ⟨hc, hk, hm2⟩
  · rw [if_pos hc, if_pos hc] at q
    subst hk hm2
    exact AMet.mono q (DP.i (by (repeat (first | rw [a_u_self] | rw [a_u_row (by decide)] | rw [a_ur_ne (by decide)] | rw [a_u_ne (fun z => absurd z.2 (by decide))])) <;> rfl) (fun _ => (by rw [hv, hL.r (q := 55) (by decide)])) (hL.s61.u rfl) (fun q hq => by repeat (first | rw [a_u_row (by omega)] | rw [a_ur_ne (by omega)])) hZ)
  · rw [if_neg hc, if_neg hc] at q
    subst hm2
    exact AMet.mono q (DP.f (j := 1) hk (by decide) hL hZ)
theorem D_except {T : List aT} {I : aI} {J : aJ} {R : aR} (hT : aPT T) (hR : aPR R) {m : aI} {c n g r p k : Nat} (hm : MI m c n g r p k) (hL : LEq m I) (hZ : Zr J) (f l d : Int32) {kq : Nat} {vq : Int32} {mq : aI} (hs : (fun k v m2 => ((((0 ≤ f ∧ f ≤ 5) ∧ (0 ≤ l ∧ l ≤ 9)) ∧ (1 ≤ d ∧ d ≤ 30)) ∧ k = 0 ∧ v = m 44 13 + d ∧ m2 = a_u m 56 (10 * f + l).toNatClampNeg (m 44 13 + d)) ∨ (((0 ≤ f ∧ f ≤ 5) ∧ (0 ≤ l ∧ l ≤ 9)) ∧ ¬ (1 ≤ d ∧ d ≤ 30) ∧ k = 2 ∧ m2 = m) ∨ (¬ ((0 ≤ f ∧ f ≤ 5) ∧ (0 ≤ l ∧ l ≤ 9)) ∧ k = 1 ∧ m2 = m)) kq vq mq) : MX12_except 0 0 [.ref 44, .int f, .int l, .int d] T I J R (DP kq vq mq T I J R) := by
  have hi := hm.cg hL
  have q := m_X12_except (I := I) (J := J) hT hR f l d
  rw [hL.f (q := 13) (by decide)] at q
  rcases hs with ⟨⟨hc, hd⟩, hk, hv, hm2⟩ | ⟨hc, hd, hk, hm2⟩ | ⟨hc, hk, hm2⟩
  · rw [if_pos ⟨hc.1, hc.2, hd⟩, if_pos hc, if_pos hd] at q
    subst hk hm2
    exact AMet.mono q (DP.i (by (repeat (first | rw [a_u_self] | rw [a_u_row (by decide)] | rw [a_ur_ne (by decide)] | rw [a_u_ne (fun z => absurd z.2 (by decide))])) <;> rfl) (fun _ => hv.symm) (hL.s61.u rfl) (fun q hq => by repeat (first | rw [a_u_row (by omega)] | rw [a_ur_ne (by omega)])) hZ)
  · rw [if_neg (fun z => hd z.2.2), if_pos hc, if_neg hd] at q
    subst hm2
    exact AMet.mono q (DP.f (j := 2) hk (by decide) hL hZ)
  · rw [if_neg (fun z => hc ⟨z.1, z.2.1⟩), if_neg hc] at q
    subst hm2
    exact AMet.mono q (DP.f (j := 1) hk (by decide) hL hZ)
theorem D_pass {T : List aT} {I : aI} {J : aJ} {R : aR} (hT : aPT T) (hR : aPR R) {m : aI} {c n g r p k : Nat} (hm : MI m c n g r p k) (hL : LEq m I) (hZ : Zr J) (d : Int32) {kq : Nat} {vq : Int32} {mq : aI} (hs : (fun k v m2 => ((1 ≤ d ∧ d ≤ 30) ∧ k = 0 ∧ v = m 44 13 + d ∧ m2 = (if 0 ≤ m 44 45 ∧ m 44 45 ≤ m 44 13 + d then a_u (a_u (a_u m 44 13 (m 44 13 + d)) 44 43 (-1)) 44 45 (-1) else (a_u m 44 13 (m 44 13 + d)))) ∨ (¬ (1 ≤ d ∧ d ≤ 30) ∧ k = 1 ∧ m2 = m)) kq vq mq) : MX12_pass 0 0 [.ref 44, .int d] T I J R (DP kq vq mq T I J R) := by
  have hi := hm.cg hL
  have q := m_X12_pass (I := I) (J := J) hT hR d
  rw [hL.f (q := 13) (by decide), hL.f (q := 45) (by decide)] at q
  rcases hs with ⟨hd, hk, hv, hm2⟩ | ⟨hd, hk, hm2⟩
  · rw [if_pos hd, if_pos hd] at q
    by_cases hz : 0 ≤ m 44 45 ∧ m 44 45 ≤ m 44 13 + d
    · rw [if_pos hz] at q hm2
      subst hk hm2
      exact AMet.mono q (DP.i (by (repeat (first | rw [a_u_self] | rw [a_u_row (by decide)] | rw [a_ur_ne (by decide)] | rw [a_u_ne (fun z => absurd z.2 (by decide))])) <;> rfl) (fun _ => hv.symm) (((hL.s61.u rfl).u rfl).u rfl) (fun q hq => by repeat (first | rw [a_u_row (by omega)] | rw [a_ur_ne (by omega)])) hZ)
    · rw [if_neg hz] at q hm2
      subst hk hm2
      exact AMet.mono q (DP.i (by (repeat (first | rw [a_u_self] | rw [a_u_row (by decide)] | rw [a_ur_ne (by decide)] | rw [a_u_ne (fun z => absurd z.2 (by decide))])) <;> rfl) (fun _ => hv.symm) (hL.s61.u rfl) (fun q hq => by repeat (first | rw [a_u_row (by omega)] | rw [a_ur_ne (by omega)])) hZ)
  · rw [if_neg hd, if_neg hd] at q
    subst hm2
    exact AMet.mono q (DP.f (j := 1) hk (by decide) hL hZ)
theorem D_policy {T : List aT} {I : aI} {J : aJ} {R : aR} (hT : aPT T) (hR : aPR R) {m : aI} {c n g r p k : Nat} (hm : MI m c n g r p k) (hL : LEq m I) (hZ : Zr J) (f a b : Int32) {kq : Nat} {vq : Int32} {mq : aI} (hs : (fun kk v m2 => ((0 ≤ f ∧ f ≤ 9) ∧ ((0 ≤ a ∧ a ≤ 63) ∧ (a ≤ b ∧ b ≤ 63)) ∧ k ≠ 8 ∧ kk = 0 ∧ v = nI k ∧ m2 = poM m k f.toNatClampNeg a.toNatClampNeg b.toNatClampNeg) ∨ ((0 ≤ f ∧ f ≤ 9) ∧ ((0 ≤ a ∧ a ≤ 63) ∧ (a ≤ b ∧ b ≤ 63)) ∧ k = 8 ∧ kk = 3 ∧ m2 = m) ∨ ((0 ≤ f ∧ f ≤ 9) ∧ ¬ ((0 ≤ a ∧ a ≤ 63) ∧ (a ≤ b ∧ b ≤ 63)) ∧ kk = 2 ∧ m2 = m) ∨ (¬ (0 ≤ f ∧ f ≤ 9) ∧ kk = 1 ∧ m2 = m)) kq vq mq) : MX12_policy 0 0 [.ref 44, .int f, .int a, .int b] T I J R (DP kq vq mq T I J R) := by
  have hi := hm.cg hL
  have q := m_X12_policy (I := I) (J := J) hT hR f a b hi.2.2.2.1.1 hi.2.2.2.1.2.1
  rcases hs with ⟨hc, hd, he, hk, hv, hm2⟩ | ⟨hc, hd, he, hk, hm2⟩ | ⟨hc, hd, hk, hm2⟩ | ⟨hc, hk, hm2⟩
  · rw [if_pos ⟨hc, hd.1, hd.2, he⟩, if_pos hc, if_pos hd, if_pos he] at q
    subst hk hm2
    have e1 := nI_of0 hc.1
    have e2 := nI_of0 hd.1.1
    have e3 := nI_of0 (show 0 ≤ b by have z1 := hd.1.1; have z2 := hd.2.1; simp only [i_le, Int32.reduceToInt] at *; omega)
    exact AMet.mono q (DP.i (by (repeat (first | rw [a_u_self] | rw [a_u_row (by decide)] | rw [a_ur_ne (by decide)] | rw [a_u_ne (fun z => absurd z.2 (by decide))])) <;> rfl) (fun _ => hv.symm) ((((hL.s61.u e1.symm).u e2.symm).u e3.symm).u rfl) (fun q hq => by repeat (first | rw [a_u_row (by omega)] | rw [a_ur_ne (by omega)])) hZ)
  · rw [if_neg (fun z => z.2.2.2 he), if_pos hc, if_pos hd, if_neg (not_not_intro he)] at q
    subst hm2
    exact AMet.mono q (DP.f (j := 3) hk (by decide) hL hZ)
  · rw [if_neg (fun z => hd ⟨z.2.1, z.2.2.1⟩), if_pos hc, if_neg hd] at q
    subst hm2
    exact AMet.mono q (DP.f (j := 2) hk (by decide) hL hZ)
  · rw [if_neg (fun z => hc z.1), if_neg hc] at q
    subst hm2
    exact AMet.mono q (DP.f (j := 1) hk (by decide) hL hZ)
theorem D_entry {T : List aT} {I : aI} {J : aJ} {R : aR} (hT : aPT T) (hR : aPR R) {m : aI} {c n g r p k : Nat} (hm : MI m c n g r p k) (hL : LEq m I) (hZ : Zr J) (x : Int32) {kq : Nat} {vq : Int32} {mq : aI} (hs : (fun k v m2 => ((0 ≤ x ∧ x < nI (16 * g)) ∧ k = 0 ∧ v = (if m 69 x.toNatClampNeg = 0 then -1 else 100 * (m 69 x.toNatClampNeg - 1) + 10 * m 72 x.toNatClampNeg + (if m 71 x.toNatClampNeg = 0 then 0 else 1)) ∧ m2 = m) ∨ (¬ (0 ≤ x ∧ x < nI (16 * g)) ∧ k = 1 ∧ m2 = m)) kq vq mq) : MX12_entry 0 0 [.ref 44, .int x] T I J R (DP kq vq mq T I J R) := by
  have hi := hm.cg hL
  have q := m_X12_entry (I := I) (J := J) hT hR x hi.2.1.1.1.2.1 hi.2.1.1.1.1
  rw [hL.r (q := 69) (by decide), hL.r (q := 71) (by decide), hL.r (q := 72) (by decide)] at q
  rcases hs with ⟨hc, hk, hv, hm2⟩ | ⟨hc, hk, hm2⟩
  · rw [if_pos hc, if_pos hc] at q
    subst hk hm2
    exact AMet.mono q (DP.i (by (repeat (first | rw [a_u_self] | rw [a_u_row (by decide)] | rw [a_ur_ne (by decide)] | rw [a_u_ne (fun z => absurd z.2 (by decide))])) <;> rfl) (fun _ => hv.symm) hL.s61 (fun q hq => by repeat (first | rw [a_u_row (by omega)] | rw [a_ur_ne (by omega)])) hZ)
  · rw [if_neg hc, if_neg hc] at q
    subst hm2
    exact AMet.mono q (DP.f (j := 1) hk (by decide) hL hZ)
theorem D_stored {T : List aT} {I : aI} {J : aJ} {R : aR} (hT : aPT T) (hR : aPR R) {m : aI} {c n g r p k : Nat} (hm : MI m c n g r p k) (hL : LEq m I) (hZ : Zr J) (x a : Int32) {kq : Nat} {vq : Int32} {mq : aI} (hs : (fun k v m2 => (((0 ≤ x ∧ x < nI (16 * g)) ∧ m 69 x.toNatClampNeg ≠ 0 ∧ (0 ≤ a ∧ a ≤ 2)) ∧ k = 0 ∧ v = m 70 (3 * x + a).toNatClampNeg ∧ m2 = m) ∨ (¬ ((0 ≤ x ∧ x < nI (16 * g)) ∧ m 69 x.toNatClampNeg ≠ 0 ∧ (0 ≤ a ∧ a ≤ 2)) ∧ k = 1 ∧ m2 = m)) kq vq mq) : MX12_stored 0 0 [.ref 44, .int x, .int a] T I J R (DP kq vq mq T I J R) := by
  have hi := hm.cg hL
  have q := m_X12_stored (I := I) (J := J) hT hR x a hi.2.1.1.1.2.1 hi.2.1.1.1.1
  rw [hL.r (q := 69) (by decide), hL.r (q := 70) (by decide)] at q
  have hpe : (0 ≤ x ∧ x < nI (16 * g)) → (0 < m 69 x.toNatClampNeg ↔ m 69 x.toNatClampNeg ≠ 0) := fun z => by
    have hg4 := hm.2.1.1.1.1
    obtain ⟨x1, hx1, zz1⟩ := i_nat z.1 z.2 rfl (by omega)
    subst zz1
    rw [nI_clamp (by omega)]
    exact ⟨fun w e => by rw [e] at w; exact absurd w (by decide), fun w => hm.2.1.1.2.1.2.1 x1 (by omega) w⟩
  rcases hs with ⟨hc, hk, hv, hm2⟩ | ⟨hc, hk, hm2⟩
  · have hc2 := And.intro hc.1 (And.intro ((hpe hc.1).mpr hc.2.1) hc.2.2)
    rw [if_pos hc2, if_pos hc2] at q
    subst hk hm2
    exact AMet.mono q (DP.i (by (repeat (first | rw [a_u_self] | rw [a_u_row (by decide)] | rw [a_ur_ne (by decide)] | rw [a_u_ne (fun z => absurd z.2 (by decide))])) <;> rfl) (fun _ => hv.symm) hL.s61 (fun q hq => by repeat (first | rw [a_u_row (by omega)] | rw [a_ur_ne (by omega)])) hZ)
  · have hc2 : ¬ ((0 ≤ x ∧ x < nI (16 * g)) ∧ 0 < m 69 x.toNatClampNeg ∧ (0 ≤ a ∧ a ≤ 2)) := fun z => hc ⟨z.1, (hpe z.1).mp z.2.1, z.2.2⟩
    rw [if_neg hc2, if_neg hc2] at q
    subst hm2
    exact AMet.mono q (DP.f (j := 1) hk (by decide) hL hZ)
theorem D_real {T : List aT} {I : aI} {J : aJ} {R : aR} (hT : aPT T) (hR : aPR R) {m : aI} {c n g r p k : Nat} (hm : MI m c n g r p k) (hL : LEq m I) (hZ : Zr J) (x a : Int32) {kq : Nat} {vq : Int32} {mq : aI} (hs : (fun k v m2 => (((0 ≤ x ∧ x < nI r) ∧ (0 ≤ a ∧ a ≤ 2)) ∧ k = 0 ∧ v = (if m 68 x.toNatClampNeg = 0 then m 67 (3 * x + a).toNatClampNeg else -1) ∧ m2 = m) ∨ (¬ ((0 ≤ x ∧ x < nI r) ∧ (0 ≤ a ∧ a ≤ 2)) ∧ k = 1 ∧ m2 = m)) kq vq mq) : MX12_real 0 0 [.ref 44, .int x, .int a] T I J R (DP kq vq mq T I J R) := by
  have hi := hm.cg hL
  have q := m_X12_real (I := I) (J := J) hT hR x a hi.2.2.2.2.2.1 hi.2.2.2.2.2.2
  rw [hL.r (q := 67) (by decide), hL.r (q := 68) (by decide)] at q
  rcases hs with ⟨hc, hk, hv, hm2⟩ | ⟨hc, hk, hm2⟩
  · rw [if_pos hc, if_pos hc] at q
    subst hk hm2
    exact AMet.mono q (DP.i (by (repeat (first | rw [a_u_self] | rw [a_u_row (by decide)] | rw [a_ur_ne (by decide)] | rw [a_u_ne (fun z => absurd z.2 (by decide))])) <;> rfl) (fun _ => hv.symm) hL.s61 (fun q hq => by repeat (first | rw [a_u_row (by omega)] | rw [a_ur_ne (by omega)])) hZ)
  · rw [if_neg hc, if_neg hc] at q
    subst hm2
    exact AMet.mono q (DP.f (j := 1) hk (by decide) hL hZ)
theorem i_sub1 {v : Int32} {a : Nat} (h : v.toInt = a) (ha : a ≤ 1000) : (v - 1).toInt = (a : Int) - 1 := by
  rw [Int32.toInt_sub, h, show (1 : Int32).toInt = 1 from by decide]
  apply Int.bmod_eq_of_le <;> omega
theorem D_action {T : List aT} {I : aI} {J : aJ} {R : aR} (hT : aPT T) (hR : aPR R) {m : aI} {c n g r p k : Nat} (hm : MI m c n g r p k) (hL : LEq m I) (hZ : Zr J) (x y : Int32) {kq : Nat} {vq : Int32} {mq : aI} (hs : (fun k v m2 => (((0 ≤ x ∧ x < nI p) ∧ (0 ≤ y ∧ y < nI (iN m 79 x.toNatClampNeg))) ∧ k = 0 ∧ v = m 80 (128 * x + y).toNatClampNeg ∧ m2 = m) ∨ (¬ ((0 ≤ x ∧ x < nI p) ∧ (0 ≤ y ∧ y < nI (iN m 79 x.toNatClampNeg))) ∧ k = 1 ∧ m2 = m)) kq vq mq) : MX12_action 0 0 [.ref 44, .int x, .int y] T I J R (DP kq vq mq T I J R) := by
  have hi := hm.cg hL
  have h79 : ∀ z, 0 ≤ z → z < nI p → I 79 z.toNatClampNeg - 1 < 128 ∧ (∀ w : Int32, w ≤ I 79 z.toNatClampNeg - 1 ↔ w < nI (iN m 79 z.toNatClampNeg)) := fun z z1 z2 => by
    have hp40 := hm.2.2.1.2.1
    obtain ⟨x1, hx1, zz1⟩ := i_nat z1 z2 rfl (by omega)
    subst zz1
    rw [nI_clamp (by omega), hL.r (q := 79) (by decide)]
    have w1 := (hm.2.2.1.2.2.1 x1 hx1).1
    have e2 : (nI (iN m 79 x1)).toInt = iN m 79 x1 := i_nl _ (by omega)
    rw [w1.2.1]
    refine ⟨?_, fun w => ?_⟩
    · simp only [i_lt, i_sub1 e2 (by omega), Int32.reduceToInt]; omega
    · simp only [i_lt, i_le, i_sub1 e2 (by omega), e2]; omega
  have q := m_X12_action (I := I) (J := J) hT hR x y hi.2.2.1.1 hi.2.2.1.2.1 (fun z1 z2 => (h79 x z1 z2).1)
  rcases hs with ⟨hc, hk, hv, hm2⟩ | ⟨hc, hk, hm2⟩
  · have hc2 := And.intro hc.1 (And.intro hc.2.1 (((h79 x hc.1.1 hc.1.2).2 y).mpr hc.2.2))
    rw [if_pos hc2, if_pos hc2, hL.r (q := 80) (by decide)] at q
    subst hk hm2
    exact AMet.mono q (DP.i (by (repeat (first | rw [a_u_self] | rw [a_u_row (by decide)] | rw [a_ur_ne (by decide)] | rw [a_u_ne (fun z => absurd z.2 (by decide))])) <;> rfl) (fun _ => hv.symm) hL.s61 (fun q hq => by repeat (first | rw [a_u_row (by omega)] | rw [a_ur_ne (by omega)])) hZ)
  · have hc2 : ¬ ((0 ≤ x ∧ x < nI p) ∧ (0 ≤ y ∧ y ≤ I 79 x.toNatClampNeg - 1)) := fun z => hc ⟨z.1, z.2.1, ((h79 x z.1.1 z.1.2).2 y).mp z.2.2⟩
    rw [if_neg hc2, if_neg hc2] at q
    subst hm2
    exact AMet.mono q (DP.f (j := 1) hk (by decide) hL hZ)
theorem at3a {x : Nat} (hx : x < 10000) : (3 * nI x).toNatClampNeg = 3 * x := by
  have h := at3 (x := x) (a := 0) hx (by decide)
  rw [show (3 * nI x + nI 0 : Int32) = 3 * nI x from Int32.add_zero _] at h
  exact h
theorem D_setType {T : List aT} {I : aI} {J : aJ} {R : aR} (hT : aPT T) (hR : aPR R) {m : aI} {c n g r p k : Nat} (hm : MI m c n g r p k) (hL : LEq m I) (hZ : Zr J) (t u v w d e : Int32) (hd9 : d = 0 ∨ d = 1) (he9 : e = 0 ∨ e = 1) {kq : Nat} {mq : aI} (hs : (fun k y m2 => ((0 ≤ t ∧ t ≤ 2) ∧ ((0 ≤ u ∧ u ≤ 7) ∧ (0 ≤ v ∧ v ≤ 7) ∧ (0 ≤ w ∧ w ≤ 7)) ∧ ¬ (anyB (fun j => decide (m 62 j = t)) g = true ∨ anyB (fun j => decide (m 66 j = t)) r = true) ∧ k = 0 ∧ m2 = tyM m t.toNatClampNeg u v w d e) ∨ ((0 ≤ t ∧ t ≤ 2) ∧ ((0 ≤ u ∧ u ≤ 7) ∧ (0 ≤ v ∧ v ≤ 7) ∧ (0 ≤ w ∧ w ≤ 7)) ∧ (anyB (fun j => decide (m 62 j = t)) g = true ∨ anyB (fun j => decide (m 66 j = t)) r = true) ∧ k = 3 ∧ m2 = m) ∨ ((0 ≤ t ∧ t ≤ 2) ∧ ¬ ((0 ≤ u ∧ u ≤ 7) ∧ (0 ≤ v ∧ v ≤ 7) ∧ (0 ≤ w ∧ w ≤ 7)) ∧ k = 2 ∧ m2 = m) ∨ (¬ (0 ≤ t ∧ t ≤ 2) ∧ k = 1 ∧ m2 = m)) kq 0 mq) : MX12_setType 0 0 [.ref 44, .int t, .int u, .int v, .int w, .int d, .int e] T I J R (DPv kq mq T I J R) := by
  have hi := hm.cg hL
  have q := m_X12_setType (I := I) (J := J) hT hR t u v w d e hd9 he9 hi.2.1.1.1.2.1 hi.2.1.1.1.1 hi.2.2.2.2.2.1 hi.2.2.2.2.2.2
  rw [hL.r (q := 62) (by decide), hL.r (q := 66) (by decide)] at q
  rcases hs with ⟨hc, hu, hn, hk, hm2⟩ | ⟨hc, hu, hn, hk, hm2⟩ | ⟨hc, hu, hk, hm2⟩ | ⟨hc, hk, hm2⟩
  · rw [if_pos hc, if_pos hu, if_neg hn] at q
    subst hk hm2
    obtain ⟨t1, ht1, zz1⟩ := i_nat hc.1 (i_lt3 hc.2) (b := 3) rfl (by decide)
    subst zz1
    unfold tyM
    rw [nI_clamp (show t1 < 2147483648 by omega)]
    rw [nI_clamp (show t1 < 2147483648 by omega), show (3 * nI t1).toNatClampNeg = 3 * t1 from at3a (by omega) , show (3 * nI t1 + 1).toNatClampNeg = 3 * t1 + 1 from at3 (a := 1) (by omega) (by decide), show (3 * nI t1 + 2).toNatClampNeg = 3 * t1 + 2 from at3 (a := 2) (by omega) (by decide)] at q
    exact AMet.mono q (DPv.i (by (repeat (first | rw [a_u_self] | rw [a_u_row (by decide)] | rw [a_ur_ne (by decide)] | rw [a_u_ne (fun z => absurd z.2 (by decide))])) <;> rfl) (((((hL.s61.u rfl).u rfl).u rfl).u rfl).u rfl) (fun q hq => by repeat (first | rw [a_u_row (by omega)] | rw [a_ur_ne (by omega)])) hZ)
  · rw [if_pos hc, if_pos hu, if_pos hn] at q
    subst hk hm2
    exact AMet.mono q (DPv.i a_u_self hL.s61 (fun q hq => by repeat (first | rw [a_u_row (by omega)] | rw [a_ur_ne (by omega)])) hZ)
  · rw [if_pos hc, if_neg hu] at q
    subst hk hm2
    exact AMet.mono q (DPv.i a_u_self hL.s61 (fun q hq => by repeat (first | rw [a_u_row (by omega)] | rw [a_ur_ne (by omega)])) hZ)
  · rw [if_neg hc] at q
    subst hk hm2
    exact AMet.mono q (DPv.i a_u_self hL.s61 (fun q hq => by repeat (first | rw [a_u_row (by omega)] | rw [a_ur_ne (by omega)])) hZ)
theorem D_generator {T : List aT} {I : aI} {J : aJ} {R : aR} (hT : aPT T) (hR : aPR R) {m : aI} {c n g r p k : Nat} (hm : MI m c n g r p k) (hL : LEq m I) (hZ : Zr J) (t : Int32) {kq : Nat} {vq : Int32} {mq : aI} (hs : (fun k y m2 => (((0 ≤ t ∧ t ≤ 2) ∧ g ≠ 4) ∧ k = 0 ∧ y = nI g ∧ m2 = gnM m g t) ∨ (((0 ≤ t ∧ t ≤ 2) ∧ g = 4) ∧ k = 2 ∧ m2 = m) ∨ (¬ (0 ≤ t ∧ t ≤ 2) ∧ k = 1 ∧ m2 = m)) kq vq mq) : MX12_generator 0 0 [.ref 44, .int t] T I J R (DP kq vq mq T I J R) := by
  have hi := hm.cg hL
  have q := m_X12_generator (I := I) (J := J) hT hR t hi.2.1.1.1.2.1 hi.2.1.1.1.1
  rcases hs with ⟨hc, hk, hv, hm2⟩ | ⟨hc, hk, hm2⟩ | ⟨hc, hk, hm2⟩
  · rw [if_pos hc, if_pos hc.1, if_pos hc.2] at q
    subst hk hm2
    exact AMet.mono q (DP.i (by (repeat (first | rw [a_u_self] | rw [a_u_row (by decide)] | rw [a_ur_ne (by decide)] | rw [a_u_ne (fun z => absurd z.2 (by decide))])) <;> rfl) (fun _ => hv.symm) ((hL.s61.u rfl).u rfl) (fun q hq => by repeat (first | rw [a_u_row (by omega)] | rw [a_ur_ne (by omega)])) hZ)
  · rw [if_neg (fun z => z.2 hc.2), if_pos hc.1, if_neg (not_not_intro hc.2)] at q
    subst hm2
    exact AMet.mono q (DP.f (j := 2) hk (by decide) hL hZ)
  · rw [if_neg (fun z => hc z.1), if_neg hc] at q
    subst hm2
    exact AMet.mono q (DP.f (j := 1) hk (by decide) hL hZ)
theorem D_make {T : List aT} {I : aI} {J : aJ} {R : aR} (hT : aPT T) (hR : aPR R) {m : aI} {c n g r p k : Nat} (hm : MI m c n g r p k) (hL : LEq m I) (hZ : Zr J) (t : Int32) {kq : Nat} {vq : Int32} {mq : aI} (hs : (fun k y m2 => (((0 ≤ t ∧ t ≤ 2) ∧ r ≠ 60) ∧ k = 0 ∧ y = nI r ∧ m2 = mkT m r t) ∨ (((0 ≤ t ∧ t ≤ 2) ∧ r = 60) ∧ k = 2 ∧ m2 = m) ∨ (¬ (0 ≤ t ∧ t ≤ 2) ∧ k = 1 ∧ m2 = m)) kq vq mq) : MX12_make 0 0 [.ref 44, .int t] T I J R (DP kq vq mq T I J R) := by
  have hi := hm.cg hL
  have q := m_X12_make (I := I) (J := J) hT hR t hi.2.2.2.2.2.1 hi.2.2.2.2.2.2
  rcases hs with ⟨hc, hk, hv, hm2⟩ | ⟨hc, hk, hm2⟩ | ⟨hc, hk, hm2⟩
  · rw [if_pos hc, if_pos hc.1, if_pos hc.2] at q
    subst hk hm2
    exact AMet.mono q (DP.i (by (repeat (first | rw [a_u_self] | rw [a_u_row (by decide)] | rw [a_ur_ne (by decide)] | rw [a_u_ne (fun z => absurd z.2 (by decide))])) <;> rfl) (fun _ => hv.symm) ((hL.s61.u rfl).u rfl) (fun q hq => by repeat (first | rw [a_u_row (by omega)] | rw [a_ur_ne (by omega)])) hZ)
  · rw [if_neg (fun z => z.2 hc.2), if_pos hc.1, if_neg (not_not_intro hc.2)] at q
    subst hm2
    exact AMet.mono q (DP.f (j := 2) hk (by decide) hL hZ)
  · rw [if_neg (fun z => hc z.1), if_neg hc] at q
    subst hm2
    exact AMet.mono q (DP.f (j := 1) hk (by decide) hL hZ)
theorem D_destroy {T : List aT} {I : aI} {J : aJ} {R : aR} (hT : aPT T) (hR : aPR R) {m : aI} {c n g r p k : Nat} (hm : MI m c n g r p k) (hL : LEq m I) (hZ : Zr J) (x : Int32) {kq : Nat} {vq : Int32} {mq : aI} (hs : (fun k y m2 => ((0 ≤ x ∧ x < nI r) ∧ k = 0 ∧ y = (if m 68 x.toNatClampNeg = 0 then 1 else 0) ∧ m2 = a_u m 68 x.toNatClampNeg 1) ∨ (¬ (0 ≤ x ∧ x < nI r) ∧ k = 1 ∧ m2 = m)) kq vq mq) : MX12_destroy 0 0 [.ref 44, .int x] T I J R (DP kq vq mq T I J R) := by
  have hi := hm.cg hL
  have q := m_X12_destroy (I := I) (J := J) hT hR x hi.2.2.2.2.2.1 hi.2.2.2.2.2.2
  rw [hL.r (q := 68) (by decide)] at q
  rcases hs with ⟨hc, hk, hv, hm2⟩ | ⟨hc, hk, hm2⟩
  · rw [if_pos hc, if_pos hc] at q
    subst hk hm2
    exact AMet.mono q (DP.i (by (repeat (first | rw [a_u_self] | rw [a_u_row (by decide)] | rw [a_ur_ne (by decide)] | rw [a_u_ne (fun z => absurd z.2 (by decide))])) <;> rfl) (fun _ => hv.symm) (hL.s61.u rfl) (fun q hq => by repeat (first | rw [a_u_row (by omega)] | rw [a_ur_ne (by omega)])) hZ)
  · rw [if_neg hc, if_neg hc] at q
    subst hm2
    exact AMet.mono q (DP.f (j := 1) hk (by decide) hL hZ)
theorem D_change {T : List aT} {I : aI} {J : aJ} {R : aR} (hT : aPT T) (hR : aPR R) {m : aI} {c n g r p k : Nat} (hm : MI m c n g r p k) (hL : LEq m I) (hZ : Zr J) (x a v : Int32) {kq : Nat} {vq : Int32} {mq : aI} (hs : (fun k y m2 => ((((0 ≤ x ∧ x < nI r) ∧ (0 ≤ a ∧ a ≤ 2)) ∧ (0 ≤ v ∧ v ≤ 255) ∧ m 68 x.toNatClampNeg = 0) ∧ k = 0 ∧ y = m 67 (3 * x + a).toNatClampNeg ∧ m2 = a_u m 67 (3 * x + a).toNatClampNeg v) ∨ ((((0 ≤ x ∧ x < nI r) ∧ (0 ≤ a ∧ a ≤ 2)) ∧ (0 ≤ v ∧ v ≤ 255) ∧ m 68 x.toNatClampNeg ≠ 0) ∧ k = 3 ∧ m2 = m) ∨ ((((0 ≤ x ∧ x < nI r) ∧ (0 ≤ a ∧ a ≤ 2)) ∧ ¬ (0 ≤ v ∧ v ≤ 255)) ∧ k = 2 ∧ m2 = m) ∨ (¬ ((0 ≤ x ∧ x < nI r) ∧ (0 ≤ a ∧ a ≤ 2)) ∧ k = 1 ∧ m2 = m)) kq vq mq) : MX12_change 0 0 [.ref 44, .int x, .int a, .int v] T I J R (DP kq vq mq T I J R) := by
  have hi := hm.cg hL
  have q := m_X12_change (I := I) (J := J) hT hR x a v hi.2.2.2.2.2.1 hi.2.2.2.2.2.2
  rw [hL.r (q := 67) (by decide), hL.r (q := 68) (by decide)] at q
  rcases hs with ⟨hc, hk, hv, hm2⟩ | ⟨hc, hk, hm2⟩ | ⟨hc, hk, hm2⟩ | ⟨hc, hk, hm2⟩
  · rw [if_pos ⟨hc.1.1, hc.1.2, hc.2.1, hc.2.2⟩, if_pos hc.1, if_pos hc.2.1, if_pos hc.2.2] at q
    subst hk hm2
    exact AMet.mono q (DP.i (by (repeat (first | rw [a_u_self] | rw [a_u_row (by decide)] | rw [a_ur_ne (by decide)] | rw [a_u_ne (fun z => absurd z.2 (by decide))])) <;> rfl) (fun _ => hv.symm) (hL.s61.u rfl) (fun q hq => by repeat (first | rw [a_u_row (by omega)] | rw [a_ur_ne (by omega)])) hZ)
  · rw [if_neg (fun z => hc.2.2 z.2.2.2), if_pos hc.1, if_pos hc.2.1, if_neg hc.2.2] at q
    subst hm2
    exact AMet.mono q (DP.f (j := 3) hk (by decide) hL hZ)
  · rw [if_neg (fun z => hc.2 z.2.2.1), if_pos hc.1, if_neg hc.2] at q
    subst hm2
    exact AMet.mono q (DP.f (j := 2) hk (by decide) hL hZ)
  · rw [if_neg (fun z => hc ⟨z.1, z.2.1⟩), if_neg hc] at q
    subst hm2
    exact AMet.mono q (DP.f (j := 1) hk (by decide) hL hZ)
theorem D_approve {T : List aT} {I : aI} {J : aJ} {R : aR} (hT : aPT T) (hR : aPR R) {m : aI} {c n g r p k : Nat} (hm : MI m c n g r p k) (hL : LEq m I) (hZ : Zr J) (x t : Int32) {kq : Nat} {vq : Int32} {mq : aI} (hs : (fun k y m2 => ((((0 ≤ x ∧ x < nI p) ∧ (0 ≤ t ∧ t ≤ 2)) ∧ m 75 x.toNatClampNeg ≠ t) ∧ k = 0 ∧ y = (if m 77 x.toNatClampNeg = 0 then 1 else 0) ∧ m2 = a_u m 77 x.toNatClampNeg 1) ∨ ((((0 ≤ x ∧ x < nI p) ∧ (0 ≤ t ∧ t ≤ 2)) ∧ m 75 x.toNatClampNeg = t) ∧ k = 2 ∧ m2 = m) ∨ (¬ ((0 ≤ x ∧ x < nI p) ∧ (0 ≤ t ∧ t ≤ 2)) ∧ k = 1 ∧ m2 = m)) kq vq mq) : MX12_approve 0 0 [.ref 44, .int x, .int t] T I J R (DP kq vq mq T I J R) := by
  have hi := hm.cg hL
  have q := m_X12_approve (I := I) (J := J) hT hR x t hi.2.2.1.1 hi.2.2.1.2.1
  rw [hL.r (q := 75) (by decide), hL.r (q := 77) (by decide)] at q
  rcases hs with ⟨hc, hk, hv, hm2⟩ | ⟨hc, hk, hm2⟩ | ⟨hc, hk, hm2⟩
  · rw [if_pos ⟨hc.1.1, hc.1.2, hc.2⟩, if_pos hc.1, if_neg hc.2] at q
    subst hk hm2
    exact AMet.mono q (DP.i (by (repeat (first | rw [a_u_self] | rw [a_u_row (by decide)] | rw [a_ur_ne (by decide)] | rw [a_u_ne (fun z => absurd z.2 (by decide))])) <;> rfl) (fun _ => hv.symm) (hL.s61.u rfl) (fun q hq => by repeat (first | rw [a_u_row (by omega)] | rw [a_ur_ne (by omega)])) hZ)
  · rw [if_neg (fun z => z.2.2 hc.2), if_pos hc.1, if_pos hc.2] at q
    subst hm2
    exact AMet.mono q (DP.f (j := 2) hk (by decide) hL hZ)
  · rw [if_neg (fun z => hc ⟨z.1, z.2.1⟩), if_neg hc] at q
    subst hm2
    exact AMet.mono q (DP.f (j := 1) hk (by decide) hL hZ)
theorem D_tell {T : List aT} {I : aI} {J : aJ} {R : aR} (hT : aPT T) (hR : aPR R) {m : aI} {c n g r p k : Nat} (hm : MI m c n g r p k) (hL : LEq m I) (hZ : Zr J) (x its f a b : Int32) {kq : Nat} {vq : Int32} {mq : aI} (hs : (fun k v m2 => (((0 ≤ x ∧ x ≤ 5) ∧ mCode its f a b n = 0) ∧ k = 0 ∧ v = nI n ∧ m2 = mPut m n x (-1) its f a b) ∨ (((0 ≤ x ∧ x ≤ 5) ∧ mCode its f a b n ≠ 0) ∧ nI k = mCode its f a b n ∧ m2 = m) ∨ (¬ (0 ≤ x ∧ x ≤ 5) ∧ k = 1 ∧ m2 = m)) kq vq mq) : MX12_tell 0 0 [.ref 44, .int x, .int its, .int f, .int a, .int b] T I J R (DP kq vq mq T I J R) := by
  have hi := hm.cg hL
  have q := m_X12_tell (I := I) (J := J) hT hR x its f a b hi.1.1.2.1 hi.1.1.1
  rcases hs with ⟨hc, hk, hv, hm2⟩ | ⟨hc, hk, hm2⟩ | ⟨hc, hk, hm2⟩
  · rw [if_pos hc, if_pos hc.1, if_pos hc.2] at q
    subst hk hm2
    exact AMet.mono q (DP.i (by (repeat (first | rw [a_u_self] | rw [a_u_row (by decide)] | rw [a_ur_ne (by decide)] | rw [a_u_ne (fun z => absurd z.2 (by decide))])) <;> rfl) (fun _ => hv.symm) ((((((((hL.s61.s61b.u rfl).u rfl).u rfl).u rfl).u rfl).u rfl)).u rfl) (fun q hq => by unfold mPut; repeat (first | rw [a_u_row (by omega)] | rw [a_ur_ne (by omega)])) hZ)
  · rw [if_neg (fun z => hc.2 z.2), if_pos hc.1, if_neg hc.2, ← hk] at q
    subst hm2
    have k0 : kq ≠ 0 := fun z => by rw [z] at hk; exact hc.2 hk.symm
    exact AMet.mono q (DP.f (j := kq) rfl (by omega) hL hZ)
  · rw [if_neg (fun z => hc z.1), if_neg hc] at q
    subst hm2
    exact AMet.mono q (DP.f (j := 1) hk (by decide) hL hZ)
theorem D_draft {T : List aT} {I : aI} {J : aJ} {R : aR} (hT : aPT T) (hR : aPR R) {m : aI} {c n g r p k : Nat} (hm : MI m c n g r p k) (hL : LEq m I) (hZ : Zr J) (x its f a b : Int32) {kq : Nat} {vq : Int32} {mq : aI} (hs : (fun k v m2 => (((0 ≤ x ∧ x ≤ 2) ∧ mCode its f a b n = 0) ∧ k = 0 ∧ v = nI n ∧ m2 = mPut m n (-1) x its f a b) ∨ (((0 ≤ x ∧ x ≤ 2) ∧ mCode its f a b n ≠ 0) ∧ nI k = mCode its f a b n ∧ m2 = m) ∨ (¬ (0 ≤ x ∧ x ≤ 2) ∧ k = 1 ∧ m2 = m)) kq vq mq) : MX12_draft 0 0 [.ref 44, .int x, .int its, .int f, .int a, .int b] T I J R (DP kq vq mq T I J R) := by
  have hi := hm.cg hL
  have q := m_X12_draft (I := I) (J := J) hT hR x its f a b hi.1.1.2.1 hi.1.1.1
  rcases hs with ⟨hc, hk, hv, hm2⟩ | ⟨hc, hk, hm2⟩ | ⟨hc, hk, hm2⟩
  · rw [if_pos hc, if_pos hc.1, if_pos hc.2] at q
    subst hk hm2
    exact AMet.mono q (DP.i (by (repeat (first | rw [a_u_self] | rw [a_u_row (by decide)] | rw [a_ur_ne (by decide)] | rw [a_u_ne (fun z => absurd z.2 (by decide))])) <;> rfl) (fun _ => hv.symm) ((((((((hL.s61.s61b.u rfl).u rfl).u rfl).u rfl).u rfl).u rfl)).u rfl) (fun q hq => by unfold mPut; repeat (first | rw [a_u_row (by omega)] | rw [a_ur_ne (by omega)])) hZ)
  · rw [if_neg (fun z => hc.2 z.2), if_pos hc.1, if_neg hc.2, ← hk] at q
    subst hm2
    have k0 : kq ≠ 0 := fun z => by rw [z] at hk; exact hc.2 hk.symm
    exact AMet.mono q (DP.f (j := kq) rfl (by omega) hL hZ)
  · rw [if_neg (fun z => hc z.1), if_neg hc] at q
    subst hm2
    exact AMet.mono q (DP.f (j := 1) hk (by decide) hL hZ)
