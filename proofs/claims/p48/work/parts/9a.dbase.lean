/-! THE MODEL DOES THE SAME -/
theorem LEq.s61 {a b : aI} {v : Int32} (h : LEq a b) : LEq a (a_u b 44 61 v) := ⟨fun o u w => by rw [a_u_row (by omega)]; exact h.1 o u w, fun k z1 z2 z3 z4 => by rw [a_u_ne (fun z => z4 z.2)]; exact h.2 k z1 z2 z3 z4⟩
theorem LEq.s61b {a b : aI} {v : Int32} (h : LEq a b) : LEq (a_u a 44 61 v) b := ⟨fun o u w => by rw [a_u_row (by omega)]; exact h.1 o u w, fun k z1 z2 z3 z4 => by rw [a_u_ne (fun z => z4 z.2)]; exact h.2 k z1 z2 z3 z4⟩
theorem LEq.u {a b : aI} {o k : Nat} {v w : Int32} (h : LEq a b) (e : v = w) : LEq (a_u a o k v) (a_u b o k w) := by
  subst e
  refine ⟨fun q u w => funext fun j => ?_, fun q z1 z2 z3 z4 => ?_⟩
  · unfold a_u
    rw [h.1 q u w]
  · unfold a_u
    rw [h.2 q z1 z2 z3 z4]
theorem LEq.ur {a b : aI} {o : Nat} {f g : Nat → Int32} (h : LEq a b) (e : ∀ j, f j = g j) (ho : o ≠ 44) : LEq (a_ur a o f) (a_ur b o g) := by
  have e2 : f = g := funext e
  subst e2
  refine ⟨fun q u w => ?_, fun q z1 z2 z3 z4 => by rw [a_ur_ne (fun z => ho z.symm), a_ur_ne (fun z => ho z.symm)]; exact h.2 q z1 z2 z3 z4⟩
  by_cases zc : q = o
  · rw [zc, a_ur_self, a_ur_self]
  · rw [a_ur_ne zc, a_ur_ne zc]; exact h.1 q u w
theorem LEq.r {a b : aI} (h : LEq a b) {q : Nat} (h1 : 45 ≤ q ∧ q ≤ 82) : b q = a q := h.1 q h1.1 h1.2
theorem LEq.f {a b : aI} (h : LEq a b) {q : Nat} (h1 : q ≠ 53 ∧ q ≠ 57 ∧ q ≠ 59 ∧ q ≠ 61) : b 44 q = a 44 q := h.2 q h1.1 h1.2.1 h1.2.2.1 h1.2.2.2
/-- what holds of the model's rows between the calls -/
def MI (m : aI) (c n g r p k : Nat) : Prop := MBk m n ∧ MEs m g r ∧ MPl m g r p ∧ MPo m k ∧ MDy m c ∧ m 44 25 = nI r ∧ r ≤ 60
theorem MI.cg {m m2 : aI} {c n g r p k : Nat} (h : MI m c n g r p k) (e : LEq m m2) : MI m2 c n g r p k := by
  obtain ⟨h1, h2, h3, h4, ⟨d, d1, d2⟩, h5, h6⟩ := h
  exact ⟨MBk_cg h1 (fun o u v => e.r (by omega)) (e.f (by decide)), MEs_cg h2 (fun o u v => e.r (by omega)) (e.f (by decide)), MPl_cg h3 (fun o u v => e.r (by omega)) (e.r (by decide)) (fun k hk => e.f (by omega)) (fun i _ => ⟨by rw [e.r (q := 77) (by decide)], by rw [e.r (q := 78) (by decide)]⟩), MPo_cg h4 (e.r (by decide)) (e.f (by decide)), ⟨d, (e.f (by decide)).trans d1, d2⟩, (e.f (by decide)).trans h5, h6⟩
theorem G9.mi {T : List aT} {I : aI} {J : aJ} {R : aR} {m : aI} {c n : Nat} {sq : Nat → Nat} {g : Nat} {gq eq : Nat → Nat} {r p : Nat} {pq : Nat → Nat} {k : Nat} (h9 : G9 T I J R m c n sq g gq eq r p pq k) : MI m c n g r p k := ⟨h9.bk, h9.es, h9.pl, h9.po, h9.dy, h9.ces.rs.2.1, h9.ces.rs.2.2.1⟩
/-- what the model's method leaves, when the class's has answered v and left the ghost m2 -/
def DP (kq : Nat) (v : Int32) (m2 : aI) (T : List aT) (I : aI) (J : aJ) (R : aR) : aP := fun o T2 I2 J2 R2 => T2 = T ∧ R2 = R ∧ (∃ b, o = .inl (some (.int b)) ∧ (kq = 0 → b = v)) ∧ I2 44 61 = nI kq ∧ LEq m2 I2 ∧ (∀ q, q < 44 ∨ 94 ≤ q → I2 q = I q) ∧ (∀ q, q < 44 ∨ 94 ≤ q → J2 q = J q) ∧ Zr J2
def DPv (kq : Nat) (m2 : aI) (T : List aT) (I : aI) (J : aJ) (R : aR) : aP := fun o T2 I2 J2 R2 => T2 = T ∧ R2 = R ∧ o = .inl none ∧ I2 44 61 = nI kq ∧ LEq m2 I2 ∧ (∀ q, q < 44 ∨ 94 ≤ q → I2 q = I q) ∧ (∀ q, q < 44 ∨ 94 ≤ q → J2 q = J q) ∧ Zr J2
theorem DP.i {kq : Nat} {v b : Int32} {m2 : aI} {T : List aT} {I I3 : aI} {J : aJ} {R : aR} (h61 : I3 44 61 = nI kq) (hv : kq = 0 → b = v) (hL : LEq m2 I3) (hf : ∀ q, q < 44 ∨ 94 ≤ q → I3 q = I q) (hZ : Zr J) : ∀ (o : Option Value ⊕ String) (T2 : List aT) (I2 : aI) (J2 : aJ) (R2 : aR), T <+: T2 → aPure (some (.int b)) T I3 J R o T2 I2 J2 R2 → DP kq v m2 T I J R o T2 I2 J2 R2 := by
  rintro o T2 I2 J2 R2 - ⟨rfl, rfl, rfl, rfl, rfl⟩
  exact ⟨rfl, rfl, ⟨b, rfl, hv⟩, h61, hL, hf, fun _ _ => rfl, hZ⟩
theorem DP.f {kq j : Nat} {v b : Int32} {m : aI} {T : List aT} {I : aI} {J : aJ} {R : aR} (hk : kq = j) (h0 : 0 < j) (hL : LEq m I) (hZ : Zr J) : ∀ (o : Option Value ⊕ String) (T2 : List aT) (I2 : aI) (J2 : aJ) (R2 : aR), T <+: T2 → aPure (some (.int b)) T (a_u I 44 61 (nI j)) J R o T2 I2 J2 R2 → DP kq v m T I J R o T2 I2 J2 R2 := by
  subst hk
  exact DP.i a_u_self (fun z => absurd z (by omega)) hL.s61 (fun q hq => a_u_row (by omega)) hZ
theorem DPv.i {kq : Nat} {m2 : aI} {T : List aT} {I I3 : aI} {J : aJ} {R : aR} (h61 : I3 44 61 = nI kq) (hL : LEq m2 I3) (hf : ∀ q, q < 44 ∨ 94 ≤ q → I3 q = I q) (hZ : Zr J) : ∀ (o : Option Value ⊕ String) (T2 : List aT) (I2 : aI) (J2 : aJ) (R2 : aR), T <+: T2 → aPure none T I3 J R o T2 I2 J2 R2 → DPv kq m2 T I J R o T2 I2 J2 R2 := by
  rintro o T2 I2 J2 R2 - ⟨rfl, rfl, rfl, rfl, rfl⟩
  exact ⟨rfl, rfl, rfl, h61, hL, hf, fun _ _ => rfl, hZ⟩
theorem i_sub1 {v : Int32} {a : Nat} (h : v.toInt = a) (ha : a ≤ 1000) : (v - 1).toInt = (a : Int) - 1 := by
  rw [Int32.toInt_sub, h, show (1 : Int32).toInt = 1 from by decide]
  apply Int.bmod_eq_of_le <;> omega
theorem at3a {x : Nat} (hx : x < 10000) : (3 * nI x).toNatClampNeg = 3 * x := by
  have h := at3 (x := x) (a := 0) hx (by decide)
  rw [show (3 * nI x + nI 0 : Int32) = 3 * nI x from Int32.add_zero _] at h
  exact h
