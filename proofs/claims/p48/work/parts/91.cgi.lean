/-! WHAT HOLDS BETWEEN THE CALLS -/
/-- the same but for what the model finds anew -/
def LEq (m m2 : aI) : Prop := (∀ o, 45 ≤ o → o ≤ 82 → m2 o = m o) ∧ ∀ k, k ≠ 53 → k ≠ 57 → k ≠ 59 → k ≠ 61 → m2 44 k = m 44 k
abbrev acW (m : aI) (i k : Nat) : Nat := iN m 80 (128 * i + k) / 100
/-- a plan's actions: names, what they are, and which follow each other for a name -/
def PlOK (m : aI) (g i : Nat) : Prop := AcW m i ∧ (∀ k, k < iN m 79 i → acN m i k < 16 * g ∧ 1 ≤ acW m i k ∧ acW m i k ≤ 4) ∧ ∀ j k, j < k → k < iN m 79 i → acN m i j = acN m i k → (acW m i j = 3 ∧ acW m i k = 1) ∨ (acW m i j = 1 ∧ acW m i k = 4)
/-- the apply that is on -/
def ApOK (m : aI) (r p : Nat) : Prop := B01 m 81 ∧ (∀ y, y < 64 → m 82 y = nI (iN m 82 y) ∧ iN m 82 y ≤ r) ∧ (m 44 45 = -1 ∨ 0 ≤ m 44 45) ∧ (m 44 43 = -1 ∨ ∃ i a, m 44 43 = nI i ∧ i < p ∧ m 44 44 = nI a ∧ a < iN m 79 i ∧ 0 ≤ m 44 45 ∧ ∀ k, a ≤ k → k < iN m 79 i → ((acW m i k = 2 ∨ acW m i k = 3) → m 69 (acN m i k) ≠ 0) ∧ (acW m i k = 1 → m 82 (acN m i k) = 0))
/-- the rows of the model -/
abbrev MBk (m : aI) (n : Nat) : Prop := SW m n ∧ (∀ s, s < n → 0 ≤ m 49 s → m 51 s = 0) ∧ NR m 54 6 4 ∧ (∀ s, n ≤ s → s < 30 → m 51 s = 0 ∧ m 52 s = 0) ∧ ∀ s, s < n → 0 ≤ m 49 s → m 50 s = -1
/-- what isn't used yet -/
def Unu (m : aI) (g r : Nat) : Prop := (∀ j a, r ≤ j → j < 60 → a < 3 → m 67 (3 * j + a) = 0) ∧ ∀ i, g ≤ i → i < 4 → m 63 i = 0 ∧ (∀ k, k < 8 → m 64 (8 * i + k) = 0) ∧ ∀ a, a < 3 → m 65 (3 * i + a) = -1
theorem Unu.cgm {m m2 : aI} {g r : Nat} (h : Unu m g r) (h63 : m2 63 = m 63) (h64 : m2 64 = m 64) (h65 : m2 65 = m 65) (h67 : m2 67 = m 67) : Unu m2 g r := by
  unfold Unu at *; rw [h63, h64, h65, h67]; exact h
abbrev MEs (m : aI) (g r : Nat) : Prop := InvR m g ∧ InvS m g ∧ (∀ x, x < 64 → m 74 x = nI (iN m 74 x) ∧ iN m 74 x ≤ r) ∧ (∀ x, x < 64 → m 69 x ≠ 0 → iN m 69 x ≤ r) ∧ Unu m g r
/-- plans not made yet -/
abbrev N79 (m : aI) (p : Nat) : Prop := NR m 79 40 129 ∧ ∀ i, p ≤ i → i < 40 → m 77 i = 0 ∧ m 78 i = 0
abbrev MPl (m : aI) (g r p : Nat) : Prop := m 44 36 = nI p ∧ p ≤ 40 ∧ (∀ i, i < p → PlOK m g i) ∧ N79 m p ∧ ApOK m r p
abbrev MPo (m : aI) (k : Nat) : Prop := m 44 14 = nI k ∧ k ≤ 8 ∧ NR m 57 24 64 ∧ ∀ j, j < k → iN m 57 (3 * j) < 10
abbrev MDy (m : aI) (c : Nat) : Prop := ∃ d, m 44 13 = nI d ∧ d ≤ 30 * c
/-- the class -/
def CB (T : List aT) (I : aI) (J : aJ) (R : aR) (m : aI) (n : Nat) (sq : Nat → Nat) : Prop := CSt T I R m n sq ∧ CBk I m ∧ ZR3 J ∧ (I 8 11 = 0 ∨ I 8 11 = 1) ∧ (I 8 11 = 0 ∨ ∃ m0, StEq m m0 ∧ Sld I J R m0 n sq)
def CPo (I : aI) (J : aJ) (m : aI) (k : Nat) : Prop := I 0 7 = nI k ∧ ∀ j, j < k → I 41 j = m 57 (3 * j) ∧ J 42 j = sRng (iN m 57 (3 * j + 1)) (nI (iN m 57 (3 * j + 2)))
def CPl (T : List aT) (I : aI) (R : aR) (m : aI) (p : Nat) (pq : Nat → Nat) : Prop := I 0 9 = nI p ∧ ∀ i, i < p → R 43 i = some (pq i) ∧ T[pq i]? = some (.inr 6) ∧ R (pq i) 2 = some (pq i + 1) ∧ T[pq i + 1]? = some (.inl (.int, iN m 79 i)) ∧ I (pq i) 0 = m 75 i ∧ I (pq i) 1 = m 76 i ∧ I (pq i) 3 = m 77 i ∧ I (pq i) 4 = m 78 i ∧ ∀ k, k < iN m 79 i → I (pq i + 1) k = m 80 (128 * i + k)
abbrev CPi (p : Nat) (pq : Nat → Nat) : Prop := ∀ i j, i < p → j < p → pq i = pq j → i = j
def G9 (T : List aT) (I : aI) (J : aJ) (R : aR) (m : aI) (c n : Nat) (sq : Nat → Nat) (g : Nat) (gq eq : Nat → Nat) (r p : Nat) (pq : Nat → Nat) (k : Nat) : Prop := aPT T ∧ aPR R ∧ (MBk m n ∧ MEs m g r ∧ MPl m g r p ∧ MPo m k ∧ MDy m c) ∧ CB T I J R m n sq ∧ CPo I J m k ∧ CEst T I R m g gq eq r ∧ CPl T I R m p pq ∧ CPi p pq ∧ CAp I R m pq
def GI (T : List aT) (I : aI) (J : aJ) (R : aR) (m : aI) (c : Nat) : Prop := ∃ n sq g gq eq r p pq k, G9 T I J R m c n sq g gq eq r p pq k
theorem G9.hT {T : List aT} {I : aI} {J : aJ} {R : aR} {m : aI} {c n : Nat} {sq : Nat → Nat} {g : Nat} {gq eq : Nat → Nat} {r p : Nat} {pq : Nat → Nat} {k : Nat} (h : G9 T I J R m c n sq g gq eq r p pq k) : aPT T := h.1
theorem G9.hR {T : List aT} {I : aI} {J : aJ} {R : aR} {m : aI} {c n : Nat} {sq : Nat → Nat} {g : Nat} {gq eq : Nat → Nat} {r p : Nat} {pq : Nat → Nat} {k : Nat} (h : G9 T I J R m c n sq g gq eq r p pq k) : aPR R := h.2.1
theorem G9.bk {T : List aT} {I : aI} {J : aJ} {R : aR} {m : aI} {c n : Nat} {sq : Nat → Nat} {g : Nat} {gq eq : Nat → Nat} {r p : Nat} {pq : Nat → Nat} {k : Nat} (h : G9 T I J R m c n sq g gq eq r p pq k) : MBk m n := h.2.2.1.1
theorem G9.es {T : List aT} {I : aI} {J : aJ} {R : aR} {m : aI} {c n : Nat} {sq : Nat → Nat} {g : Nat} {gq eq : Nat → Nat} {r p : Nat} {pq : Nat → Nat} {k : Nat} (h : G9 T I J R m c n sq g gq eq r p pq k) : MEs m g r := h.2.2.1.2.1
theorem G9.pl {T : List aT} {I : aI} {J : aJ} {R : aR} {m : aI} {c n : Nat} {sq : Nat → Nat} {g : Nat} {gq eq : Nat → Nat} {r p : Nat} {pq : Nat → Nat} {k : Nat} (h : G9 T I J R m c n sq g gq eq r p pq k) : MPl m g r p := h.2.2.1.2.2.1
theorem G9.po {T : List aT} {I : aI} {J : aJ} {R : aR} {m : aI} {c n : Nat} {sq : Nat → Nat} {g : Nat} {gq eq : Nat → Nat} {r p : Nat} {pq : Nat → Nat} {k : Nat} (h : G9 T I J R m c n sq g gq eq r p pq k) : MPo m k := h.2.2.1.2.2.2.1
theorem G9.dy {T : List aT} {I : aI} {J : aJ} {R : aR} {m : aI} {c n : Nat} {sq : Nat → Nat} {g : Nat} {gq eq : Nat → Nat} {r p : Nat} {pq : Nat → Nat} {k : Nat} (h : G9 T I J R m c n sq g gq eq r p pq k) : MDy m c := h.2.2.1.2.2.2.2
theorem G9.cb {T : List aT} {I : aI} {J : aJ} {R : aR} {m : aI} {c n : Nat} {sq : Nat → Nat} {g : Nat} {gq eq : Nat → Nat} {r p : Nat} {pq : Nat → Nat} {k : Nat} (h : G9 T I J R m c n sq g gq eq r p pq k) : CB T I J R m n sq := h.2.2.2.1
theorem G9.cpo {T : List aT} {I : aI} {J : aJ} {R : aR} {m : aI} {c n : Nat} {sq : Nat → Nat} {g : Nat} {gq eq : Nat → Nat} {r p : Nat} {pq : Nat → Nat} {k : Nat} (h : G9 T I J R m c n sq g gq eq r p pq k) : CPo I J m k := h.2.2.2.2.1
theorem G9.ces {T : List aT} {I : aI} {J : aJ} {R : aR} {m : aI} {c n : Nat} {sq : Nat → Nat} {g : Nat} {gq eq : Nat → Nat} {r p : Nat} {pq : Nat → Nat} {k : Nat} (h : G9 T I J R m c n sq g gq eq r p pq k) : CEst T I R m g gq eq r := h.2.2.2.2.2.1
theorem G9.cpl {T : List aT} {I : aI} {J : aJ} {R : aR} {m : aI} {c n : Nat} {sq : Nat → Nat} {g : Nat} {gq eq : Nat → Nat} {r p : Nat} {pq : Nat → Nat} {k : Nat} (h : G9 T I J R m c n sq g gq eq r p pq k) : CPl T I R m p pq := h.2.2.2.2.2.2.1
theorem G9.cpi {T : List aT} {I : aI} {J : aJ} {R : aR} {m : aI} {c n : Nat} {sq : Nat → Nat} {g : Nat} {gq eq : Nat → Nat} {r p : Nat} {pq : Nat → Nat} {k : Nat} (h : G9 T I J R m c n sq g gq eq r p pq k) : CPi p pq := h.2.2.2.2.2.2.2.1
theorem G9.cap {T : List aT} {I : aI} {J : aJ} {R : aR} {m : aI} {c n : Nat} {sq : Nat → Nat} {g : Nat} {gq eq : Nat → Nat} {r p : Nat} {pq : Nat → Nat} {k : Nat} (h : G9 T I J R m c n sq g gq eq r p pq k) : CAp I R m pq := h.2.2.2.2.2.2.2.2
theorem SW_cgr {m m2 : aI} {n : Nat} (h : SW m n) (hr : ∀ o, 45 ≤ o → o ≤ 53 → m2 o = m o) (h0 : m2 44 0 = m 44 0) : SW m2 n := by
  unfold SW NR iN at *
  rw [h0, hr 45 (by decide) (by decide), hr 46 (by decide) (by decide), hr 47 (by decide) (by decide), hr 48 (by decide) (by decide), hr 49 (by decide) (by decide), hr 50 (by decide) (by decide), hr 51 (by decide) (by decide), hr 53 (by decide) (by decide)]
  exact h
theorem LEq.trans {a b c : aI} (h : LEq a b) (g : LEq b c) : LEq a c := ⟨fun o u v => (g.1 o u v).trans (h.1 o u v), fun k a b c d => (g.2 k a b c d).trans (h.2 k a b c d)⟩
theorem LEq.sym {a b : aI} (h : LEq a b) : LEq b a := ⟨fun o u v => (h.1 o u v).symm, fun k a b c d => (h.2 k a b c d).symm⟩
theorem LEq.rfl' {a : aI} : LEq a a := ⟨fun _ _ _ => rfl, fun _ _ _ _ _ => rfl⟩
theorem LEq.steq {m m2 : aI} (h : LEq m m2) : StEq m m2 := ⟨fun o u => h.1 o u.1 (by omega), h.2 0 (by decide) (by decide) (by decide) (by decide), h.2 13 (by decide) (by decide) (by decide) (by decide)⟩
theorem StEq.trans {a b c : aI} (h : StEq a b) (g : StEq b c) : StEq a c := ⟨fun o u => (g.1 o u).trans (h.1 o u), g.2.1.trans h.2.1, g.2.2.trans h.2.2⟩
theorem StEq.sym {a b : aI} (h : StEq a b) : StEq b a := ⟨fun o u => (h.1 o u).symm, h.2.1.symm, h.2.2.symm⟩
theorem PlOK_cg {m m2 : aI} {g i : Nat} (h79 : m2 79 = m 79) (h80 : m2 80 = m 80) (h : PlOK m g i) : PlOK m2 g i := by
  unfold PlOK AcW acW acN iN at *; rw [h79, h80]; exact h
theorem ApOK_cg {m m2 : aI} {r p : Nat} (h69 : m2 69 = m 69) (h79 : m2 79 = m 79) (h80 : m2 80 = m 80) (h81 : m2 81 = m 81) (h82 : m2 82 = m 82) (h43 : m2 44 43 = m 44 43) (h44 : m2 44 44 = m 44 44) (h45 : m2 44 45 = m 44 45) (h : ApOK m r p) : ApOK m2 r p := by
  unfold ApOK acW acN B01 iN at *; rw [h69, h79, h80, h81, h82, h43, h44, h45]; exact h
theorem InvR_cg {m m2 : aI} {g : Nat} (h : InvR m g) (hr : ∀ o, 58 ≤ o → o ≤ 73 → m2 o = m o) (h20 : m2 44 20 = m 44 20) : InvR m2 g := by
  have e : ∀ o, 58 ≤ o → o ≤ 73 → m2 o = m o := hr
  refine ⟨GW_cg h20 (e 65 (by decide) (by decide)) (e 62 (by decide) (by decide)) (e 61 (by decide) (by decide)) (e 63 (by decide) (by decide)) (e 71 (by decide) (by decide)) h.1, h.2.1.cgm (e 58 (by decide) (by decide)) (e 62 (by decide) (by decide)) (e 65 (by decide) (by decide)) (e 69 (by decide) (by decide)) (e 72 (by decide) (by decide)) (e 73 (by decide) (by decide)) (e 61 (by decide) (by decide)), h.2.2.1.cgm (e 61 (by decide) (by decide)) (e 62 (by decide) (by decide)) (e 66 (by decide) (by decide)) (e 67 (by decide) (by decide)) (e 68 (by decide) (by decide)) (e 69 (by decide) (by decide)) (e 70 (by decide) (by decide)), h.2.2.2.cgm (e 60 (by decide) (by decide)) (e 62 (by decide) (by decide)) (e 72 (by decide) (by decide))⟩
theorem MEs_cg {m m2 : aI} {g r : Nat} (h : MEs m g r) (hr : ∀ o, 58 ≤ o → o ≤ 74 → m2 o = m o) (h20 : m2 44 20 = m 44 20) : MEs m2 g r := by
  refine ⟨InvR_cg h.1 (fun o u v => hr o u (by omega)) h20, ?_, ?_, ?_, h.2.2.2.2.cgm (hr 63 (by decide) (by decide)) (hr 64 (by decide) (by decide)) (hr 65 (by decide) (by decide)) (hr 67 (by decide) (by decide))⟩
  · have q := h.2.1; unfold InvS iN at *; rw [hr 58 (by decide) (by decide), hr 62 (by decide) (by decide), hr 65 (by decide) (by decide), hr 69 (by decide) (by decide), hr 70 (by decide) (by decide)]; exact q
  · have q := h.2.2.1; unfold iN at *; rw [hr 74 (by decide) (by decide)]; exact q
  · have q := h.2.2.2.1; unfold iN at *; rw [hr 69 (by decide) (by decide)]; exact q
theorem MPl_cg {m m2 : aI} {g r p : Nat} (h : MPl m g r p) (hr : ∀ o, 79 ≤ o → o ≤ 82 → m2 o = m o) (h69 : m2 69 = m 69) (h4 : ∀ k, k = 36 ∨ k = 43 ∨ k = 44 ∨ k = 45 → m2 44 k = m 44 k) (h7 : ∀ i, p ≤ i → m2 77 i = m 77 i ∧ m2 78 i = m 78 i) : MPl m2 g r p :=
  ⟨(h4 36 (by decide)).trans h.1, h.2.1, fun i hi => PlOK_cg (hr 79 (by decide) (by decide)) (hr 80 (by decide) (by decide)) (h.2.2.1 i hi), ⟨NR_cg (hr 79 (by decide) (by decide)) h.2.2.2.1.1, fun i h1 h2 => ⟨(h7 i h1).1.trans (h.2.2.2.1.2 i h1 h2).1, (h7 i h1).2.trans (h.2.2.2.1.2 i h1 h2).2⟩⟩, ApOK_cg h69 (hr 79 (by decide) (by decide)) (hr 80 (by decide) (by decide)) (hr 81 (by decide) (by decide)) (hr 82 (by decide) (by decide)) (h4 43 (by decide)) (h4 44 (by decide)) (h4 45 (by decide)) h.2.2.2.2⟩
theorem MBk_cg {m m2 : aI} {n : Nat} (h : MBk m n) (hr : ∀ o, 45 ≤ o → o ≤ 54 → m2 o = m o) (h0 : m2 44 0 = m 44 0) : MBk m2 n := ⟨SW_cgr h.1 (fun o u v => hr o u (by omega)) h0, by rw [hr 49 (by decide) (by decide), hr 51 (by decide) (by decide)]; exact h.2.1, NR_cg (hr 54 (by decide) (by decide)) h.2.2.1, by rw [hr 51 (by decide) (by decide), hr 52 (by decide) (by decide), hr 49 (by decide) (by decide), hr 50 (by decide) (by decide)]; exact h.2.2.2⟩
theorem MPo_cg {m m2 : aI} {k : Nat} (h : MPo m k) (h57 : m2 57 = m 57) (h14 : m2 44 14 = m 44 14) : MPo m2 k := by
  unfold MPo NR iN at *; rw [h57, h14]; exact h
theorem CB.cgm {T : List aT} {I : aI} {J : aJ} {R : aR} {m m2 : aI} {n : Nat} {sq : Nat → Nat} (h : CB T I J R m n sq) (hs : StEq m m2) : CB T I J R m2 n sq := by
  obtain ⟨h1, h2, h3, h4, h5⟩ := h
  refine ⟨h1.cgm (fun o u v => hs.1 o ⟨u, by omega⟩), ?_, h3, h4, h5.imp id (fun q => ?_)⟩
  · unfold CBk at *
    rw [hs.1 54 (by decide), hs.1 55 (by decide), hs.1 56 (by decide), hs.1 53 (by decide), hs.2.2]; exact h2
  · obtain ⟨m0, q1, q2⟩ := q
    exact ⟨m0, StEq.trans (StEq.sym hs) q1, q2⟩
theorem CPl.cgm {T : List aT} {I : aI} {R : aR} {m m2 : aI} {p : Nat} {pq : Nat → Nat} (h : CPl T I R m p pq) (hr : ∀ o, 75 ≤ o → o ≤ 80 → m2 o = m o) : CPl T I R m2 p pq := by
  unfold CPl iN at *
  rw [hr 75 (by decide) (by decide), hr 76 (by decide) (by decide), hr 77 (by decide) (by decide), hr 78 (by decide) (by decide), hr 79 (by decide) (by decide), hr 80 (by decide) (by decide)]; exact h
theorem CAp.cgm {I : aI} {R : aR} {m m2 : aI} {pq : Nat → Nat} (h : CAp I R m pq) (h81 : m2 81 = m 81) (h82 : m2 82 = m 82) (h4 : ∀ k, k = 43 ∨ k = 44 ∨ k = 45 → m2 44 k = m 44 k) : CAp I R m2 pq := by
  unfold CAp at *
  rw [h81, h82, h4 43 (by decide), h4 44 (by decide), h4 45 (by decide)]; exact h
/-- the ghost may be another one that is the same in what lasts -/
theorem G9.cgm {T : List aT} {I : aI} {J : aJ} {R : aR} {m m2 : aI} {c n : Nat} {sq : Nat → Nat} {g : Nat} {gq eq : Nat → Nat} {r p : Nat} {pq : Nat → Nat} {k : Nat} (h : G9 T I J R m c n sq g gq eq r p pq k) (e : LEq m m2) : G9 T I J R m2 c n sq g gq eq r p pq k := by
  have e4 : ∀ k, k = 0 ∨ k = 13 ∨ k = 14 ∨ k = 20 ∨ k = 25 ∨ k = 35 ∨ k = 36 ∨ k = 43 ∨ k = 44 ∨ k = 45 → m2 44 k = m 44 k := fun k hk => e.2 k (by omega) (by omega) (by omega) (by omega)
  refine ⟨h.hT, h.hR, ⟨MBk_cg h.bk (fun o u v => e.1 o u (by omega)) (e4 0 (by decide)), MEs_cg h.es (fun o u v => e.1 o (by omega) (by omega)) (e4 20 (by decide)), MPl_cg h.pl (fun o u v => e.1 o (by omega) v) (e.1 69 (by decide) (by decide)) (fun k hk => e4 k (by omega)) (fun i _ => ⟨by rw [e.1 77 (by decide) (by decide)], by rw [e.1 78 (by decide) (by decide)]⟩), MPo_cg h.po (e.1 57 (by decide) (by decide)) (e4 14 (by decide)), ?_⟩, h.cb.cgm e.steq, ?_, h.ces.cgm (fun o u v => e.1 o (by omega) (by omega)) (e4 25 (by decide)) (e4 35 (by decide)), h.cpl.cgm (fun o u v => e.1 o (by omega) (by omega)), h.cpi, h.cap.cgm (e.1 81 (by decide) (by decide)) (e.1 82 (by decide) (by decide)) (fun k hk => e4 k (by omega))⟩
  · obtain ⟨d, d1, d2⟩ := h.dy
    exact ⟨d, (e4 13 (by decide)).trans d1, d2⟩
  · have q := h.cpo; unfold CPo iN at *; rw [e.1 57 (by decide) (by decide)]; exact q
theorem GI.cgm {T : List aT} {I : aI} {J : aJ} {R : aR} {m m2 : aI} {c : Nat} (h : GI T I J R m c) (e : LEq m m2) : GI T I J R m2 c := by
  obtain ⟨n, sq, g, gq, eq, r, p, pq, k, h⟩ := h
  exact ⟨n, sq, g, gq, eq, r, p, pq, k, h.cgm e⟩
theorem GI.next {T : List aT} {I : aI} {J : aJ} {R : aR} {m : aI} {c : Nat} (h : GI T I J R m c) : GI T I J R m (c + 1) := by
  obtain ⟨n, sq, g, gq, eq, r, p, pq, k, h⟩ := h
  obtain ⟨d, d1, d2⟩ := h.dy
  exact ⟨n, sq, g, gq, eq, r, p, pq, k, h.1, h.2.1, ⟨h.bk, h.es, h.pl, h.po, d, d1, by omega⟩, h.2.2.2⟩
