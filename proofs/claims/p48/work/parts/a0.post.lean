/-! THE CLASS AT ANY GHOST: what a call leaves -/
def GX (T : List aT) (I : aI) (J : aJ) (R : aR) (m : aI) : Prop := GI T I J R m 1000
abbrev dyM (m : aI) : Prop := iN m 44 13 ≤ 30000
def xc (E : String) : Int32 := if E = exI then -71 else if E = exA then -72 else -73
theorem xc_I : xc exI = -71 := by decide +kernel
theorem xc_A : xc exA = -72 := by decide +kernel
theorem xc_S : xc exS = -73 := by decide +kernel
/-- it answers w and leaves m2, as F says -/
def EK (F : Int32 → aI → Prop) : aP := fun o T2 I2 J2 R2 => ∃ w m2, F w m2 ∧ o = .inl (some (.int w)) ∧ GX T2 I2 J2 R2 m2
/-- the same, or it throws: then w is the exception's number -/
def EX (F : Int32 → aI → Prop) : aP := fun o T2 I2 J2 R2 => ∃ w m2, F w m2 ∧ GX T2 I2 J2 R2 m2 ∧ (o = .inl (some (.int w)) ∨ ∃ E, (E = exI ∨ E = exA ∨ E = exS) ∧ o = .inr E ∧ w = xc E)
/-- the same of what answers yes or no -/
def EB (F : Int32 → aI → Prop) : aP := fun o T2 I2 J2 R2 => ∃ w m2, F w m2 ∧ GX T2 I2 J2 R2 m2 ∧ ((o = .inl (some (.int w)) ∧ (w = 0 ∨ w = 1)) ∨ ∃ E, (E = exI ∨ E = exA ∨ E = exS) ∧ o = .inr E ∧ w = xc E)
def EV (F : Int32 → aI → Prop) : aP := fun o T2 I2 J2 R2 => ∃ w m2, F w m2 ∧ GX T2 I2 J2 R2 m2 ∧ ((o = .inl none ∧ w = 0) ∨ ∃ E, (E = exI ∨ E = exA ∨ E = exS) ∧ o = .inr E ∧ w = xc E)
abbrev pt (v : Int32) (n : aI) : Int32 → aI → Prop := fun w m2 => w = v ∧ m2 = n
/-- the days are few: the count of calls may be put lower -/
theorem GI.low {T : List aT} {I : aI} {J : aJ} {R : aR} {m : aI} {c c2 : Nat} (h : GI T I J R m c) (hc : c ≤ 100000) (hd : iN m 44 13 ≤ 30 * c2) : GI T I J R m c2 := by
  obtain ⟨n, sq, g, gq, eq, r, p, pq, k, h⟩ := h
  obtain ⟨d, d1, d2⟩ := h.dy
  have e : iN m 44 13 = d := by unfold iN; rw [d1]; exact nI_clamp (by omega)
  exact ⟨n, sq, g, gq, eq, r, p, pq, k, h.1, h.2.1, ⟨h.bk, h.es, h.pl, h.po, d, d1, by omega⟩, h.2.2.2⟩
theorem GI.dle {T : List aT} {I : aI} {J : aJ} {R : aR} {m : aI} {c : Nat} (h : GI T I J R m c) (hc : c ≤ 100000) : iN m 44 13 ≤ 30 * c := by
  obtain ⟨n, sq, g, gq, eq, r, p, pq, k, h⟩ := h
  obtain ⟨d, d1, d2⟩ := h.dy
  have e : iN m 44 13 = d := by unfold iN; rw [d1]; exact nI_clamp (by omega)
  omega
theorem GX.dy {T : List aT} {I : aI} {J : aJ} {R : aR} {m : aI} (h : GX T I J R m) : dyM m := GI.dle h (by decide)
theorem GX.hT {T : List aT} {I : aI} {J : aJ} {R : aR} {m : aI} (h : GX T I J R m) : aPT T := GI.hT h
theorem GX.t0 {T : List aT} {I : aI} {J : aJ} {R : aR} {m : aI} (h : GX T I J R m) : T[0]? = some (.inr 11) := tg_0 h.hT
theorem GX.cgm {T : List aT} {I : aI} {J : aJ} {R : aR} {m m2 : aI} (h : GX T I J R m) (e : LEq m m2) : GX T I J R m2 := GI.cgm h e
theorem ex_of {ex : List String} {I : aI} {J : aJ} {m : aI} {Sp : Nat → Int32 → aI → Prop} {F : Int32 → aI → Prop} {T : List aT} (hx : ∀ E ∈ ex, E = exI ∨ E = exA ∨ E = exS) (hm : dyM m) (hS : ∀ v m2, Sp 0 v m2 → F v m2 ∧ dyM m2) (hN : ∀ j E, ex[j]? = some E → Sp (j + 1) 0 m → F (xc E) m) : ∀ o T2 I2 J2 R2, T <+: T2 → CP ex I J m 1000 Sp o T2 I2 J2 R2 → EX F o T2 I2 J2 R2 := by
  rintro o T2 I2 J2 R2 - ⟨-, ⟨y, m2, e1, e2, e3⟩ | ⟨j, E, e1, e2, e3, e4⟩⟩
  · obtain ⟨a, b⟩ := hS y m2 e2
    exact ⟨y, m2, a, e3.low (by decide) b, Or.inl e1⟩
  · exact ⟨xc E, m, hN j E e1 e3, e4.low (by decide) hm, Or.inr ⟨E, hx E (List.mem_of_getElem? e1), e2, rfl⟩⟩
theorem eb_of {ex : List String} {I : aI} {J : aJ} {m : aI} {Sp : Nat → Int32 → aI → Prop} {F : Int32 → aI → Prop} {T : List aT} (hb : ∀ v m2, Sp 0 v m2 → v = 0 ∨ v = 1) (hx : ∀ E ∈ ex, E = exI ∨ E = exA ∨ E = exS) (hm : dyM m) (hS : ∀ v m2, Sp 0 v m2 → F v m2 ∧ dyM m2) (hN : ∀ j E, ex[j]? = some E → Sp (j + 1) 0 m → F (xc E) m) : ∀ o T2 I2 J2 R2, T <+: T2 → CP ex I J m 1000 Sp o T2 I2 J2 R2 → EB F o T2 I2 J2 R2 := by
  rintro o T2 I2 J2 R2 - ⟨-, ⟨y, m2, e1, e2, e3⟩ | ⟨j, E, e1, e2, e3, e4⟩⟩
  · obtain ⟨a, b⟩ := hS y m2 e2
    exact ⟨y, m2, a, e3.low (by decide) b, Or.inl ⟨e1, hb y m2 e2⟩⟩
  · exact ⟨xc E, m, hN j E e1 e3, e4.low (by decide) hm, Or.inr ⟨E, hx E (List.mem_of_getElem? e1), e2, rfl⟩⟩
/-- what never throws -/
theorem ek0_of {I : aI} {J : aJ} {m : aI} {Sp : Nat → Int32 → aI → Prop} {F : Int32 → aI → Prop} {T : List aT} (hS : ∀ v m2, Sp 0 v m2 → F v m2 ∧ dyM m2) : ∀ o T2 I2 J2 R2, T <+: T2 → CP [] I J m 1000 Sp o T2 I2 J2 R2 → EK F o T2 I2 J2 R2 := by
  rintro o T2 I2 J2 R2 - ⟨-, ⟨y, m2, e1, e2, e3⟩ | ⟨j, E, e1, -⟩⟩
  · obtain ⟨a, b⟩ := hS y m2 e2
    exact ⟨y, m2, a, e1, e3.low (by decide) b⟩
  · cases e1
theorem exv_of {ex : List String} {I : aI} {J : aJ} {m : aI} {Sp : Nat → Int32 → aI → Prop} {F : Int32 → aI → Prop} {T : List aT} (hx : ∀ E ∈ ex, E = exI ∨ E = exA ∨ E = exS) (hm : dyM m) (hS : ∀ m2, Sp 0 0 m2 → F 0 m2 ∧ dyM m2) (hN : ∀ j E, ex[j]? = some E → Sp (j + 1) 0 m → F (xc E) m) : ∀ o T2 I2 J2 R2, T <+: T2 → CPv ex I J m 1000 Sp o T2 I2 J2 R2 → EV F o T2 I2 J2 R2 := by
  rintro o T2 I2 J2 R2 - ⟨-, ⟨m2, e1, e2, e3⟩ | ⟨j, E, e1, e2, e3, e4⟩⟩
  · obtain ⟨a, b⟩ := hS m2 e2
    exact ⟨0, m2, a, e3.low (by decide) b, Or.inl ⟨e1, rfl⟩⟩
  · exact ⟨xc E, m, hN j E e1 e3, e4.low (by decide) hm, Or.inr ⟨E, hx E (List.mem_of_getElem? e1), e2, rfl⟩⟩
theorem EX.mono {F G : Int32 → aI → Prop} (h : ∀ w m2, F w m2 → G w m2) {T : List aT} : ∀ o T2 I2 J2 R2, T <+: T2 → EX F o T2 I2 J2 R2 → EX G o T2 I2 J2 R2 := by
  rintro o T2 I2 J2 R2 - ⟨w, m2, a, b⟩
  exact ⟨w, m2, h w m2 a, b⟩
theorem EK.mono {F G : Int32 → aI → Prop} (h : ∀ w m2, F w m2 → G w m2) {T : List aT} : ∀ o T2 I2 J2 R2, T <+: T2 → EK F o T2 I2 J2 R2 → EK G o T2 I2 J2 R2 := by
  rintro o T2 I2 J2 R2 - ⟨w, m2, a, b⟩
  exact ⟨w, m2, h w m2 a, b⟩
/-- what answers no exception's number doesn't throw -/
theorem EX.ek {F : Int32 → aI → Prop} (h : ∀ w m2, F w m2 → w ≠ -71 ∧ w ≠ -72 ∧ w ≠ -73) {T : List aT} : ∀ o T2 I2 J2 R2, T <+: T2 → EX F o T2 I2 J2 R2 → EK F o T2 I2 J2 R2 := by
  rintro o T2 I2 J2 R2 - ⟨w, m2, a, b, e | ⟨E, e1, e2, e3⟩⟩
  · exact ⟨w, m2, a, e, b⟩
  · exfalso
    obtain ⟨h1, h2, h3⟩ := h w m2 a
    rcases e1 with rfl | rfl | rfl
    · exact h1 (e3.trans xc_I)
    · exact h2 (e3.trans xc_A)
    · exact h3 (e3.trans xc_S)
theorem EB.ex {F : Int32 → aI → Prop} {T : List aT} : ∀ o T2 I2 J2 R2, T <+: T2 → EB F o T2 I2 J2 R2 → EX F o T2 I2 J2 R2 := by
  rintro o T2 I2 J2 R2 - ⟨w, m2, a, b, ⟨e, -⟩ | e⟩
  · exact ⟨w, m2, a, b, Or.inl e⟩
  · exact ⟨w, m2, a, b, Or.inr e⟩
theorem EB.mono {F G : Int32 → aI → Prop} (h : ∀ w m2, F w m2 → G w m2) {T : List aT} : ∀ o T2 I2 J2 R2, T <+: T2 → EB F o T2 I2 J2 R2 → EB G o T2 I2 J2 R2 := by
  rintro o T2 I2 J2 R2 - ⟨w, m2, a, b⟩
  exact ⟨w, m2, h w m2 a, b⟩
theorem exk {F : Int32 → aI → Prop} {T0 : List aT} {X : aX} {c s pc : Nat} {L : List (Option Value)} {st : List Value} (k : ∀ (w : Int32) (m2 : aI) (T2 : List aT) (I2 : aI) (J2 : aJ) (R2 : aR), F w m2 → GX T2 I2 J2 R2 m2 → AW X c s pc L (.int w :: st) T2 I2 J2 R2) : ∀ (v2 : Option Value) (T2 : List aT) (I2 : aI) (J2 : aJ) (R2 : aR), T0 <+: T2 → EX F (.inl v2) T2 I2 J2 R2 → AW X c s pc L (v2.toList ++ st) T2 I2 J2 R2 := by
  rintro v2 T2 I2 J2 R2 hp ⟨w, m2, a, b, e | ⟨E, -, e, -⟩⟩
  · cases e; exact k w m2 T2 I2 J2 R2 a b
  · cases e
theorem ebk {F : Int32 → aI → Prop} {T0 : List aT} {X : aX} {c s pc : Nat} {L : List (Option Value)} {st : List Value} (k : ∀ (w : Int32) (m2 : aI) (T2 : List aT) (I2 : aI) (J2 : aJ) (R2 : aR), F w m2 → GX T2 I2 J2 R2 m2 → (w = 0 ∨ w = 1) → AW X c s pc L (.int w :: st) T2 I2 J2 R2) : ∀ (v2 : Option Value) (T2 : List aT) (I2 : aI) (J2 : aJ) (R2 : aR), T0 <+: T2 → EB F (.inl v2) T2 I2 J2 R2 → AW X c s pc L (v2.toList ++ st) T2 I2 J2 R2 := by
  rintro v2 T2 I2 J2 R2 hp ⟨w, m2, a, b, ⟨e, e2⟩ | ⟨E, -, e, -⟩⟩
  · cases e; exact k w m2 T2 I2 J2 R2 a b e2
  · cases e
theorem evk {F : Int32 → aI → Prop} {T0 : List aT} {X : aX} {c s pc : Nat} {L : List (Option Value)} {st : List Value} (k : ∀ (m2 : aI) (T2 : List aT) (I2 : aI) (J2 : aJ) (R2 : aR), F 0 m2 → GX T2 I2 J2 R2 m2 → AW X c s pc L st T2 I2 J2 R2) : ∀ (v2 : Option Value) (T2 : List aT) (I2 : aI) (J2 : aJ) (R2 : aR), T0 <+: T2 → EV F (.inl v2) T2 I2 J2 R2 → AW X c s pc L (v2.toList ++ st) T2 I2 J2 R2 := by
  rintro v2 T2 I2 J2 R2 hp ⟨w, m2, a, b, ⟨e, e2⟩ | ⟨E, -, e, -⟩⟩
  · cases e; rw [e2] at a; exact k m2 T2 I2 J2 R2 a b
  · cases e
/-- the exception of a callee -/
theorem exx {F : Int32 → aI → Prop} {T0 : List aT} {X : aX} {c s pc : Nat} {L : List (Option Value)} (k : ∀ (E : String) (m2 : aI) (T2 : List aT) (I2 : aI) (J2 : aJ) (R2 : aR), (E = exI ∨ E = exA ∨ E = exS) → F (xc E) m2 → GX T2 I2 J2 R2 m2 → AE X c s pc L E T2 I2 J2 R2) : ∀ (E : String) (T2 : List aT) (I2 : aI) (J2 : aJ) (R2 : aR), T0 <+: T2 → EX F (.inr E) T2 I2 J2 R2 → AE X c s pc L E T2 I2 J2 R2 := by
  rintro E T2 I2 J2 R2 hp ⟨w, m2, a, b, e | ⟨E, h, e, z⟩⟩
  · cases e
  · cases e; rw [z] at a; exact k _ m2 T2 I2 J2 R2 h a b
theorem ebx {F : Int32 → aI → Prop} {T0 : List aT} {X : aX} {c s pc : Nat} {L : List (Option Value)} (k : ∀ (E : String) (m2 : aI) (T2 : List aT) (I2 : aI) (J2 : aJ) (R2 : aR), (E = exI ∨ E = exA ∨ E = exS) → F (xc E) m2 → GX T2 I2 J2 R2 m2 → AE X c s pc L E T2 I2 J2 R2) : ∀ (E : String) (T2 : List aT) (I2 : aI) (J2 : aJ) (R2 : aR), T0 <+: T2 → EB F (.inr E) T2 I2 J2 R2 → AE X c s pc L E T2 I2 J2 R2 := by
  rintro E T2 I2 J2 R2 hp ⟨w, m2, a, b, ⟨e, -⟩ | ⟨E, h, e, z⟩⟩
  · cases e
  · cases e; rw [z] at a; exact k _ m2 T2 I2 J2 R2 h a b
theorem evx {F : Int32 → aI → Prop} {T0 : List aT} {X : aX} {c s pc : Nat} {L : List (Option Value)} (k : ∀ (E : String) (m2 : aI) (T2 : List aT) (I2 : aI) (J2 : aJ) (R2 : aR), (E = exI ∨ E = exA ∨ E = exS) → F (xc E) m2 → GX T2 I2 J2 R2 m2 → AE X c s pc L E T2 I2 J2 R2) : ∀ (E : String) (T2 : List aT) (I2 : aI) (J2 : aJ) (R2 : aR), T0 <+: T2 → EV F (.inr E) T2 I2 J2 R2 → AE X c s pc L E T2 I2 J2 R2 := by
  rintro E T2 I2 J2 R2 hp ⟨w, m2, a, b, ⟨e, -⟩ | ⟨E, h, e, z⟩⟩
  · cases e
  · cases e; rw [z] at a; exact k _ m2 T2 I2 J2 R2 h a b
theorem EX.thr {F : Int32 → aI → Prop} {E : String} {m2 : aI} {T2 : List aT} {I2 : aI} {J2 : aJ} {R2 : aR} (h : E = exI ∨ E = exA ∨ E = exS) (a : F (xc E) m2) (b : GX T2 I2 J2 R2 m2) : EX F (.inr E) T2 I2 J2 R2 := ⟨_, m2, a, b, Or.inr ⟨E, h, rfl, rfl⟩⟩
theorem EX.ret {F : Int32 → aI → Prop} {w : Int32} {m2 : aI} {T2 : List aT} {I2 : aI} {J2 : aJ} {R2 : aR} (a : F w m2) (b : GX T2 I2 J2 R2 m2) : EX F (.inl (some (.int w))) T2 I2 J2 R2 := ⟨_, m2, a, b, Or.inl rfl⟩
theorem EK.ret {F : Int32 → aI → Prop} {w : Int32} {m2 : aI} {T2 : List aT} {I2 : aI} {J2 : aJ} {R2 : aR} (a : F w m2) (b : GX T2 I2 J2 R2 m2) : EK F (.inl (some (.int w))) T2 I2 J2 R2 := ⟨_, m2, a, rfl, b⟩
theorem EV.ek {F : Int32 → aI → Prop} (h : ∀ w m2, F w m2 → w ≠ -71 ∧ w ≠ -72 ∧ w ≠ -73) {T0 : List aT} {X : aX} {c s pc : Nat} {L : List (Option Value)} : ∀ (E : String) (T2 : List aT) (I2 : aI) (J2 : aJ) (R2 : aR), T0 <+: T2 → EV F (.inr E) T2 I2 J2 R2 → AE X c s pc L E T2 I2 J2 R2 := by
  rintro E T2 I2 J2 R2 - ⟨w, m2, a, b, ⟨e, -⟩ | ⟨E, e1, e2, e3⟩⟩
  · cases e
  · exfalso
    obtain ⟨h1, h2, h3⟩ := h w m2 a
    rcases e1 with rfl | rfl | rfl
    · exact h1 (e3.trans xc_I)
    · exact h2 (e3.trans xc_A)
    · exact h3 (e3.trans xc_S)
theorem pt_ek {v : Int32} {n : aI} (h : v ≠ -71 ∧ v ≠ -72 ∧ v ≠ -73) : ∀ w m2, pt v n w m2 → w ≠ -71 ∧ w ≠ -72 ∧ w ≠ -73 := by
  rintro w m2 ⟨rfl, -⟩; exact h
theorem ekx {F : Int32 → aI → Prop} {T0 : List aT} {X : aX} {c s pc : Nat} {L : List (Option Value)} : ∀ (E : String) (T2 : List aT) (I2 : aI) (J2 : aJ) (R2 : aR), T0 <+: T2 → EK F (.inr E) T2 I2 J2 R2 → AE X c s pc L E T2 I2 J2 R2 := by
  rintro E T2 I2 J2 R2 - ⟨w, m2, -, e, -⟩; cases e
theorem ekk {F : Int32 → aI → Prop} {T0 : List aT} {X : aX} {c s pc : Nat} {L : List (Option Value)} {st : List Value} (k : ∀ (w : Int32) (m2 : aI) (T2 : List aT) (I2 : aI) (J2 : aJ) (R2 : aR), F w m2 → GX T2 I2 J2 R2 m2 → T0 <+: T2 → AW X c s pc L (.int w :: st) T2 I2 J2 R2) : ∀ (v2 : Option Value) (T2 : List aT) (I2 : aI) (J2 : aJ) (R2 : aR), T0 <+: T2 → EK F (.inl v2) T2 I2 J2 R2 → AW X c s pc L (v2.toList ++ st) T2 I2 J2 R2 := by
  rintro v2 T2 I2 J2 R2 hp ⟨w, m2, a, e, b⟩
  cases e
  exact k w m2 T2 I2 J2 R2 a b hp
/-- the same where the answer and the ghost are written -/
theorem ekp {v : Int32} {n : aI} {T0 : List aT} {X : aX} {c s pc : Nat} {L : List (Option Value)} {st : List Value} (k : ∀ (T2 : List aT) (I2 : aI) (J2 : aJ) (R2 : aR), GX T2 I2 J2 R2 n → AW X c s pc L (.int v :: st) T2 I2 J2 R2) : ∀ (v2 : Option Value) (T2 : List aT) (I2 : aI) (J2 : aJ) (R2 : aR), T0 <+: T2 → EK (pt v n) (.inl v2) T2 I2 J2 R2 → AW X c s pc L (v2.toList ++ st) T2 I2 J2 R2 := by
  rintro v2 T2 I2 J2 R2 hp ⟨w, m2, ⟨rfl, rfl⟩, e, b⟩
  cases e
  exact k T2 I2 J2 R2 b
theorem AW.widen {X : aX} {cells slots c2 s2 pc : Nat} {L : List (Option Value)} {st : List Value} {T : List aT} {I : aI} {J : aJ} {R : aR} (h1 : cells ≤ c2) (h2 : slots ≤ s2) (k : AW X c2 s2 pc L st T I J R) : AW X cells slots pc L st T I J R := by
  obtain ⟨p, l, e, Rm, s, m, args, below, meth, c, Q, A, D, ad0, T0⟩ := X
  intro tys ad ws H locs ls g1 g2 g3 g4 g5 g6 hK hP hD hS hl
  exact W.widen h1 h2 (k tys ad ws H locs ls g1 g2 g3 g4 g5 g6 hK hP hD hS hl)
/-- how many there are of each stands in the ghost -/
theorem G9.cts {T : List aT} {I : aI} {J : aJ} {R : aR} {m : aI} {c n : Nat} {sq : Nat → Nat} {g : Nat} {gq eq : Nat → Nat} {r p : Nat} {pq : Nat → Nat} {k : Nat} (h : G9 T I J R m c n sq g gq eq r p pq k) : n = iN m 44 0 ∧ g = iN m 44 20 ∧ r = iN m 44 25 ∧ p = iN m 44 36 ∧ k = iN m 44 14 := by
  have b := h.bk.1
  have w := h.es.1.1
  have rs := h.ces.rs
  have pl := h.pl
  have po := h.po
  have hg := w.g4
  refine ⟨?_, ?_, ?_, ?_, ?_⟩
  · unfold iN; rw [b.2.1]; exact (nI_clamp (by have := b.1; omega)).symm
  · unfold iN; rw [w.gn]; exact (nI_clamp (by omega)).symm
  · unfold iN; rw [rs.2.1]; exact (nI_clamp (by have := rs.2.2.1; omega)).symm
  · unfold iN; rw [pl.1]; exact (nI_clamp (by have := pl.2.1; omega)).symm
  · unfold iN; rw [po.1]; exact (nI_clamp (by have := po.2.1; omega)).symm
theorem GX.g9 {T : List aT} {I : aI} {J : aJ} {R : aR} {m : aI} (h : GX T I J R m) : ∃ sq gq eq pq, G9 T I J R m 1000 (iN m 44 0) sq (iN m 44 20) gq eq (iN m 44 25) (iN m 44 36) pq (iN m 44 14) := by
  obtain ⟨n, sq, g, gq, eq, r, p, pq, k, h9⟩ := h
  obtain ⟨rfl, rfl, rfl, rfl, rfl⟩ := h9.cts
  exact ⟨sq, gq, eq, pq, h9⟩
theorem AMet.ek {y : MethodName} {cc : ByteArray} {nL : Nat} {ret : Option FieldType} {fr lo kc ks : Nat} {hh : List (Nat × Nat × Nat × Nat)} {As : List Value} {T : List aT} {I : aI} {J : aJ} {R : aR} {v : Int32} {n : aI} (h : AMet y cc nL ret fr lo kc ks hh As T I J R (EX (pt v n))) (hv : v ≠ -71 ∧ v ≠ -72 ∧ v ≠ -73) : AMet y cc nL ret fr lo kc ks hh As T I J R (EK (pt v n)) := AMet.mono h (EX.ek (pt_ek hv))
theorem AMet.ekb {y : MethodName} {cc : ByteArray} {nL : Nat} {ret : Option FieldType} {fr lo kc ks : Nat} {hh : List (Nat × Nat × Nat × Nat)} {As : List Value} {T : List aT} {I : aI} {J : aJ} {R : aR} {v : Int32} {n : aI} (h : AMet y cc nL ret fr lo kc ks hh As T I J R (EB (pt v n))) (hv : v ≠ -71 ∧ v ≠ -72 ∧ v ≠ -73) : AMet y cc nL ret fr lo kc ks hh As T I J R (EK (pt v n)) := AMet.ek (AMet.mono h EB.ex) hv
