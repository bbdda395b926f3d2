/-- any answer, any store -/
def aRelT (Q : Option Value → List aT → aI → aJ → aR → Prop) : aP := fun o T2 I2 J2 R2 => ∃ v, o = .inl v ∧ Q v T2 I2 J2 R2
theorem aRelT_x {Q : Option Value → List aT → aI → aJ → aR → Prop} {T0 : List aT} {X : aX} {c s pc : Nat} {L : List (Option Value)} : ∀ (E : String) (T2 : List aT) (I2 : aI) (J2 : aJ) (R2 : aR), T0 <+: T2 → aRelT Q (.inr E) T2 I2 J2 R2 → AE X c s pc L E T2 I2 J2 R2 := fun _ _ _ _ _ _ h => by obtain ⟨_, h1, _⟩ := h; exact nomatch h1
theorem aRelT_k {Q : Option Value → List aT → aI → aJ → aR → Prop} {T0 : List aT} {X : aX} {c s pc : Nat} {L : List (Option Value)} {st : List Value} (k : ∀ (v : Option Value) (T2 : List aT) (I2 : aI) (J2 : aJ) (R2 : aR), T0 <+: T2 → Q v T2 I2 J2 R2 → AW X c s pc L (v.toList ++ st) T2 I2 J2 R2) : ∀ (v2 : Option Value) (T2 : List aT) (I2 : aI) (J2 : aJ) (R2 : aR), T0 <+: T2 → aRelT Q (.inl v2) T2 I2 J2 R2 → AW X c s pc L (v2.toList ++ st) T2 I2 J2 R2 := fun v2 T2 I2 J2 R2 hp h => by
  obtain ⟨v, h1, h2⟩ := h
  cases h1
  exact k v2 T2 I2 J2 R2 hp h2
theorem a_tags_8 : ∀ i, i < 44 → a_tags[i]? ≠ some (.inr 8) := by decide +kernel
theorem CSt.ge {T : List aT} {I : aI} {R : aR} {m : aI} {n s : Nat} {sq : Nat → Nat} (h : CSt T I R m n sq) (hT : aPT T) (hs : s < n) : 44 ≤ sq s := by
  apply Classical.byContradiction; intro c
  have h1 := (h.at hs).1
  have h2 : sq s < a_tags.length := by rw [show a_tags.length = 44 from by decide +kernel]; omega
  have h3 := a_pfx hT (List.getElem?_eq_getElem h2)
  rw [h1] at h3
  exact a_tags_8 (sq s) (by omega) (by rw [List.getElem?_eq_getElem h2, ← h3])
theorem CSt.inj {T : List aT} {I : aI} {R : aR} {m : aI} {n s t : Nat} {sq : Nat → Nat} (h : CSt T I R m n sq) (hs : s < n) (ht : t < n) (e : sq s = sq t) : s = t := h.2.2 s t hs ht e
theorem CSt.cgR {T : List aT} {I : aI} {R R2 : aR} {m : aI} {n : Nat} {sq : Nat → Nat} (h : CSt T I R m n sq) (hR : ∀ s, s < n → R2 2 s = R 2 s) : CSt T I R2 m n sq := ⟨h.1, fun s hs => ⟨(hR s hs).trans (h.rf hs), h.at hs⟩, h.2.2⟩
theorem CSt.cgm {T : List aT} {I : aI} {R : aR} {m m2 : aI} {n : Nat} {sq : Nat → Nat} (h : CSt T I R m n sq) (hm : ∀ o, 45 ≤ o → o ≤ 52 → m2 o = m o) : CSt T I R m2 n sq := ⟨h.1, fun s hs => ⟨h.rf hs, by
  have q := h.at hs
  unfold StAt at *
  rw [hm 49 (by decide) (by decide), hm 50 (by decide) (by decide), hm 45 (by decide) (by decide), hm 46 (by decide) (by decide), hm 47 (by decide) (by decide), hm 48 (by decide) (by decide), hm 51 (by decide) (by decide), hm 52 (by decide) (by decide)]; exact q⟩, h.2.2⟩
/-- the model as its statements would be, with these wanted versions -/
def gm (m : aI) (n : Nat) (w : Nat → Int32) : aI := a_ur (a_ur (a_ur (a_ur m 83 (wG w)) 84 (S84 (a_ur m 83 (wG w)) n)) 85 (S85 (a_ur (a_ur m 83 (wG w)) 84 (S84 (a_ur m 83 (wG w)) n)) n)) 86 (S86 (a_ur (a_ur m 83 (wG w)) 84 (S84 (a_ur m 83 (wG w)) n)) n n)
theorem gm_lays {m : aI} {n : Nat} {w : Nat → Int32} (h : Least m (a_ur m 83 (wG w)) n) : LaysR m (gm m n w) n := ⟨_, h, rfl⟩
theorem gm_fr {m : aI} {n : Nat} {w : Nat → Int32} : ∀ o, o ≠ 83 ∧ o ≠ 84 ∧ o ≠ 85 ∧ o ≠ 86 → gm m n w o = m o := fun o ho => by
  unfold gm; rw [a_ur_ne ho.2.2.2, a_ur_ne ho.2.2.1, a_ur_ne ho.2.1, a_ur_ne ho.1]
theorem gm_sw {m : aI} {n : Nat} {w : Nat → Int32} (h : SW m n) : SW (gm m n w) n :=
  SW_cg (by rw [gm_fr 44 (by decide)]) (gm_fr 45 (by decide)) (gm_fr 46 (by decide)) (gm_fr 47 (by decide)) (gm_fr 48 (by decide)) (gm_fr 49 (by decide)) (gm_fr 50 (by decide)) (gm_fr 51 (by decide)) (gm_fr 53 (by decide)) h
theorem gm_84 {m : aI} {n s : Nat} {w : Nat → Int32} (hs : s < n) : gm m n w 84 s = bI (decide (mThere (a_ur m 83 (wG w)) s)) := by
  unfold gm; rw [a_ur_ne (by decide), a_ur_ne (by decide), a_ur_self]; simp only [S84]; rw [if_pos hs]
theorem gm_85 {m : aI} {n s : Nat} {w : Nat → Int32} (hs : s < n) (h : m 45 s < 7) : gm m n w 85 s = mGuard (gm m n w) s := by
  have e : mGuard (gm m n w) s = mGuard (a_ur (a_ur m 83 (wG w)) 84 (S84 (a_ur m 83 (wG w)) n)) s := mGuard_cg (fun o h1 h2 => by unfold gm; rw [a_ur_ne h2, a_ur_ne h1]) s
  rw [e]
  have e2 : a_ur (a_ur m 83 (wG w)) 84 (S84 (a_ur m 83 (wG w)) n) 45 s = m 45 s := by rw [a_ur_ne (by decide), a_ur_ne (by decide)]
  unfold gm; rw [a_ur_ne (by decide), a_ur_self]; simp only [S85]; rw [if_pos hs, e2, if_pos h]
theorem gm_86 {m : aI} {n s : Nat} {w : Nat → Int32} (hs : s < n) : gm m n w 86 s = fV (gm m n w) n s := by
  have e : mFault (gm m n w) n s = mFault (a_ur (a_ur m 83 (wG w)) 84 (S84 (a_ur m 83 (wG w)) n)) n s := mFault_cg (fun o h1 h2 => by unfold gm; rw [a_ur_ne h2, a_ur_ne h1]) n s
  unfold fV
  rw [e]
  have e1 : gm m n w 84 s = a_ur (a_ur m 83 (wG w)) 84 (S84 (a_ur m 83 (wG w)) n) 84 s := by unfold gm; rw [a_ur_ne (show 84 ≠ 86 by decide), a_ur_ne (show 84 ≠ 85 by decide)]
  have e2 : gm m n w 45 s = a_ur (a_ur m 83 (wG w)) 84 (S84 (a_ur m 83 (wG w)) n) 45 s := by unfold gm; rw [a_ur_ne (show 45 ≠ 86 by decide), a_ur_ne (show 45 ≠ 85 by decide)]
  rw [e1, e2]
  unfold gm; rw [a_ur_self]; simp only [S86]; rw [if_pos hs]
theorem thr_f {m : aI} {n s : Nat} {w : Nat → Int32} (hs : s < n) (h : 0 ≤ m 49 s) : gm m n w 84 s = bI (decide (m 52 s = 0)) := by
  rw [gm_84 hs]
  refine bI_cg ((mThere_fr (fun o ho => by rw [a_ur_ne ho]) s).trans ⟨fun q => q.elim (fun z => z.2) (fun z => absurd z.1 (Int32.not_lt.mpr h)), fun q => Or.inl ⟨h, q⟩⟩)
theorem thr_p {m : aI} {n s : Nat} {w : Nat → Int32} (hS : SW m n) (hs : s < n) (hl : LOW w) (h : m 49 s = -1) : gm m n w 84 s = bI (decide (nI (iN m 51 s) = 31 - nI (32 - bl (un (w (iN m 50 s)))))) := by
  have h0 : m 49 s < 0 := by rw [h]; decide
  have hp := hS.pk s hs h0
  have hv := hS.vs s hs
  rw [gm_84 hs]
  refine bI_cg ((mThere_fr (fun o ho => by rw [a_ur_ne ho]) s).trans ?_)
  have e := ch_case hl hp.2 (iN m 51 s) (by omega)
  rw [← ch_at (m := m), ← hv.1] at e
  rw [← hv.1]
  exact ⟨fun q => q.elim (fun z => absurd h0 (Int32.not_lt.mpr z.1)) (fun z => e.mpr z.2), fun q => Or.inr ⟨h0, e.mp q⟩⟩
theorem gm_tg {m : aI} {n : Nat} {w : Nat → Int32} (hF0 : ∀ s, s < n → 0 ≤ m 49 s → m 51 s = 0) : TgH (gm m n w) n := fun s t hs ht h1 h2 h3 h4 => by
  rw [gm_84 hs] at h1
  rw [gm_84 ht] at h2
  have a := (mThere_fr (I := m) (I1 := a_ur m 83 (wG w)) (fun o ho => by rw [a_ur_ne ho]) s).mp (bI_dn.mp h1)
  have b := (mThere_fr (I := m) (I1 := a_ur m 83 (wG w)) (fun o ho => by rw [a_ur_ne ho]) t).mp (bI_dn.mp h2)
  rw [gm_fr 49 (by decide)] at h3
  rw [gm_fr 50 (by decide)] at h4
  rw [gm_fr 51 (by decide)]
  rcases a with a | a
  · rw [hF0 s hs a.1, hF0 t ht (by rw [← h3]; exact a.1)]
  · rcases b with b | b
    · rw [h3] at a; exact absurd a.1 (Int32.not_lt.mpr b.1)
    · rw [a.2.2, b.2.2]; unfold iN; rw [h4]
theorem told_n {M : aI} {k : Nat} {its f : Int32} (h : M 84 k = 0 ∨ ¬ M 45 k = its) : mTold M (k + 1) its f = mTold M k its f := by
  show (mTold M k its f || (decide (M 84 k ≠ 0) && decide (M 45 k = its) && (decide (f < 0) || decide (M 46 k = f)))) = _
  rcases h with h | h <;> simp [h]
theorem told_9 {M : aI} {k : Nat} (h1 : M 84 k ≠ 0) (h2 : M 45 k = 9) : mTold M (k + 1) 9 (-1) = true := by
  show (mTold M k 9 (-1) || (decide (M 84 k ≠ 0) && decide (M 45 k = 9) && (decide ((-1 : Int32) < 0) || decide (M 46 k = -1)))) = _
  simp [h1, h2, show ((-1 : Int32) < 0) from by decide]
theorem told_8 {M : aI} {k i : Nat} (h1 : M 84 k ≠ 0) (h2 : M 45 k = 8) (hi : i < 10) : mTold M (k + 1) 8 (nI i) = (mTold M k 8 (nI i) || decide (M 46 k = nI i)) := by
  show (mTold M k 8 (nI i) || (decide (M 84 k ≠ 0) && decide (M 45 k = 8) && (decide (nI i < 0) || decide (M 46 k = nI i)))) = _
  simp [h1, h2, show ¬ (nI i < 0) from Int32.not_lt.mpr (nI_pos' (by omega))]
/-- the first way through the statements -/
def EX1 (I : aI) (w : Nat → Int32) (M : aI) (n : Nat) (sq : Nat → Nat) (k : Nat) (I2 : aI) : Prop := (∀ o p, o ≠ 7 → ¬ (o = 1 ∧ (p = 8 ∨ p = 9)) → ¬ (p = 8 ∧ ∃ s, s < n ∧ o = sq s) → I2 o p = I o p) ∧ I2 7 = w ∧ (∀ s, s < k → I2 (sq s) 8 = M 84 s) ∧ I2 1 8 = bI (mTold M k 9 (-1)) ∧ ∀ i, i < 10 → bt (I2 1 9) i = mTold M k 8 (nI i)
theorem EX1.step {T : List aT} {I0 I : aI} {R : aR} {w : Nat → Int32} {m M : aI} {n k : Nat} {sq : Nat → Nat} {I2 : aI} {c l : Int32} (hT : aPT T) (hSt : CSt T I0 R m n sq) (hk : k < n) (h : EX1 I w M n sq k I2) (hc : c = bI (mTold M (k + 1) 9 (-1))) (hl : ∀ i, i < 10 → bt l i = mTold M (k + 1) 8 (nI i)) : EX1 I w M n sq (k + 1) (a_u (a_u (a_u I2 (sq k) 8 (M 84 k)) 1 8 c) 1 9 l) := by
  have h95 := hSt.ge hT hk
  refine ⟨fun o p h7 h1 h8 => ?_, ?_, fun s hs => ?_, ?_, fun i hi => ?_⟩
  · rw [a_u_ne (fun q => h1 ⟨q.1, Or.inr q.2⟩), a_u_ne (fun q => h1 ⟨q.1, Or.inl q.2⟩), a_u_ne (fun q => h8 ⟨q.2, k, hk, q.1⟩)]; exact h.1 o p h7 h1 h8
  · rw [a_u_row (by decide), a_u_row (by decide), a_u_row (by omega)]; exact h.2.1
  · have := hSt.ge hT (show s < n by omega)
    rw [a_u_row (by omega), a_u_row (by omega)]
    by_cases e : s = k
    · rw [e, a_u_self]
    · rw [a_u_row (fun q => e (hSt.inj (by omega) hk q))]; exact h.2.2.1 s (by omega)
  · rw [a_u_ne (by decide), a_u_self]; exact hc
  · rw [a_u_self]; exact hl i hi
theorem EX1.st {T : List aT} {I : aI} {R : aR} {w : Nat → Int32} {m M : aI} {n k : Nat} {sq : Nat → Nat} {I2 : aI} (hT : aPT T) (hSt : CSt T I R m n sq) (h : EX1 I w M n sq k I2) : CSt T I2 R m n sq := hSt.cg (h.1 1 1 (by decide) (fun q => absurd q.2 (by decide)) (fun q => absurd q.1 (by decide))) (fun s hs p hp => by
  have := hSt.ge hT hs
  exact h.1 (sq s) p (by omega) (fun q => by omega) (fun q => by omega))
theorem EX1.bk {I : aI} {w : Nat → Int32} {m M : aI} {n k : Nat} {T : List aT} {I0 : aI} {R : aR} {sq : Nat → Nat} {I2 : aI} (hT : aPT T) (hSt : CSt T I0 R m n sq) (h : EX1 I w M n sq k I2) (hB : CBk I m) (hM : ∀ o, o ≠ 83 ∧ o ≠ 84 ∧ o ≠ 85 ∧ o ≠ 86 → M o = m o) : CBk I2 M := by
  have f : ∀ o p, o < 44 → o ≠ 7 → o ≠ 1 → I2 o p = I o p := fun o p h1 h2 h3 => h.1 o p h2 (fun q => h3 q.1) (fun q => by obtain ⟨s, hs, e⟩ := q.2; have := hSt.ge hT hs; omega)
  refine ⟨fun q hq => ?_, fun q hq => ?_, fun q hq => ?_, fun q hq => ?_, ?_⟩
  · rw [f 3 q (by decide) (by decide) (by decide), hM 54 (by decide)]; exact hB.ly q hq
  · rw [f 4 q (by decide) (by decide) (by decide), hM 55 (by decide)]; exact hB.lk hq
  · rw [f 5 q (by decide) (by decide) (by decide), hM 56 (by decide)]; exact hB.lp hq
  · rw [f 6 q (by decide) (by decide) (by decide), hM 53 (by decide)]; exact hB.vv q hq
  · rw [h.1 1 6 (by decide) (fun q => absurd q.2 (by decide)) (fun q => absurd q.1 (by decide)), hM 44 (by decide)]; exact hB.td
/-- the second way -/
def EX2 (I2 : aI) (R : aR) (M : aI) (n : Nat) (sq : Nat → Nat) (k : Nat) (I3 : aI) (R3 : aR) : Prop := (∀ o p, ¬ (p = 10 ∧ ∃ s, s < n ∧ o = sq s) → I3 o p = I2 o p) ∧ (∀ s, s < k → I3 (sq s) 10 = M 86 s) ∧ (∀ o p, ¬ (p = 11 ∧ ∃ s, s < n ∧ o = sq s) → R3 o p = R o p) ∧ (∀ s, s < k → M 84 s ≠ 0 → M 45 s < 7 → (M 85 s < 0 ∧ R3 (sq s) 11 = none) ∨ ∃ g, g < n ∧ M 85 s = nI g ∧ R3 (sq s) 11 = some (sq g)) ∧ aPR R3
theorem EX2.step {T : List aT} {I0 : aI} {R0 : aR} {m : aI} {I2 : aI} {R : aR} {M : aI} {n k : Nat} {sq : Nat → Nat} {I3 : aI} {R3 : aR} {v : Option Nat} {x : Int32} (hT : aPT T) (hSt : CSt T I0 R0 m n sq) (hk : k < n) (h : EX2 I2 R M n sq k I3 R3) (hx : x = M 86 k) (hv : M 84 k ≠ 0 → M 45 k < 7 → (M 85 k < 0 ∧ v = none) ∨ ∃ g, g < n ∧ M 85 k = nI g ∧ v = some (sq g)) : EX2 I2 R M n sq (k + 1) (a_u I3 (sq k) 10 x) (a_u R3 (sq k) 11 v) := by
  have h95 := hSt.ge hT hk
  refine ⟨fun o p hn => ?_, fun s hs => ?_, fun o p hn => ?_, fun s hs => ?_, h.2.2.2.2.putD h95⟩
  · rw [a_u_ne (fun q => hn ⟨q.2, k, hk, q.1⟩)]; exact h.1 o p hn
  · by_cases e : s = k
    · rw [e, a_u_self]; exact hx
    · rw [a_u_row (fun q => e (hSt.inj (by omega) hk q))]; exact h.2.1 s (by omega)
  · rw [a_u_ne (fun q => hn ⟨q.2, k, hk, q.1⟩)]; exact h.2.2.1 o p hn
  · by_cases e : s = k
    · rw [e, a_u_self]; exact hv
    · rw [a_u_row (fun q => e (hSt.inj (by omega) hk q))]; exact h.2.2.2.1 s (by omega)
theorem EX2.st {T : List aT} {I2 : aI} {R : aR} {m M : aI} {n k : Nat} {sq : Nat → Nat} {I3 : aI} {R3 : aR} (hT : aPT T) (hSt : CSt T I2 R m n sq) (h : EX2 I2 R M n sq k I3 R3) : CSt T I3 R3 m n sq :=
  (hSt.cg (I2 := I3) (h.1 1 1 (fun q => absurd q.1 (by decide))) (fun s hs p hp => h.1 (sq s) p (fun q => by omega))).cgR (fun s hs => h.2.2.1 2 s (fun q => by obtain ⟨t, ht, e⟩ := q.2; have := hSt.ge hT ht; omega))
theorem gv_g {M : aI} {n s : Nat} (hs : s < n) (hn : n ≤ 30) : (mGuard M s = -1) ∨ ∃ g, g < n ∧ mGuard M s = nI g := by
  unfold mGuard
  dsimp only
  split
  · rcases mLast_lt (p := fun j => decide (M 84 j ≠ 0) && decide (mTog M s j)) (N := 30) (by decide) (n := s) (by omega) with e | ⟨g, h1, h2, -⟩
    · exact Or.inl e
    · exact Or.inr ⟨g, by omega, h2⟩
  · exact Or.inl rfl
/-- where nothing changes but what examining writes -/
def EXF (I I2 : aI) (R R2 : aR) (n : Nat) (sq : Nat → Nat) : Prop := (∀ o p, o ≠ 7 → ¬ (o = 1 ∧ (p = 8 ∨ p = 9)) → ¬ ((p = 8 ∨ p = 10) ∧ ∃ s, s < n ∧ o = sq s) → I2 o p = I o p) ∧ ∀ o p, ¬ (p = 11 ∧ ∃ s, s < n ∧ o = sq s) → R2 o p = R o p
set_option maxRecDepth 100000 in
theorem m_X1_examine {T : List aT} {I : aI} {J : aJ} {R : aR} (hT : aPT T) (hR : aPR R) {m : aI} {n : Nat} {sq : Nat → Nat} (hSt : CSt T I R m n sq) (hS : SW m n) (hB : CBk I m) (hF0 : ∀ s, s < n → 0 ≤ m 49 s → m 51 s = 0) : MX1_examine 0 0 [.ref 1] T I J R (aRelT (fun v T2 I2 J2 R2 => v = none ∧ T2 = T ∧ J2 = J ∧ ∃ w, LOW w ∧ Least m (a_ur m 83 (wG w)) n ∧ CDr I2 R2 (gm m n w) n sq ∧ EXF I I2 R R2 n sq ∧ aPR R2)) := by
  refine a_met (by decide +kernel) a_le (fun X hC hq => ?_)
  show AW X 0 0 0 [some (.ref 1), none, none] [] T I J R
  refine aw_aload_n hC dX1_examine_0 rfl ?_
  refine kX1_49 hC rfl (m_X1_findWanted (I := I) hT hR hSt hS hB.vv) dX1_examine_1 (tg_1 hT) rfl a_le a_le a_le a_le a_le rfl aRelV_x (aRelV_k (fun v9 I9 J9 hQ => ?_))
  obtain ⟨ev9, e9, w, ew9, hlow, hLe⟩ := hQ
  rw [ev9, e9, ew9]
  show AW X 0 0 4 [some (.ref 1), none, none] [] T (a_ur I 7 w) J R
  refine aw_aload_n hC dX1_examine_4 rfl ?_
  refine aw_iconst (v := 0) hC dX1_examine_5 (by decide) ?_
  refine aw_putZ hC dX1_examine_6 aF_X1_52 rfl rfl (tg_1 hT) (Or.inl rfl) ?_
  refine aw_aload_n hC dX1_examine_9 rfl ?_
  refine aw_iconst (v := 0) hC dX1_examine_10 (by decide) ?_
  refine aw_putI hC dX1_examine_11 aF_X1_56 rfl rfl (tg_1 hT) ?_
  refine aw_iconst (v := 0) hC dX1_examine_14 (by decide) ?_
  refine aw_istore_n (L2 := [some (.ref 1), some (.int 0), none]) hC dX1_examine_15 rfl (by decide) rfl ?_
  have hM := @gm_fr m n w
  have hSM := gm_sw (w := w) hS
  have hn9 := hS.n30
  have loop1 : ∀ k, k ≤ n → ∀ I2 : aI, EX1 I w (gm m n w) n sq k I2 → AW X 0 0 16 [some (.ref 1), some (.int (nI k)), none] [] T I2 J R := by
    refine a_down n (fun k hk1 ih1 => ?_)
    intro I2 hE
    have hSt2 := hE.st hT hSt
    refine aw_iload_n hC dX1_examine_16 rfl ?_
    refine aw_aload_n hC dX1_examine_17 rfl ?_
    refine aw_getI hC dX1_examine_18 aF_X1_39 rfl (tg_1 hT) ?_
    rw [hSt2.cnt]
    refine aw_icmp_ge (tgt := 136) hC dX1_examine_21 (by decide) (fun h1 => ?_) (fun h1 => ?_)
    · show AW X 0 0 136 [some (.ref 1), some (.int (nI k)), none] [] T I2 J R
      have h1n : n ≤ k := (nI_leI (a := n) (b := k) (by omega) (by omega)).mp h1
      refine aw_iconst (v := 0) hC dX1_examine_136 (by decide) ?_
      refine aw_istore_n (L2 := [some (.ref 1), some (.int 0), none]) hC dX1_examine_137 rfl (by decide) rfl ?_
      have e9 : k = n := by omega
      rw [e9] at hE
      have hStM : CSt T I2 R (gm m n w) n sq := hSt2.cgm (fun o h1 h2 => hM o (by omega))
      have hB2 : CBk I2 (gm m n w) := hE.bk hT hSt hB hM
      have hTg := gm_tg (w := w) hF0
      have loop2 : ∀ k2, k2 ≤ n → ∀ (I3 : aI) (R3 : aR), EX2 I2 R (gm m n w) n sq k2 I3 R3 → AW X 0 0 138 [some (.ref 1), some (.int (nI k2)), none] [] T I3 J R3 := by
        refine a_down n (fun k2 hk2 ih2 => ?_)
        intro I3 R3 hX
        have hRq : aPR R3 := hX.2.2.2.2
        have hSt4 : CSt T I3 R3 (gm m n w) n sq := hX.st hT hStM
        have hTh4 : CTh I3 (gm m n w) n sq := fun s hs => (hX.1 (sq s) 8 (fun q => by omega)).trans (hE.2.2.1 s hs)
        have hf3 : ∀ o p, o < 44 → I3 o p = I2 o p := fun o p h1 => hX.1 o p (fun q => by obtain ⟨t, ht, e⟩ := q.2; have := hSt.ge hT ht; omega)
        have hB4 : CBk I3 (gm m n w) := ⟨fun q hq => (hf3 3 q (by decide)).trans (hB2.ly q hq), fun f hf => (hf3 4 f (by decide)).trans (hB2.lk hf), fun j hj => (hf3 5 j (by decide)).trans (hB2.lp hj), fun p hp => (hf3 6 p (by decide)).trans (hB2.vv p hp), (hf3 1 6 (by decide)).trans hB2.td⟩
        have hLi4 : CLi I3 (gm m n w) n := ⟨(hf3 1 8 (by decide)).trans hE.2.2.2.1, fun i hi => by rw [hf3 1 9 (by decide)]; exact hE.2.2.2.2 i hi⟩
        refine aw_iload_n hC dX1_examine_138 rfl ?_
        refine aw_aload_n hC dX1_examine_139 rfl ?_
        refine aw_getI hC dX1_examine_140 aF_X1_39 rfl (tg_1 hT) ?_
        rw [hSt4.cnt]
        refine aw_icmp_ge (tgt := 185) hC dX1_examine_143 (by decide) (fun h2 => ?_) (fun h2 => ?_)
        · show AW X 0 0 185 [some (.ref 1), some (.int (nI k2)), none] [] T I3 J R3
          have h2n : n ≤ k2 := (nI_leI (a := n) (b := k2) (by omega) (by omega)).mp h2
          exact aw_return hC hq rfl dX1_examine_185 a_le a_le ⟨_, rfl, rfl, rfl, rfl, w, hlow, hLe, fun s hs => ⟨hTh4 s hs, hX.2.1 s (by omega), hX.2.2.2.1 s (by omega)⟩, ⟨fun o p h7 h1 h8 => (hX.1 o p (fun q => h8 ⟨Or.inr q.1, q.2⟩)).trans (hE.1 o p h7 h1 (fun q => h8 ⟨Or.inl q.1, q.2⟩)), hX.2.2.1⟩, hRq⟩
        · show AW X 0 0 146 [some (.ref 1), some (.int (nI k2)), none] [] T I3 J R3
          have h2n : ¬ n ≤ k2 := fun q9 => h2 ((nI_leI (a := n) (b := k2) (by omega) (by omega)).mpr q9)
          refine aw_aload_n hC dX1_examine_146 rfl ?_
          refine aw_getR hC dX1_examine_147 aF_X1_11 rfl (tg_1 hT) (pr_1_0 hRq) ?_
          refine aw_iload_n hC dX1_examine_150 rfl ?_
          refine aw_aaloadR_k (j := k2) hC dX1_examine_151 (tg_2 hT) (nI_clamp (by omega)) (vp_in_nI (by omega) (by decide)) (hSt4.rf (by omega)) ?_
          refine aw_aload_n hC dX1_examine_152 rfl ?_
          refine aw_iload_n hC dX1_examine_153 rfl ?_
          have hgv := m_X1_findGuard (I := I3) (J := J) hT hRq hSt4 hSM hTh4 hTg (s := k2) (by omega)
          by_cases hcc : (gm m n w) 84 k2 ≠ 0 ∧ (gm m n w) 45 k2 < 7 ∧ 0 ≤ mGuard (gm m n w) k2
          · simp only [gV, if_pos hcc] at hgv
            refine kX1_78 hC rfl hgv dX1_examine_154 (tg_1 hT) rfl a_le a_le a_le a_le a_le rfl aPure_x (aPure_k ?_)
            have hgg : ∃ g, g < n ∧ mGuard (gm m n w) k2 = nI g := (gv_g (by omega) hn9).resolve_left (fun q => by have := hcc.2.2; rw [q] at this; exact absurd this (by decide))
            have hge9 : mGuard (gm m n w) k2 = nI (mGuard (gm m n w) k2).toNatClampNeg := by obtain ⟨g, h1, h2⟩ := hgg; rw [h2, nI_clamp (by omega)]
            have hgn9 : (mGuard (gm m n w) k2).toNatClampNeg < n := by obtain ⟨g, h1, h2⟩ := hgg; rw [h2, nI_clamp (by omega)]; exact h1
            show AW X 0 0 157 [some (.ref 1), some (.int (nI k2)), none] [.ref (sq (mGuard (gm m n w) k2).toNatClampNeg), .ref (sq k2)] T I3 J R3
            refine aw_putR hC dX1_examine_157 aF_X1_82 rfl rfl (hSt4.at (by omega)).1 ?_
            have hR3 : aPR (a_u R3 (sq k2) 11 (some (sq (mGuard (gm m n w) k2).toNatClampNeg))) := hRq.putD (hSt.ge hT (by omega))
            have hSt5 : CSt T I3 (a_u R3 (sq k2) 11 (some (sq (mGuard (gm m n w) k2).toNatClampNeg))) (gm m n w) n sq := hSt4.cgR (fun s hs => by rw [a_u_row (by have := hSt.ge hT (show k2 < n by omega); omega)])
            refine aw_aload_n hC dX1_examine_160 rfl ?_
            refine aw_getR hC dX1_examine_161 aF_X1_11 rfl (tg_1 hT) (pr_1_0 hR3) ?_
            refine aw_iload_n hC dX1_examine_164 rfl ?_
            refine aw_aaloadR_k (j := k2) hC dX1_examine_165 (tg_2 hT) (nI_clamp (by omega)) (vp_in_nI (by omega) (by decide)) (hSt5.rf (by omega)) ?_
            refine aw_aload_n hC dX1_examine_166 rfl ?_
            refine aw_aload_n hC dX1_examine_167 rfl ?_
            refine aw_getR hC dX1_examine_168 aF_X1_11 rfl (tg_1 hT) (pr_1_0 hR3) ?_
            refine aw_iload_n hC dX1_examine_171 rfl ?_
            refine aw_aaloadR_k (j := k2) hC dX1_examine_172 (tg_2 hT) (nI_clamp (by omega)) (vp_in_nI (by omega) (by decide)) (hSt5.rf (by omega)) ?_
            refine kX1_86 hC rfl (m_X1_findFault (I := I3) hT hR3 hSt5 hSM hTh4 hB4 hLi4 (s := k2) (by omega)) dX1_examine_173 (tg_1 hT) rfl a_le a_le a_le a_le a_le rfl aPure_x (aPure_k ?_)
            show AW X 0 0 176 [some (.ref 1), some (.int (nI k2)), none] [.int (fV (gm m n w) n k2), .ref (sq k2)] T I3 J (a_u R3 (sq k2) 11 (some (sq (mGuard (gm m n w) k2).toNatClampNeg)))
            refine aw_putI hC dX1_examine_176 aF_X1_90 rfl rfl (hSt4.at (by omega)).1 ?_
            refine aw_iinc (v := nI (k2 + 1)) (L2 := [some (.ref 1), some (.int (nI (k2 + 1))), none]) hC dX1_examine_179 rfl (nI_inc _) (by decide) rfl ?_
            refine aw_goto (tgt := 138) hC dX1_examine_182 (by decide) ?_
            exact ih2 (by omega) _ _ (hX.step hT hSt (by omega) (gm_86 (by omega)).symm (fun _ h7 => Or.inr ⟨_, hgn9, by rw [gm_85 (by omega) (by rw [hM 45 (by decide)] at h7; exact h7)]; exact hge9, rfl⟩))
          · simp only [gV, if_neg hcc] at hgv
            refine kX1_78 hC rfl hgv dX1_examine_154 (tg_1 hT) rfl a_le a_le a_le a_le a_le rfl aPure_x (aPure_k ?_)
            show AW X 0 0 157 [some (.ref 1), some (.int (nI k2)), none] [.null, .ref (sq k2)] T I3 J R3
            refine aw_putN hC dX1_examine_157 aF_X1_82 rfl rfl (hSt4.at (by omega)).1 ?_
            have hR4 : aPR (a_u R3 (sq k2) 11 none) := hRq.putD (hSt.ge hT (by omega))
            have hSt5 : CSt T I3 (a_u R3 (sq k2) 11 none) (gm m n w) n sq := hSt4.cgR (fun s hs => by rw [a_u_row (by have := hSt.ge hT (show k2 < n by omega); omega)])
            refine aw_aload_n hC dX1_examine_160 rfl ?_
            refine aw_getR hC dX1_examine_161 aF_X1_11 rfl (tg_1 hT) (pr_1_0 hR4) ?_
            refine aw_iload_n hC dX1_examine_164 rfl ?_
            refine aw_aaloadR_k (j := k2) hC dX1_examine_165 (tg_2 hT) (nI_clamp (by omega)) (vp_in_nI (by omega) (by decide)) (hSt5.rf (by omega)) ?_
            refine aw_aload_n hC dX1_examine_166 rfl ?_
            refine aw_aload_n hC dX1_examine_167 rfl ?_
            refine aw_getR hC dX1_examine_168 aF_X1_11 rfl (tg_1 hT) (pr_1_0 hR4) ?_
            refine aw_iload_n hC dX1_examine_171 rfl ?_
            refine aw_aaloadR_k (j := k2) hC dX1_examine_172 (tg_2 hT) (nI_clamp (by omega)) (vp_in_nI (by omega) (by decide)) (hSt5.rf (by omega)) ?_
            refine kX1_86 hC rfl (m_X1_findFault (I := I3) hT hR4 hSt5 hSM hTh4 hB4 hLi4 (s := k2) (by omega)) dX1_examine_173 (tg_1 hT) rfl a_le a_le a_le a_le a_le rfl aPure_x (aPure_k ?_)
            show AW X 0 0 176 [some (.ref 1), some (.int (nI k2)), none] [.int (fV (gm m n w) n k2), .ref (sq k2)] T I3 J (a_u R3 (sq k2) 11 none)
            refine aw_putI hC dX1_examine_176 aF_X1_90 rfl rfl (hSt4.at (by omega)).1 ?_
            refine aw_iinc (v := nI (k2 + 1)) (L2 := [some (.ref 1), some (.int (nI (k2 + 1))), none]) hC dX1_examine_179 rfl (nI_inc _) (by decide) rfl ?_
            refine aw_goto (tgt := 138) hC dX1_examine_182 (by decide) ?_
            exact ih2 (by omega) _ _ (hX.step hT hSt (by omega) (gm_86 (by omega)).symm (fun h84 h7 => Or.inl ⟨by rw [gm_85 (by omega) (by rw [hM 45 (by decide)] at h7; exact h7)]; exact Int32.not_le.mp (fun q => hcc ⟨h84, h7, q⟩), rfl⟩))
      exact loop2 0 (Nat.zero_le _) I2 R ⟨fun _ _ _ => rfl, fun s hs => absurd hs (by omega), fun _ _ _ => rfl, fun s hs => absurd hs (by omega), hR⟩
    · show AW X 0 0 24 [some (.ref 1), some (.int (nI k)), none] [] T I2 J R
      have h1n : ¬ n ≤ k := fun q9 => h1 ((nI_leI (a := n) (b := k) (by omega) (by omega)).mpr q9)
      refine aw_aload_n hC dX1_examine_24 rfl ?_
      refine aw_getR hC dX1_examine_25 aF_X1_11 rfl (tg_1 hT) (pr_1_0 hR) ?_
      refine aw_iload_n hC dX1_examine_28 rfl ?_
      refine aw_aaloadR_k (j := k) hC dX1_examine_29 (tg_2 hT) (nI_clamp (by omega)) (vp_in_nI (by omega) (by decide)) (hSt.rf (by omega)) ?_
      refine aw_astore_n (L2 := [some (.ref 1), some (.int (nI k)), some (.ref (sq k))]) hC dX1_examine_30 rfl (by decide) rfl ?_
      have hz84 : gm m n w 84 k = 0 ∨ gm m n w 84 k = 1 := by rw [gm_84 (by omega)]; exact bI_01 _
      have hkM : iN (gm m n w) 45 k = iN m 45 k := by unfold iN; rw [hM 45 (by decide)]
      have hfd9 := (hS.fd k (by omega)).2
      have hkd9 := (hS.kd k (by omega)).2
      have hSt3 : CSt T (a_u I2 (sq k) 8 (gm m n w 84 k)) R m n sq := hSt2.cg (by rw [a_u_row (by have := hSt.ge hT (show k < n by omega); omega)]) (fun s hs p hp => by rw [a_u_ne (fun q => by omega)])
      have join75 : AW X 0 0 75 [some (.ref 1), some (.int (nI k)), some (.ref (sq k))] [.int (gm m n w 84 k), .ref (sq k)] T I2 J R := by
        refine aw_putZ hC dX1_examine_75 aF_X1_69 rfl rfl (hSt.at (by omega)).1 (by first | assumption | exact bI_01 _) ?_
        refine aw_aload_n hC dX1_examine_78 rfl ?_
        refine aw_getI hC dX1_examine_79 aF_X1_69 rfl (hSt.at (by omega)).1 ?_
        rw [a_u_self (f := I2) (o := (sq k)) (k := 8) (v := gm m n w 84 k)]
        refine aw_if_eq (tgt := 99) hC dX1_examine_82 (by decide) (fun h5 => ?_) (fun h5 => ?_)
        · show AW X 0 0 99 [some (.ref 1), some (.int (nI k)), some (.ref (sq k))] [] T (a_u I2 (sq k) 8 (gm m n w 84 k)) J R
          refine aw_aload_n hC dX1_examine_99 rfl ?_
          refine aw_getI hC dX1_examine_100 aF_X1_69 rfl (hSt.at (by omega)).1 ?_
          rw [a_u_self (f := I2) (o := (sq k)) (k := 8) (v := gm m n w 84 k)]
          refine aw_if_eq (tgt := 130) hC dX1_examine_103 (by decide) (fun h6 => ?_) (fun h6 => ?_)
          · show AW X 0 0 130 [some (.ref 1), some (.int (nI k)), some (.ref (sq k))] [] T (a_u I2 (sq k) 8 (gm m n w 84 k)) J R
            refine aw_iinc (v := nI (k + 1)) (L2 := [some (.ref 1), some (.int (nI (k + 1))), some (.ref (sq k))]) hC dX1_examine_130 rfl (nI_inc _) (by decide) rfl ?_
            refine aw_goto (tgt := 16) hC dX1_examine_133 (by decide) ?_
            have hE2 := hE.step hT hSt (by omega) (c := (a_u I2 (sq k) 8 (gm m n w 84 k)) 1 8) (l := (a_u I2 (sq k) 8 (gm m n w 84 k)) 1 9) (by rw [a_u_row (by have := hSt.ge hT (show k < n by omega); omega), hE.2.2.2.1, told_n (by first | exact Or.inl (by assumption) | exact Or.inr (fun q => absurd ((hSM.kq (by omega) (b := 9) (by omega)).mp q) (by rw [hkM]; omega)))]) (fun i hi => by rw [a_u_row (by have := hSt.ge hT (show k < n by omega); omega), told_n (by first | exact Or.inl (by assumption) | exact Or.inr (fun q => absurd ((hSM.kq (by omega) (b := 8) (by omega)).mp q) (by rw [hkM]; omega)))]; exact hE.2.2.2.2 i hi)
            rw [a_u_id, a_u_id] at hE2
            refine aw_forget 2 (L2 := [some (.ref 1), some (.int (nI (k + 1))), none]) rfl ?_
            exact ih1 (by omega) _ hE2
          · show AW X 0 0 106 [some (.ref 1), some (.int (nI k)), some (.ref (sq k))] [] T (a_u I2 (sq k) 8 (gm m n w 84 k)) J R
            refine aw_aload_n hC dX1_examine_106 rfl ?_
            refine aw_getI hC dX1_examine_107 aF_X1_72 rfl (hSt.at (by omega)).1 ?_
            rw [a_u_ne (f := I2) (o := (sq k)) (k := 8) (a := (sq k)) (b := 2) (v := gm m n w 84 k) (fun q => absurd q.2 (by decide))]
            rw [(((hSt2.at (show k < n by omega)).2.2.2.1).trans (hS.kd k (by omega)).1)]
            refine aw_bipush (v := 8) hC dX1_examine_110 (by decide) ?_
            refine aw_icmp_ne (tgt := 130) hC dX1_examine_112 (by decide) (fun h7 => ?_) (fun h7 => ?_)
            · show AW X 0 0 130 [some (.ref 1), some (.int (nI k)), some (.ref (sq k))] [] T (a_u I2 (sq k) 8 (gm m n w 84 k)) J R
              have h7n : ¬ (iN m 45 k) = 8 := fun q9 => h7 ((nI_eq (a := (iN m 45 k)) (b := 8) (by omega) (by omega)).mpr q9)
              refine aw_iinc (v := nI (k + 1)) (L2 := [some (.ref 1), some (.int (nI (k + 1))), some (.ref (sq k))]) hC dX1_examine_130 rfl (nI_inc _) (by decide) rfl ?_
              refine aw_goto (tgt := 16) hC dX1_examine_133 (by decide) ?_
              have hE2 := hE.step hT hSt (by omega) (c := (a_u I2 (sq k) 8 (gm m n w 84 k)) 1 8) (l := (a_u I2 (sq k) 8 (gm m n w 84 k)) 1 9) (by rw [a_u_row (by have := hSt.ge hT (show k < n by omega); omega), hE.2.2.2.1, told_n (by first | exact Or.inl (by assumption) | exact Or.inr (fun q => absurd ((hSM.kq (by omega) (b := 9) (by omega)).mp q) (by rw [hkM]; omega)))]) (fun i hi => by rw [a_u_row (by have := hSt.ge hT (show k < n by omega); omega), told_n (by first | exact Or.inl (by assumption) | exact Or.inr (fun q => absurd ((hSM.kq (by omega) (b := 8) (by omega)).mp q) (by rw [hkM]; omega)))]; exact hE.2.2.2.2 i hi)
              rw [a_u_id, a_u_id] at hE2
              refine aw_forget 2 (L2 := [some (.ref 1), some (.int (nI (k + 1))), none]) rfl ?_
              exact ih1 (by omega) _ hE2
            · show AW X 0 0 115 [some (.ref 1), some (.int (nI k)), some (.ref (sq k))] [] T (a_u I2 (sq k) 8 (gm m n w 84 k)) J R
              have h7n : (iN m 45 k) = 8 := (nI_eq (a := (iN m 45 k)) (b := 8) (by omega) (by omega)).mp h7
              refine aw_aload_n hC dX1_examine_115 rfl ?_
              refine aw_dup hC dX1_examine_116 rfl ?_
              refine aw_getI hC dX1_examine_117 aF_X1_56 rfl (tg_1 hT) ?_
              rw [a_u_ne (f := I2) (o := (sq k)) (k := 8) (a := 1) (b := 9) (v := gm m n w 84 k) (fun q => absurd q.2 (by decide))]
              refine aw_iconst (v := 1) hC dX1_examine_120 (by decide) ?_
              refine aw_aload_n hC dX1_examine_121 rfl ?_
              refine aw_getI hC dX1_examine_122 aF_X1_75 rfl (hSt.at (by omega)).1 ?_
              rw [a_u_ne (f := I2) (o := (sq k)) (k := 8) (a := (sq k)) (b := 3) (v := gm m n w 84 k) (fun q => absurd q.2 (by decide))]
              rw [(((hSt2.at (show k < n by omega)).2.2.2.2.1).trans (hS.fd k (by omega)).1)]
              refine aw_ishl hC dX1_examine_125 ?_
              refine aw_ior hC dX1_examine_126 ?_
              refine aw_putI hC dX1_examine_127 aF_X1_56 rfl rfl (tg_1 hT) ?_
              refine aw_iinc (v := nI (k + 1)) (L2 := [some (.ref 1), some (.int (nI (k + 1))), some (.ref (sq k))]) hC dX1_examine_130 rfl (nI_inc _) (by decide) rfl ?_
              refine aw_goto (tgt := 16) hC dX1_examine_133 (by decide) ?_
              have hE2 := hE.step hT hSt (by omega) (c := (a_u I2 (sq k) 8 (gm m n w 84 k)) 1 8) (l := (I2 1 9) ||| (1 <<< ((nI (iN m 46 k)) &&& 31))) (by rw [a_u_row (by have := hSt.ge hT (show k < n by omega); omega), hE.2.2.2.1, told_n (by first | exact Or.inl (by assumption) | exact Or.inr (fun q => absurd ((hSM.kq (by omega) (b := 9) (by omega)).mp q) (by rw [hkM]; omega)))]) (fun i hi => by rw [told_8 (by assumption) ((hSM.kq (by omega) (b := 8) (by omega)).mpr (by rw [hkM]; omega)) hi, b_or, hE.2.2.2.2 i hi, hM 46 (by decide)]; congr 1; have e1 := bt_bit (f := iN m 46 k) (i := i) (by omega) (by omega); rw [show bt (1 <<< ((nI (iN m 46 k)) &&& 31)) i = _ from e1, (hS.fd k (by omega)).1]; exact decide_eq_decide.mpr ⟨fun q => by rw [q], fun q => ((nI_eq (by omega) (by omega)).mp q).symm⟩)
              rw [a_u_id] at hE2
              refine aw_forget 2 (L2 := [some (.ref 1), some (.int (nI (k + 1))), none]) rfl ?_
              exact ih1 (by omega) _ hE2
        · show AW X 0 0 85 [some (.ref 1), some (.int (nI k)), some (.ref (sq k))] [] T (a_u I2 (sq k) 8 (gm m n w 84 k)) J R
          refine aw_aload_n hC dX1_examine_85 rfl ?_
          refine aw_getI hC dX1_examine_86 aF_X1_72 rfl (hSt.at (by omega)).1 ?_
          rw [a_u_ne (f := I2) (o := (sq k)) (k := 8) (a := (sq k)) (b := 2) (v := gm m n w 84 k) (fun q => absurd q.2 (by decide))]
          rw [(((hSt2.at (show k < n by omega)).2.2.2.1).trans (hS.kd k (by omega)).1)]
          refine aw_bipush (v := 9) hC dX1_examine_89 (by decide) ?_
          refine aw_icmp_ne (tgt := 99) hC dX1_examine_91 (by decide) (fun h8 => ?_) (fun h8 => ?_)
          · show AW X 0 0 99 [some (.ref 1), some (.int (nI k)), some (.ref (sq k))] [] T (a_u I2 (sq k) 8 (gm m n w 84 k)) J R
            have h8n : ¬ (iN m 45 k) = 9 := fun q9 => h8 ((nI_eq (a := (iN m 45 k)) (b := 9) (by omega) (by omega)).mpr q9)
            refine aw_aload_n hC dX1_examine_99 rfl ?_
            refine aw_getI hC dX1_examine_100 aF_X1_69 rfl (hSt.at (by omega)).1 ?_
            rw [a_u_self (f := I2) (o := (sq k)) (k := 8) (v := gm m n w 84 k)]
            refine aw_if_eq (tgt := 130) hC dX1_examine_103 (by decide) (fun h9 => ?_) (fun h9 => ?_)
            · show AW X 0 0 130 [some (.ref 1), some (.int (nI k)), some (.ref (sq k))] [] T (a_u I2 (sq k) 8 (gm m n w 84 k)) J R
              refine aw_iinc (v := nI (k + 1)) (L2 := [some (.ref 1), some (.int (nI (k + 1))), some (.ref (sq k))]) hC dX1_examine_130 rfl (nI_inc _) (by decide) rfl ?_
              refine aw_goto (tgt := 16) hC dX1_examine_133 (by decide) ?_
              have hE2 := hE.step hT hSt (by omega) (c := (a_u I2 (sq k) 8 (gm m n w 84 k)) 1 8) (l := (a_u I2 (sq k) 8 (gm m n w 84 k)) 1 9) (by rw [a_u_row (by have := hSt.ge hT (show k < n by omega); omega), hE.2.2.2.1, told_n (by first | exact Or.inl (by assumption) | exact Or.inr (fun q => absurd ((hSM.kq (by omega) (b := 9) (by omega)).mp q) (by rw [hkM]; omega)))]) (fun i hi => by rw [a_u_row (by have := hSt.ge hT (show k < n by omega); omega), told_n (by first | exact Or.inl (by assumption) | exact Or.inr (fun q => absurd ((hSM.kq (by omega) (b := 8) (by omega)).mp q) (by rw [hkM]; omega)))]; exact hE.2.2.2.2 i hi)
              rw [a_u_id, a_u_id] at hE2
              refine aw_forget 2 (L2 := [some (.ref 1), some (.int (nI (k + 1))), none]) rfl ?_
              exact ih1 (by omega) _ hE2
            · show AW X 0 0 106 [some (.ref 1), some (.int (nI k)), some (.ref (sq k))] [] T (a_u I2 (sq k) 8 (gm m n w 84 k)) J R
              refine aw_aload_n hC dX1_examine_106 rfl ?_
              refine aw_getI hC dX1_examine_107 aF_X1_72 rfl (hSt.at (by omega)).1 ?_
              rw [a_u_ne (f := I2) (o := (sq k)) (k := 8) (a := (sq k)) (b := 2) (v := gm m n w 84 k) (fun q => absurd q.2 (by decide))]
              rw [(((hSt2.at (show k < n by omega)).2.2.2.1).trans (hS.kd k (by omega)).1)]
              refine aw_bipush (v := 8) hC dX1_examine_110 (by decide) ?_
              refine aw_icmp_ne (tgt := 130) hC dX1_examine_112 (by decide) (fun h10 => ?_) (fun h10 => ?_)
              · show AW X 0 0 130 [some (.ref 1), some (.int (nI k)), some (.ref (sq k))] [] T (a_u I2 (sq k) 8 (gm m n w 84 k)) J R
                have h10n : ¬ (iN m 45 k) = 8 := fun q9 => h10 ((nI_eq (a := (iN m 45 k)) (b := 8) (by omega) (by omega)).mpr q9)
                refine aw_iinc (v := nI (k + 1)) (L2 := [some (.ref 1), some (.int (nI (k + 1))), some (.ref (sq k))]) hC dX1_examine_130 rfl (nI_inc _) (by decide) rfl ?_
                refine aw_goto (tgt := 16) hC dX1_examine_133 (by decide) ?_
                have hE2 := hE.step hT hSt (by omega) (c := (a_u I2 (sq k) 8 (gm m n w 84 k)) 1 8) (l := (a_u I2 (sq k) 8 (gm m n w 84 k)) 1 9) (by rw [a_u_row (by have := hSt.ge hT (show k < n by omega); omega), hE.2.2.2.1, told_n (by first | exact Or.inl (by assumption) | exact Or.inr (fun q => absurd ((hSM.kq (by omega) (b := 9) (by omega)).mp q) (by rw [hkM]; omega)))]) (fun i hi => by rw [a_u_row (by have := hSt.ge hT (show k < n by omega); omega), told_n (by first | exact Or.inl (by assumption) | exact Or.inr (fun q => absurd ((hSM.kq (by omega) (b := 8) (by omega)).mp q) (by rw [hkM]; omega)))]; exact hE.2.2.2.2 i hi)
                rw [a_u_id, a_u_id] at hE2
                refine aw_forget 2 (L2 := [some (.ref 1), some (.int (nI (k + 1))), none]) rfl ?_
                exact ih1 (by omega) _ hE2
              · show AW X 0 0 115 [some (.ref 1), some (.int (nI k)), some (.ref (sq k))] [] T (a_u I2 (sq k) 8 (gm m n w 84 k)) J R
                have h10n : (iN m 45 k) = 8 := (nI_eq (a := (iN m 45 k)) (b := 8) (by omega) (by omega)).mp h10
                refine aw_aload_n hC dX1_examine_115 rfl ?_
                refine aw_dup hC dX1_examine_116 rfl ?_
                refine aw_getI hC dX1_examine_117 aF_X1_56 rfl (tg_1 hT) ?_
                rw [a_u_ne (f := I2) (o := (sq k)) (k := 8) (a := 1) (b := 9) (v := gm m n w 84 k) (fun q => absurd q.2 (by decide))]
                refine aw_iconst (v := 1) hC dX1_examine_120 (by decide) ?_
                refine aw_aload_n hC dX1_examine_121 rfl ?_
                refine aw_getI hC dX1_examine_122 aF_X1_75 rfl (hSt.at (by omega)).1 ?_
                rw [a_u_ne (f := I2) (o := (sq k)) (k := 8) (a := (sq k)) (b := 3) (v := gm m n w 84 k) (fun q => absurd q.2 (by decide))]
                rw [(((hSt2.at (show k < n by omega)).2.2.2.2.1).trans (hS.fd k (by omega)).1)]
                refine aw_ishl hC dX1_examine_125 ?_
                refine aw_ior hC dX1_examine_126 ?_
                refine aw_putI hC dX1_examine_127 aF_X1_56 rfl rfl (tg_1 hT) ?_
                refine aw_iinc (v := nI (k + 1)) (L2 := [some (.ref 1), some (.int (nI (k + 1))), some (.ref (sq k))]) hC dX1_examine_130 rfl (nI_inc _) (by decide) rfl ?_
                refine aw_goto (tgt := 16) hC dX1_examine_133 (by decide) ?_
                have hE2 := hE.step hT hSt (by omega) (c := (a_u I2 (sq k) 8 (gm m n w 84 k)) 1 8) (l := (I2 1 9) ||| (1 <<< ((nI (iN m 46 k)) &&& 31))) (by rw [a_u_row (by have := hSt.ge hT (show k < n by omega); omega), hE.2.2.2.1, told_n (by first | exact Or.inl (by assumption) | exact Or.inr (fun q => absurd ((hSM.kq (by omega) (b := 9) (by omega)).mp q) (by rw [hkM]; omega)))]) (fun i hi => by rw [told_8 (by assumption) ((hSM.kq (by omega) (b := 8) (by omega)).mpr (by rw [hkM]; omega)) hi, b_or, hE.2.2.2.2 i hi, hM 46 (by decide)]; congr 1; have e1 := bt_bit (f := iN m 46 k) (i := i) (by omega) (by omega); rw [show bt (1 <<< ((nI (iN m 46 k)) &&& 31)) i = _ from e1, (hS.fd k (by omega)).1]; exact decide_eq_decide.mpr ⟨fun q => by rw [q], fun q => ((nI_eq (by omega) (by omega)).mp q).symm⟩)
                rw [a_u_id] at hE2
                refine aw_forget 2 (L2 := [some (.ref 1), some (.int (nI (k + 1))), none]) rfl ?_
                exact ih1 (by omega) _ hE2
          · show AW X 0 0 94 [some (.ref 1), some (.int (nI k)), some (.ref (sq k))] [] T (a_u I2 (sq k) 8 (gm m n w 84 k)) J R
            have h8n : (iN m 45 k) = 9 := (nI_eq (a := (iN m 45 k)) (b := 9) (by omega) (by omega)).mp h8
            refine aw_aload_n hC dX1_examine_94 rfl ?_
            refine aw_iconst (v := 1) hC dX1_examine_95 (by decide) ?_
            refine aw_putZ hC dX1_examine_96 aF_X1_52 rfl rfl (tg_1 hT) (Or.inr rfl) ?_
            refine aw_aload_n hC dX1_examine_99 rfl ?_
            refine aw_getI hC dX1_examine_100 aF_X1_69 rfl (hSt.at (by omega)).1 ?_
            refine aw_if_eq (tgt := 130) hC dX1_examine_103 (by decide) (fun h11 => ?_) (fun h11 => ?_)
            · show AW X 0 0 130 [some (.ref 1), some (.int (nI k)), some (.ref (sq k))] [] T (a_u (a_u I2 (sq k) 8 (gm m n w 84 k)) 1 8 1) J R
              refine aw_iinc (v := nI (k + 1)) (L2 := [some (.ref 1), some (.int (nI (k + 1))), some (.ref (sq k))]) hC dX1_examine_130 rfl (nI_inc _) (by decide) rfl ?_
              refine aw_goto (tgt := 16) hC dX1_examine_133 (by decide) ?_
              have hE2 := hE.step hT hSt (by omega) (c := 1) (l := (a_u (a_u I2 (sq k) 8 (gm m n w 84 k)) 1 8 1) 1 9) (by rw [told_9 (by assumption) ((hSM.kq (by omega) (b := 9) (by omega)).mpr (by rw [hkM]; omega))]; rfl) (fun i hi => by rw [a_u_ne (by decide), a_u_row (by have := hSt.ge hT (show k < n by omega); omega), told_n (by first | exact Or.inl (by assumption) | exact Or.inr (fun q => absurd ((hSM.kq (by omega) (b := 8) (by omega)).mp q) (by rw [hkM]; omega)))]; exact hE.2.2.2.2 i hi)
              rw [a_u_id] at hE2
              refine aw_forget 2 (L2 := [some (.ref 1), some (.int (nI (k + 1))), none]) rfl ?_
              exact ih1 (by omega) _ hE2
            · show AW X 0 0 106 [some (.ref 1), some (.int (nI k)), some (.ref (sq k))] [] T (a_u (a_u I2 (sq k) 8 (gm m n w 84 k)) 1 8 1) J R
              refine aw_aload_n hC dX1_examine_106 rfl ?_
              refine aw_getI hC dX1_examine_107 aF_X1_72 rfl (hSt.at (by omega)).1 ?_
              rw [a_u_ne (f := a_u I2 (sq k) 8 (gm m n w 84 k)) (o := 1) (k := 8) (a := (sq k)) (b := 2) (v := 1) (fun q => absurd q.2 (by decide))]
              rw [a_u_ne (f := I2) (o := (sq k)) (k := 8) (a := (sq k)) (b := 2) (v := gm m n w 84 k) (fun q => absurd q.2 (by decide))]
              rw [(((hSt2.at (show k < n by omega)).2.2.2.1).trans (hS.kd k (by omega)).1)]
              refine aw_bipush (v := 8) hC dX1_examine_110 (by decide) ?_
              refine aw_icmp_ne (tgt := 130) hC dX1_examine_112 (by decide) (fun h12 => ?_) (fun h12 => ?_)
              · show AW X 0 0 130 [some (.ref 1), some (.int (nI k)), some (.ref (sq k))] [] T (a_u (a_u I2 (sq k) 8 (gm m n w 84 k)) 1 8 1) J R
                have h12n : ¬ (iN m 45 k) = 8 := fun q9 => h12 ((nI_eq (a := (iN m 45 k)) (b := 8) (by omega) (by omega)).mpr q9)
                refine aw_iinc (v := nI (k + 1)) (L2 := [some (.ref 1), some (.int (nI (k + 1))), some (.ref (sq k))]) hC dX1_examine_130 rfl (nI_inc _) (by decide) rfl ?_
                refine aw_goto (tgt := 16) hC dX1_examine_133 (by decide) ?_
                have hE2 := hE.step hT hSt (by omega) (c := 1) (l := (a_u (a_u I2 (sq k) 8 (gm m n w 84 k)) 1 8 1) 1 9) (by rw [told_9 (by assumption) ((hSM.kq (by omega) (b := 9) (by omega)).mpr (by rw [hkM]; omega))]; rfl) (fun i hi => by rw [a_u_ne (by decide), a_u_row (by have := hSt.ge hT (show k < n by omega); omega), told_n (by first | exact Or.inl (by assumption) | exact Or.inr (fun q => absurd ((hSM.kq (by omega) (b := 8) (by omega)).mp q) (by rw [hkM]; omega)))]; exact hE.2.2.2.2 i hi)
                rw [a_u_id] at hE2
                refine aw_forget 2 (L2 := [some (.ref 1), some (.int (nI (k + 1))), none]) rfl ?_
                exact ih1 (by omega) _ hE2
              · show AW X 0 0 115 [some (.ref 1), some (.int (nI k)), some (.ref (sq k))] [] T (a_u (a_u I2 (sq k) 8 (gm m n w 84 k)) 1 8 1) J R
                have h12n : (iN m 45 k) = 8 := (nI_eq (a := (iN m 45 k)) (b := 8) (by omega) (by omega)).mp h12
                refine aw_aload_n hC dX1_examine_115 rfl ?_
                refine aw_dup hC dX1_examine_116 rfl ?_
                refine aw_getI hC dX1_examine_117 aF_X1_56 rfl (tg_1 hT) ?_
                rw [a_u_ne (f := a_u I2 (sq k) 8 (gm m n w 84 k)) (o := 1) (k := 8) (a := 1) (b := 9) (v := 1) (fun q => absurd q.2 (by decide))]
                rw [a_u_ne (f := I2) (o := (sq k)) (k := 8) (a := 1) (b := 9) (v := gm m n w 84 k) (fun q => absurd q.2 (by decide))]
                refine aw_iconst (v := 1) hC dX1_examine_120 (by decide) ?_
                refine aw_aload_n hC dX1_examine_121 rfl ?_
                refine aw_getI hC dX1_examine_122 aF_X1_75 rfl (hSt.at (by omega)).1 ?_
                rw [a_u_ne (f := a_u I2 (sq k) 8 (gm m n w 84 k)) (o := 1) (k := 8) (a := (sq k)) (b := 3) (v := 1) (fun q => absurd q.2 (by decide))]
                rw [a_u_ne (f := I2) (o := (sq k)) (k := 8) (a := (sq k)) (b := 3) (v := gm m n w 84 k) (fun q => absurd q.2 (by decide))]
                rw [(((hSt2.at (show k < n by omega)).2.2.2.2.1).trans (hS.fd k (by omega)).1)]
                refine aw_ishl hC dX1_examine_125 ?_
                refine aw_ior hC dX1_examine_126 ?_
                refine aw_putI hC dX1_examine_127 aF_X1_56 rfl rfl (tg_1 hT) ?_
                refine aw_iinc (v := nI (k + 1)) (L2 := [some (.ref 1), some (.int (nI (k + 1))), some (.ref (sq k))]) hC dX1_examine_130 rfl (nI_inc _) (by decide) rfl ?_
                refine aw_goto (tgt := 16) hC dX1_examine_133 (by decide) ?_
                exfalso; omega
      refine aw_aload_n hC dX1_examine_31 rfl ?_
      refine aw_aload_n hC dX1_examine_32 rfl ?_
      refine aw_getI hC dX1_examine_33 aF_X1_59 rfl (hSt.at (by omega)).1 ?_
      rw [((hSt2.at (show k < n by omega)).2.1)]
      refine aw_iconst (v := (-1)) hC dX1_examine_36 (by decide) ?_
      refine aw_icmp_eq (tgt := 55) hC dX1_examine_37 (by decide) (fun h13 => ?_) (fun h13 => ?_)
      · show AW X 0 0 55 [some (.ref 1), some (.int (nI k)), some (.ref (sq k))] [.ref (sq k)] T I2 J R
        refine aw_aload_n hC dX1_examine_55 rfl ?_
        refine aw_getI hC dX1_examine_56 aF_X1_46 rfl (hSt.at (by omega)).1 ?_
        rw [(((hSt2.at (show k < n by omega)).2.2.2.2.2.2.2.1).trans (hS.vs k (by omega)).1)]
        refine aw_aload_n hC dX1_examine_59 rfl ?_
        refine aw_aload_n hC dX1_examine_60 rfl ?_
        refine aw_getI hC dX1_examine_61 aF_X1_43 rfl (hSt.at (by omega)).1 ?_
        rw [((hSt2.at (show k < n by omega)).2.2.1)]
        have hpk := hS.pk k (by omega) (by rw [show m 49 k = -1 from by assumption]; decide)
        rw [hpk.1]
        have hp3 := hpk.2
        refine kX1_65 hC rfl (m_X1_chosenVersion (I := I2) hT hR (p := (iN m 50 k)) (by omega)) dX1_examine_64 (tg_1 hT) rfl a_le a_le a_le a_le a_le rfl aPure_x (aPure_k ?_)
        show AW X 0 0 67 [some (.ref 1), some (.int (nI k)), some (.ref (sq k))] [.int (31 - nI (32 - bl (un (I2 7 (iN m 50 k))))), .int (nI (iN m 51 k)), .ref (sq k)] T I2 J R
        refine aw_icmp_ne (tgt := 74) hC dX1_examine_67 (by decide) (fun h14 => ?_) (fun h14 => ?_)
        · show AW X 0 0 74 [some (.ref 1), some (.int (nI k)), some (.ref (sq k))] [.ref (sq k)] T I2 J R
          refine aw_iconst (v := 0) hC dX1_examine_74 (by decide) ?_
          rw [show (0 : Int32) = gm m n w 84 k from ((thr_p hS (show k < n by omega) hlow (by assumption)).trans (bI_no (by rw [← hE.2.1]; assumption)).symm).symm]
          exact join75
        · show AW X 0 0 70 [some (.ref 1), some (.int (nI k)), some (.ref (sq k))] [.ref (sq k)] T I2 J R
          refine aw_iconst (v := 1) hC dX1_examine_70 (by decide) ?_
          refine aw_goto (tgt := 75) hC dX1_examine_71 (by decide) ?_
          rw [show (1 : Int32) = gm m n w 84 k from ((thr_p hS (show k < n by omega) hlow (by assumption)).trans (bI_yes (by rw [← hE.2.1]; assumption)).symm).symm]
          exact join75
      · show AW X 0 0 40 [some (.ref 1), some (.int (nI k)), some (.ref (sq k))] [.ref (sq k)] T I2 J R
        refine aw_aload_n hC dX1_examine_40 rfl ?_
        refine aw_getI hC dX1_examine_41 aF_X1_62 rfl (hSt.at (by omega)).1 ?_
        rw [((hSt2.at (show k < n by omega)).2.2.2.2.2.2.2.2)]
        refine aw_if_ne (tgt := 51) hC dX1_examine_44 (by decide) (fun h15 => ?_) (fun h15 => ?_)
        · show AW X 0 0 51 [some (.ref 1), some (.int (nI k)), some (.ref (sq k))] [.ref (sq k)] T I2 J R
          refine aw_iconst (v := 0) hC dX1_examine_51 (by decide) ?_
          refine aw_goto (tgt := 75) hC dX1_examine_52 (by decide) ?_
          rw [show (0 : Int32) = gm m n w 84 k from ((thr_f (w := w) (show k < n by omega) ((hS.fl k (by omega)).resolve_left (by assumption)).1).trans (bI_no (by assumption)).symm).symm]
          exact join75
        · show AW X 0 0 47 [some (.ref 1), some (.int (nI k)), some (.ref (sq k))] [.ref (sq k)] T I2 J R
          refine aw_iconst (v := 1) hC dX1_examine_47 (by decide) ?_
          refine aw_goto (tgt := 75) hC dX1_examine_48 (by decide) ?_
          rw [show (1 : Int32) = gm m n w 84 k from ((thr_f (w := w) (show k < n by omega) ((hS.fl k (by omega)).resolve_left (by assumption)).1).trans (bI_yes (by assumption)).symm).symm]
          exact join75
  refine loop1 0 (Nat.zero_le _) _ ⟨fun o p h7 h1 h8 => ?_, ?_, fun s hs => absurd hs (by omega), ?_, fun i hi => ?_⟩
  · rw [a_u_ne (fun q => h1 ⟨q.1, Or.inr q.2⟩), a_u_ne (fun q => h1 ⟨q.1, Or.inl q.2⟩), a_ur_ne h7]
  · rw [a_u_row (by decide), a_u_row (by decide), a_ur_self]
  · rw [a_u_ne (by decide), a_u_self]; rfl
  · rw [a_u_self, b_0]; rfl
