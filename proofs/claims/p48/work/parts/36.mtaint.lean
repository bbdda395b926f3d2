theorem bt_bit {f i : Nat} (hf : f < 32) (hi : i < 32) : bt (iBit (nI f)) i = decide (i = f) := by
  show (((1 : Int32) <<< (nI f &&& 31)).toBitVec).getLsbD i = _
  rw [nf_sh f hf, BitVec.getLsbD_twoPow]
  by_cases e : i = f
  · subst e; simp [hi]
  · simp [e, Ne.symm e]
theorem bt_one (i : Nat) : bt 1 i = decide (i = 0) := by
  by_cases c : i < 32
  · exact bt_bit (f := 0) (by omega) c
  · rw [b_big (by omega)]; simp; omega
/-- testing a bit -/
theorem bt_sshr {v : Int32} {f : Nat} (hf : f < 31) : ((v >>> (nI f &&& 31)) &&& 1 = 1) ↔ bt v f = true := by
  have e : ∀ i, i < 32 → bt ((v >>> (nI f &&& 31)) &&& 1) i = (decide (i = 0) && bt v f) := fun i hi => by
    rw [b_and, b_sshr f (by omega) v hi, bt_one]
    by_cases c : i = 0
    · subst c; rw [if_pos (by omega)]; simp
    · simp [c]
  cases h : bt v f with
  | true =>
    refine ⟨fun _ => rfl, fun _ => b_ext fun i hi => ?_⟩
    rw [e i hi, h, bt_one, Bool.and_true]
  | false =>
    refine ⟨fun q => ?_, fun q => absurd q (by decide)⟩
    have := e 0 (by omega)
    rw [q, h, bt_one] at this
    exact absurd this (by decide)
def tBoth (I : aI) (s : Nat) : Int32 := iBit (nI (iN I 46 s)) ||| (if isPr I s then iBit (nI (iN I 47 s)) else 0)
theorem bt_both {I : aI} {s i : Nat} (h1 : iN I 46 s < 10) (h2 : isPr I s → iN I 47 s < 10) (hi : i < 32) : bt (tBoth I s) i = (decide (i = iN I 46 s) || (decide (isPr I s) && decide (i = iN I 47 s))) := by
  unfold tBoth
  rw [b_or, bt_bit (by omega) hi]
  by_cases p : isPr I s
  · rw [if_pos p, bt_bit (by have := h2 p; omega) hi]; simp [p]
  · rw [if_neg p, b_0]; simp [p]
theorem both_hit {I : aI} {s : Nat} {v : Int32} (h1 : iN I 46 s < 10) (h2 : isPr I s → iN I 47 s < 10) : (v &&& tBoth I s ≠ 0) ↔ (bt v (iN I 46 s) = true ∨ (isPr I s ∧ bt v (iN I 47 s) = true)) := by
  constructor
  · intro q
    apply Classical.byContradiction; intro g
    apply q
    refine b_ext fun i hi => ?_
    rw [b_and, bt_both h1 h2 hi, b_0]
    by_cases e : i = iN I 46 s
    · have : bt v i = false := by
        cases c : bt v i with
        | false => rfl
        | true => exact absurd (Or.inl (by rw [← e]; exact c)) g
      rw [this, Bool.false_and]
    · by_cases e2 : isPr I s ∧ i = iN I 47 s
      · have : bt v i = false := by
          cases c : bt v i with
          | false => rfl
          | true => exact absurd (Or.inr ⟨e2.1, by rw [← e2.2]; exact c⟩) g
        rw [this, Bool.false_and]
      · have : (decide (isPr I s) && decide (i = iN I 47 s)) = false := by
          rw [← Bool.decide_and]; exact decide_eq_false e2
        rw [this]; simp [e]
  · intro q g
    have e : ∀ i, i < 32 → (bt v i && bt (tBoth I s) i) = false := fun i hi => by rw [← b_and, g, b_0]
    rcases q with q | ⟨q1, q2⟩
    · have := e (iN I 46 s) (by omega)
      rw [q, bt_both h1 h2 (by omega)] at this; simp at this
    · have := e (iN I 47 s) (by have := h2 q1; omega)
      rw [q2, bt_both h1 h2 (by have := h2 q1; omega)] at this; simp [q1] at this
abbrev gfld (I : aI) (s : Nat) : Nat := (I 46 (I 85 s).toNatClampNeg).toNatClampNeg
/-- a statement taints its fields -/
def tnW (I : aI) (J : aJ) (s : Nat) (W : Nat → Prop) : Prop := (0 ≤ I 85 s ∧ W (gfld I s)) ∨ (isPr I s ∧ (W (iN I 46 s) ∨ W (iN I 47 s)) ∧ mOpen I J s)
abbrev tnS (I : aI) (J : aJ) (s : Nat) (W : Nat → Prop) : Prop := I 84 s ≠ 0 → (I 45 s = 11 → W (iN I 46 s)) ∧ (I 45 s < 7 → I 86 s = 0 → tnW I J s W → W (iN I 46 s) ∧ (isPr I s → W (iN I 47 s)))
def TnC (I : aI) (J : aJ) (n : Nat) (W : Nat → Prop) : Prop := ∀ s, s < n → tnS I J s W
/-- the least closed set of fields, as bits -/
def TnL (I : aI) (J : aJ) (n : Nat) (v : Int32) : Prop := (∀ j, 10 ≤ j → bt v j = false) ∧ TnC I J n (fun j => bt v j = true) ∧ ∀ W : Nat → Prop, TnC I J n W → ∀ j, bt v j = true → W j
theorem TnL_uniq {I : aI} {J : aJ} {n : Nat} {v w : Int32} (h : TnL I J n v) (g : TnL I J n w) : v = w := b_ext fun i _ => by
  cases e : bt v i with
  | true => exact (h.2.2 _ g.2.1 i e).symm
  | false => cases e2 : bt w i with
    | false => rfl
    | true => rw [g.2.2 _ h.2.1 i e2] at e; cases e
def cB (p : Nat → Bool) : Nat → Nat
  | 0 => 0
  | k + 1 => cB p k + if p k then 0 else 1
theorem cB_le (p : Nat → Bool) : ∀ k, cB p k ≤ k
  | 0 => Nat.le_refl _
  | k + 1 => by have := cB_le p k; simp only [cB]; split <;> omega
theorem cB_mono {p q : Nat → Bool} (h : ∀ j, p j = true → q j = true) : ∀ k, cB q k ≤ cB p k
  | 0 => Nat.le_refl _
  | k + 1 => by
    have := cB_mono h k; simp only [cB]
    by_cases e : p k = true
    · rw [if_pos e, if_pos (h k e)]; omega
    · rw [if_neg e]; split <;> omega
theorem cB_lt {p q : Nat → Bool} (h : ∀ j, p j = true → q j = true) {i : Nat} (h1 : p i = false) (h2 : q i = true) : ∀ k, i < k → cB q k < cB p k
  | 0, hi => absurd hi (by omega)
  | k + 1, hi => by
    simp only [cB]
    by_cases e : i = k
    · subst e; have := cB_mono h i; rw [h1, h2]; simp; omega
    · have := cB_lt h h1 h2 k (by omega)
      by_cases f : p k = true
      · rw [if_pos f, if_pos (h k f)]; omega
      · rw [if_neg f]; split <;> omega
/-- on the way: w came of v by statements below k -/
def TnI (I : aI) (J : aJ) (n k : Nat) (v w : Int32) : Prop := (∀ j, 10 ≤ j → bt w j = false) ∧ (∀ W : Nat → Prop, TnC I J n W → ∀ j, bt w j = true → W j) ∧ (∀ j, bt v j = true → bt w j = true) ∧ (w = v → ∀ s, s < k → tnS I J s (fun j => bt v j = true))
theorem TnI.start {I : aI} {J : aJ} {n : Nat} {v : Int32} (h1 : ∀ j, 10 ≤ j → bt v j = false) (h2 : ∀ W : Nat → Prop, TnC I J n W → ∀ j, bt v j = true → W j) : TnI I J n 0 v v := ⟨h1, h2, fun _ h => h, fun _ s hs => absurd hs (by omega)⟩
theorem TnI.lt {I : aI} {J : aJ} {n k : Nat} {v w : Int32} (h : TnI I J n k v w) (hne : v ≠ w) : cB (bt w) 10 < cB (bt v) 10 := by
  have : ∃ i, i < 10 ∧ bt v i = false ∧ bt w i = true := by
    apply Classical.byContradiction; intro q
    apply hne; refine b_ext fun i hi => ?_
    cases e : bt v i with
    | true => exact (h.2.2.1 i e).symm
    | false => cases e2 : bt w i with
      | false => rfl
      | true =>
        by_cases c : i < 10
        · exact absurd ⟨i, c, e, e2⟩ q
        · rw [h.1 i (by omega)] at e2; cases e2
  obtain ⟨i, h1, h2, h3⟩ := this
  exact cB_lt h.2.2.1 h2 h3 10 h1
theorem TnI.fin {I : aI} {J : aJ} {n : Nat} {v w : Int32} (h : TnI I J n n v w) (e : w = v) : TnL I J n w := ⟨h.1, by rw [e]; exact fun s hs => h.2.2.2 e s hs, h.2.1⟩
/-- a step that adds bits: they are owed, and where nothing is new the statement is content -/
theorem TnI.step {I : aI} {J : aJ} {n k : Nat} {v w u : Int32} (h : TnI I J n k v w) (hu : ∀ j, 10 ≤ j → bt u j = false) (ho : ∀ W : Nat → Prop, TnC I J n W → ∀ j, bt u j = true → W j) (hc : (w ||| u) = v → tnS I J k (fun j => bt v j = true)) : TnI I J n (k + 1) v (w ||| u) := by
  refine ⟨fun j hj => by rw [b_or, h.1 j hj, hu j hj]; rfl, fun W hW j hj => ?_, fun j hj => by rw [b_or, h.2.2.1 j hj]; rfl, fun e s hs => ?_⟩
  · rw [b_or, Bool.or_eq_true] at hj
    exact hj.elim (h.2.1 W hW j) (ho W hW j)
  · by_cases c : s = k
    · subst c; exact hc e
    · refine h.2.2.2 ?_ s (by omega)
      refine b_ext fun i hi => ?_
      cases e2 : bt w i with
      | true => have := congrArg (fun x => bt x i) e; simp only [b_or, e2, Bool.true_or] at this; exact this
      | false => cases e3 : bt v i with
        | false => rfl
        | true => rw [h.2.2.1 i e3] at e2; cases e2
theorem tnW_bt {I : aI} {J : aJ} {s : Nat} {v : Int32} : tnW I J s (fun j => bt v j = true) ↔ ((0 ≤ I 85 s ∧ bt v (gfld I s) = true) ∨ (isPr I s ∧ (bt v (iN I 46 s) = true ∨ bt v (iN I 47 s) = true) ∧ mOpen I J s)) := Iff.rfl
noncomputable def tnV (I : aI) (J : aJ) (s : Nat) (v : Int32) : Int32 := @ite _ (tnW I J s (fun j => bt v j = true)) (Classical.propDecidable _) (tBoth I s) 0
theorem tnV_y {I : aI} {J : aJ} {s : Nat} {v : Int32} (h : tnW I J s (fun j => bt v j = true)) : tBoth I s = tnV I J s v := by unfold tnV; rw [if_pos h]
theorem tnV_n {I : aI} {J : aJ} {s : Nat} {v : Int32} (h : ¬ tnW I J s (fun j => bt v j = true)) : 0 = tnV I J s v := by unfold tnV; rw [if_neg h]
theorem tB_p {I : aI} {s : Nat} (h : isPr I s) : iBit (nI (iN I 46 s)) ||| iBit (nI (iN I 47 s)) = tBoth I s := by unfold tBoth; rw [if_pos h]
theorem tB_n {I : aI} {s : Nat} (h : ¬ isPr I s) : iBit (nI (iN I 46 s)) ||| 0 = tBoth I s := by unfold tBoth; rw [if_neg h]
theorem vp_eq {x : Int32} {n : Nat} (h : vp_in x n) (hn : n < 2147483648) : x = nI x.toNatClampNeg ∧ x.toNatClampNeg < n := by
  obtain ⟨m, m1, m2⟩ := vp_in_of h hn
  rw [m2, nI_clamp (by omega)]; exact ⟨rfl, m1⟩
theorem isPr_n {I : aI} {n s : Nat} (hS : SW I n) (hs : s < n) (h : isPr I s) : iN I 45 s = 5 ∨ iN I 45 s = 6 := h.imp (fun q => by rw [iN, q]; rfl) (fun q => by rw [iN, q]; rfl)
theorem TnI.skip {I : aI} {J : aJ} {n k : Nat} {v w : Int32} (h : TnI I J n k v w) (hc : tnS I J k (fun j => bt v j = true)) : TnI I J n (k + 1) v w := by
  have q := TnI.step (u := 0) h (fun j _ => b_0 j) (fun _ _ j hj => by rw [b_0] at hj; cases hj) (fun _ => hc)
  rwa [Int32.or_zero] at q
theorem SW.k7 {I : aI} {n s : Nat} (hS : SW I n) (hs : s < n) : I 45 s < 7 ↔ iN I 45 s < 7 := by
  have h := hS.kd s hs; rw [h.1]; exact nI_ltI (a := iN I 45 s) (b := 7) (by omega) (by omega)
theorem SW.kq {I : aI} {n s : Nat} (hS : SW I n) (hs : s < n) {b : Nat} (hb : b < 13) : I 45 s = nI b ↔ iN I 45 s = b := by
  have h := hS.kd s hs; rw [h.1]; exact nI_eq (by omega) (by omega)
theorem tn_b {I : aI} {J : aJ} {n s : Nat} {W : Nat → Prop} (hS : SW I n) (hs : s < n) (h11 : ¬ iN I 45 s = 11) (h : 7 ≤ iN I 45 s ∨ ¬ I 86 s = 0) : tnS I J s W := fun _ =>
  ⟨fun q => absurd ((hS.kq hs (b := 11) (by omega)).mp q) h11, fun q1 q2 => by rcases h with h | h; exact absurd ((hS.k7 hs).mp q1) (by omega); exact absurd q2 h⟩
theorem tn_11 {I : aI} {J : aJ} {n k : Nat} {v w : Int32} (hS : SW I n) (hk : k < n) (h : TnI I J n k v w) (h0 : ¬ I 84 k = 0) (h11 : iN I 45 k = 11) : TnI I J n (k + 1) v (w ||| iBit (nI (iN I 46 k))) := by
  have hf := (hS.fd k hk).2
  have e11 := (hS.kq hk (b := 11) (by omega)).mpr h11
  refine TnI.step h (fun j hj => ?_) (fun W hW j hj => ?_) (fun e _ => ⟨fun _ => ?_, fun q => absurd ((hS.k7 hk).mp q) (by omega)⟩)
  · by_cases c : j < 32
    · rw [bt_bit (by omega) c]; simp; omega
    · exact b_big (by omega)
  · have c : j < 32 := Nat.lt_of_not_le (fun c => by rw [b_big c] at hj; cases hj)
    rw [bt_bit (by omega) c] at hj
    have : j = iN I 46 k := by simpa using hj
    rw [this]; exact (hW k hk h0).1 e11
  · show bt v (iN I 46 k) = true
    rw [← e, b_or, bt_bit (by omega) (by omega)]; simp
theorem tn_7 {I : aI} {J : aJ} {n k : Nat} {v w : Int32} (hS : SW I n) (hk : k < n) (h : TnI I J n k v w) (h0 : ¬ I 84 k = 0) (h7 : iN I 45 k < 7) (h86 : I 86 k = 0) : TnI I J n (k + 1) v (w ||| tnV I J k w) := by
  have hf := (hS.fd k hk).2
  have hp : isPr I k → iN I 47 k < 10 := fun q => hS.k56 k hk (isPr_n hS hk q)
  have l7 := (hS.k7 hk).mpr h7
  refine TnI.step h (fun j hj => ?_) (fun W hW j hj => ?_) (fun e _ => ⟨fun q => absurd ((hS.kq hk (b := 11) (by omega)).mp q) (by omega), fun _ _ ht => ?_⟩)
  · unfold tnV; split
    · by_cases c : j < 32
      · rw [bt_both hf hp c]
        by_cases p : isPr I k
        · have := hp p; simp; exact ⟨by omega, fun _ => by omega⟩
        · simp [p]; omega
      · exact b_big (by omega)
    · exact b_0 j
  · have c : j < 32 := Nat.lt_of_not_le (fun c => by rw [b_big c] at hj; cases hj)
    unfold tnV at hj; split at hj
    · next ht =>
      have hW2 := (hW k hk h0).2 l7 h86 (ht.imp (fun q => ⟨q.1, h.2.1 W hW _ q.2⟩) (fun q => ⟨q.1, q.2.1.imp (h.2.1 W hW _) (h.2.1 W hW _), q.2.2⟩))
      rw [bt_both hf hp c] at hj
      rcases Bool.or_eq_true _ _ |>.mp hj with q | q
      · have : j = iN I 46 k := by simpa using q
        rw [this]; exact hW2.1
      · have : isPr I k ∧ j = iN I 47 k := by simpa using q
        rw [this.2]; exact hW2.2 this.1
    · rw [b_0] at hj; cases hj
  · have ew : w = v := b_ext fun i _ => by
      cases e2 : bt w i with
      | true => have := congrArg (fun x => bt x i) e; simp only [b_or, e2, Bool.true_or] at this; exact this
      | false => cases e3 : bt v i with
        | false => rfl
        | true => rw [h.2.2.1 i e3] at e2; cases e2
    have ev : tnV I J k w = tBoth I k := by rw [ew]; exact (tnV_y ht).symm
    rw [ev] at e
    refine ⟨?_, fun p => ?_⟩
    · show bt v (iN I 46 k) = true
      rw [← e, b_or, bt_both hf hp (by omega)]; simp
    · show bt v (iN I 47 k) = true
      rw [← e, b_or, bt_both hf hp (by have := hp p; omega)]; simp [p]
noncomputable def tnt (I : aI) (J : aJ) (n : Nat) : Int32 := @Classical.epsilon Int32 ⟨0⟩ (TnL I J n)
theorem tnt_eq {I : aI} {J : aJ} {n : Nat} {v : Int32} (h : TnL I J n v) : v = tnt I J n := TnL_uniq h (@Classical.epsilon_spec Int32 (TnL I J n) ⟨v, h⟩)
theorem SolP.sw {I I2 : aI} {J J2 : aJ} {n : Nat} (h : SolP I I2 J J2 n) (g : SW I n) : SW I2 n :=
  SW_cg (h.f44 (by decide) (by decide)) (h.fr 45 (by decide)) (h.fr 46 (by decide)) (h.fr 47 (by decide)) (h.fr 48 (by decide)) (h.fr 49 (by decide)) (h.fr 50 (by decide)) (h.fr 51 (by decide)) (h.fr 53 (by decide)) g
