theorem bt_bit {f i : Nat} (hf : f < 32) (hi : i < 32) : bt (iBit (nI f)) i = decide (i = f) := by
  show (((1 : Int32) <<< (nI f &&& 31)).toBitVec).getLsbD i = _
  rw [nf_sh f hf, BitVec.getLsbD_twoPow]
  by_cases e : i = f
  · subst e; simp [hi]
  · simp [e, Ne.symm e]
theorem bt_one (i : Nat) : bt 1 i = decide (i = 0) := by
  by_cases c : i < 32
  · exact bt_bit (f := 0) (by omega) c
  · rw [b_big (by omega)]; simp; omega
/-- testing a bit -/
theorem bt_sshr {v : Int32} {f : Nat} (hf : f < 31) : ((v >>> (nI f &&& 31)) &&& 1 = 1) ↔ bt v f = true := by
  have e : ∀ i, i < 32 → bt ((v >>> (nI f &&& 31)) &&& 1) i = (decide (i = 0) && bt v f) := fun i hi => by
    rw [b_and, b_sshr f (by omega) v hi, bt_one]
    by_cases c : i = 0
    · subst c; rw [if_pos (by omega)]; simp
    · simp [c]
  cases h : bt v f with
  | true =>
    refine ⟨fun _ => rfl, fun _ => b_ext fun i hi => ?_⟩
    rw [e i hi, h, bt_one, Bool.and_true]
  | false =>
    refine ⟨fun q => ?_, fun q => absurd q (by decide)⟩
    have := e 0 (by omega)
    rw [q, h, bt_one] at this
    exact absurd this (by decide)
def tBoth (I : aI) (s : Nat) : Int32 := iBit (nI (iN I 46 s)) ||| (if isPr I s then iBit (nI (iN I 47 s)) else 0)
theorem bt_both {I : aI} {s i : Nat} (h1 : iN I 46 s < 10) (h2 : isPr I s → iN I 47 s < 10) (hi : i < 32) : bt (tBoth I s) i = (decide (i = iN I 46 s) || (decide (isPr I s) && decide (i = iN I 47 s))) := by
  unfold tBoth
  rw [b_or, bt_bit (by omega) hi]
  by_cases p : isPr I s
  · rw [if_pos p, bt_bit (by have := h2 p; omega) hi]; simp [p]
  · rw [if_neg p, b_0]; simp [p]
theorem both_hit {I : aI} {s : Nat} {v : Int32} (h1 : iN I 46 s < 10) (h2 : isPr I s → iN I 47 s < 10) : (v &&& tBoth I s ≠ 0) ↔ (bt v (iN I 46 s) = true ∨ (isPr I s ∧ bt v (iN I 47 s) = true)) := by
  constructor
  · intro q
    apply Classical.byContradiction; intro g
    apply q
    refine b_ext fun i hi => ?_
    rw [b_and, bt_both h1 h2 hi, b_0]
    by_cases e : i = iN I 46 s
    · have : bt v i = false := by
        cases c : bt v i with
        | false => rfl
        | true => exact absurd (Or.inl (by rw [← e]; exact c)) g
      rw [this, Bool.false_and]
    · by_cases e2 : isPr I s ∧ i = iN I 47 s
      · have : bt v i = false := by
          cases c : bt v i with
          | false => rfl
          | true => exact absurd (Or.inr ⟨e2.1, by rw [← e2.2]; exact c⟩) g
        rw [this, Bool.false_and]
      · have : (decide (isPr I s) && decide (i = iN I 47 s)) = false := by
          rw [← Bool.decide_and]; exact decide_eq_false e2
        rw [this]; simp [e]
  · intro q g
    have e : ∀ i, i < 32 → (bt v i && bt (tBoth I s) i) = false := fun i hi => by rw [← b_and, g, b_0]
    rcases q with q | ⟨q1, q2⟩
    · have := e (iN I 46 s) (by omega)
      rw [q, bt_both h1 h2 (by omega)] at this; simp at this
    · have := e (iN I 47 s) (by have := h2 q1; omega)
      rw [q2, bt_both h1 h2 (by have := h2 q1; omega)] at this; simp [q1] at this
abbrev gfld (I : aI) (s : Nat) : Nat := (I 46 (I 85 s).toNatClampNeg).toNatClampNeg
/-- a statement taints its fields -/
def tnW (I : aI) (J : aJ) (s : Nat) (W : Nat → Prop) : Prop := (0 ≤ I 85 s ∧ W (gfld I s)) ∨ (isPr I s ∧ (W (iN I 46 s) ∨ W (iN I 47 s)) ∧ mOpen I J s)
abbrev tnS (I : aI) (J : aJ) (s : Nat) (W : Nat → Prop) : Prop := I 84 s ≠ 0 → (I 45 s = 11 → W (iN I 46 s)) ∧ (I 45 s < 7 → I 86 s = 0 → tnW I J s W → W (iN I 46 s) ∧ (isPr I s → W (iN I 47 s)))
def TnC (I : aI) (J : aJ) (n : Nat) (W : Nat → Prop) : Prop := ∀ s, s < n → tnS I J s W
/-- the least closed set of fields, as bits -/
def TnL (I : aI) (J : aJ) (n : Nat) (v : Int32) : Prop := (∀ j, 10 ≤ j → bt v j = false) ∧ TnC I J n (fun j => bt v j = true) ∧ ∀ W : Nat → Prop, TnC I J n W → ∀ j, bt v j = true → W j
theorem TnL_uniq {I : aI} {J : aJ} {n : Nat} {v w : Int32} (h : TnL I J n v) (g : TnL I J n w) : v = w := b_ext fun i _ => by
  cases e : bt v i with
  | true => exact (h.2.2 _ g.2.1 i e).symm
  | false => cases e2 : bt w i with
    | false => rfl
    | true => rw [g.2.2 _ h.2.1 i e2] at e; cases e
def cB (p : Nat → Bool) : Nat → Nat
  | 0 => 0
  | k + 1 => cB p k + if p k then 0 else 1
theorem cB_le (p : Nat → Bool) : ∀ k, cB p k ≤ k
  | 0 => Nat.le_refl _
  | k + 1 => by have := cB_le p k; simp only [cB]; split <;> omega
theorem cB_mono {p q : Nat → Bool} (h : ∀ j, p j = true → q j = true) : ∀ k, cB q k ≤ cB p k
  | 0 => Nat.le_refl _
  | k + 1 => by
    have := cB_mono h k; simp only [cB]
    by_cases e : p k = true
    · rw [if_pos e, if_pos (h k e)]; omega
    · rw [if_neg e]; split <;> omega
theorem cB_lt {p q : Nat → Bool} (h : ∀ j, p j = true → q j = true) {i : Nat} (h1 : p i = false) (h2 : q i = true) : ∀ k, i < k → cB q k < cB p k
  | 0, hi => absurd hi (by omega)
  | k + 1, hi => by
    simp only [cB]
    by_cases e : i = k
    · subst e; have := cB_mono h i; rw [h1, h2]; simp; omega
    · have := cB_lt h h1 h2 k (by omega)
      by_cases f : p k = true
      · rw [if_pos f, if_pos (h k f)]; omega
      · rw [if_neg f]; split <;> omega
/-- on the way: w came of v by statements below k -/
def TnI (I : aI) (J : aJ) (n k : Nat) (v w : Int32) : Prop := (∀ j, 10 ≤ j → bt w j = false) ∧ (∀ W : Nat → Prop, TnC I J n W → ∀ j, bt w j = true → W j) ∧ (∀ j, bt v j = true → bt w j = true) ∧ (w = v → ∀ s, s < k → tnS I J s (fun j => bt v j = true))
theorem TnI.start {I : aI} {J : aJ} {n : Nat} {v : Int32} (h1 : ∀ j, 10 ≤ j → bt v j = false) (h2 : ∀ W : Nat → Prop, TnC I J n W → ∀ j, bt v j = true → W j) : TnI I J n 0 v v := ⟨h1, h2, fun _ h => h, fun _ s hs => absurd hs (by omega)⟩
theorem TnI.lt {I : aI} {J : aJ} {n k : Nat} {v w : Int32} (h : TnI I J n k v w) (hne : v ≠ w) : cB (bt w) 10 < cB (bt v) 10 := by
  have : ∃ i, i < 10 ∧ bt v i = false ∧ bt w i = true := by
    apply Classical.byContradiction; intro q
    apply hne; refine b_ext fun i hi => ?_
    cases e : bt v i with
    | true => exact (h.2.2.1 i e).symm
    | false => cases e2 : bt w i with
      | false => rfl
      | true =>
        by_cases c : i < 10
        · exact absurd ⟨i, c, e, e2⟩ q
        · rw [h.1 i (by omega)] at e2; cases e2
  obtain ⟨i, h1, h2, h3⟩ := this
  exact cB_lt h.2.2.1 h2 h3 10 h1
theorem TnI.fin {I : aI} {J : aJ} {n : Nat} {v w : Int32} (h : TnI I J n n v w) (e : w = v) : TnL I J n w := ⟨h.1, by rw [e]; exact fun s hs => h.2.2.2 e s hs, h.2.1⟩
/-- a step that adds bits: they are owed, and where nothing is new the statement is content -/
theorem TnI.step {I : aI} {J : aJ} {n k : Nat} {v w u : Int32} (h : TnI I J n k v w) (hu : ∀ j, 10 ≤ j → bt u j = false) (ho : ∀ W : Nat → Prop, TnC I J n W → ∀ j, bt u j = true → W j) (hc : (w ||| u) = v → tnS I J k (fun j => bt v j = true)) : TnI I J n (k + 1) v (w ||| u) := by
  refine ⟨fun j hj => by rw [b_or, h.1 j hj, hu j hj]; rfl, fun W hW j hj => ?_, fun j hj => by rw [b_or, h.2.2.1 j hj]; rfl, fun e s hs => ?_⟩
  · rw [b_or, Bool.or_eq_true] at hj
    exact hj.elim (h.2.1 W hW j) (ho W hW j)
  · by_cases c : s = k
    · subst c; exact hc e
    · refine h.2.2.2 ?_ s (by omega)
      refine b_ext fun i hi => ?_
      cases e2 : bt w i with
      | true => have := congrArg (fun x => bt x i) e; simp only [b_or, e2, Bool.true_or] at this; exact this
      | false => cases e3 : bt v i with
        | false => rfl
        | true => rw [h.2.2.1 i e3] at e2; cases e2
theorem tnW_bt {I : aI} {J : aJ} {s : Nat} {v : Int32} : tnW I J s (fun j => bt v j = true) ↔ ((0 ≤ I 85 s ∧ bt v (gfld I s) = true) ∨ (isPr I s ∧ (bt v (iN I 46 s) = true ∨ bt v (iN I 47 s) = true) ∧ mOpen I J s)) := Iff.rfl
noncomputable def tnV (I : aI) (J : aJ) (s : Nat) (v : Int32) : Int32 := @ite _ (tnW I J s (fun j => bt v j = true)) (Classical.propDecidable _) (tBoth I s) 0
theorem tnV_y {I : aI} {J : aJ} {s : Nat} {v : Int32} (h : tnW I J s (fun j => bt v j = true)) : tBoth I s = tnV I J s v := by unfold tnV; rw [if_pos h]
theorem tnV_n {I : aI} {J : aJ} {s : Nat} {v : Int32} (h : ¬ tnW I J s (fun j => bt v j = true)) : 0 = tnV I J s v := by unfold tnV; rw [if_neg h]
theorem tB_p {I : aI} {s : Nat} (h : isPr I s) : iBit (nI (iN I 46 s)) ||| iBit (nI (iN I 47 s)) = tBoth I s := by unfold tBoth; rw [if_pos h]
theorem tB_n {I : aI} {s : Nat} (h : ¬ isPr I s) : iBit (nI (iN I 46 s)) ||| 0 = tBoth I s := by unfold tBoth; rw [if_neg h]
theorem vp_eq {x : Int32} {n : Nat} (h : vp_in x n) (hn : n < 2147483648) : x = nI x.toNatClampNeg ∧ x.toNatClampNeg < n := by
  obtain ⟨m, m1, m2⟩ := vp_in_of h hn
  rw [m2, nI_clamp (by omega)]; exact ⟨rfl, m1⟩
theorem isPr_n {I : aI} {n s : Nat} (hS : SW I n) (hs : s < n) (h : isPr I s) : iN I 45 s = 5 ∨ iN I 45 s = 6 := h.imp (fun q => by rw [iN, q]; rfl) (fun q => by rw [iN, q]; rfl)
set_option maxRecDepth 100000 in
theorem m_X12_taintsBy {T : List aT} {I : aI} {J : aJ} {R : aR} (hT : aPT T) (hR : aPR R) {n s : Nat} (hS : SW I n) (hs : s < n) (hg : GOK I n) (v : Int32) : MX12_taintsBy 0 0 [.ref 44, .int (nI s), .int v] T I J R (aPure (some (.int (tnV I J s v))) T I J R) := by
  refine a_met (by decide +kernel) a_le (fun X hC hq => ?_)
  show AW X 0 0 0 [some (.ref 44), some (.int (nI s)), some (.int v), none, none, none] [] T I J R
  have hn9 := hS.n30
  refine aw_iconst (v := 1) hC dX12_taintsBy_0 (by decide) ?_
  refine aw_aload_n hC dX12_taintsBy_1 rfl ?_
  refine aw_getR hC dX12_taintsBy_2 aF_X12_13 rfl (tg_44 hT) (pr_44_2 hR) ?_
  refine aw_iload_n hC dX12_taintsBy_5 rfl ?_
  refine aw_iaload_k (j := s) hC dX12_taintsBy_6 (tg_46 hT) (nI_clamp (by omega)) (vp_in_nI (by omega) (by decide)) ?_
  have hb1 := hS.fd s (by omega)
  rw [hb1.1]
  refine aw_ishl hC dX12_taintsBy_7 ?_
  refine aw_aload_n hC dX12_taintsBy_8 rfl ?_
  refine aw_getR hC dX12_taintsBy_9 aF_X12_7 rfl (tg_44 hT) (pr_44_1 hR) ?_
  refine aw_iload_n hC dX12_taintsBy_12 rfl ?_
  refine aw_iaload_k (j := s) hC dX12_taintsBy_13 (tg_45 hT) (nI_clamp (by omega)) (vp_in_nI (by omega) (by decide)) ?_
  have hb2 := hS.kd s (by omega)
  rw [hb2.1]
  refine kX12_177 hC rfl (m_X12_isPair (nI (iN I 45 s))) dX12_taintsBy_14 rfl a_le a_le a_le a_le a_le rfl aPure_x (aPure_k ?_)
  show AW X 0 0 17 [some (.ref 44), some (.int (nI s)), some (.int v), none, none, none] [.int (bI (decide ((nI (iN I 45 s)) = 5 ∨ (nI (iN I 45 s)) = 6))), .int (1 <<< ((nI (iN I 46 s)) &&& 31))] T I J R
  refine aw_if_eq (tgt := 31) hC dX12_taintsBy_17 (by decide) (fun h3 => ?_) (fun h3 => ?_)
  · show AW X 0 0 31 [some (.ref 44), some (.int (nI s)), some (.int v), none, none, none] [.int (1 <<< ((nI (iN I 46 s)) &&& 31))] T I J R
    refine aw_iconst (v := 0) hC dX12_taintsBy_31 (by decide) ?_
    refine aw_ior hC dX12_taintsBy_32 ?_
    have hpp : ¬ isPr I s := by have h9 := (bI_d0.mp (by assumption)); rw [← (hS.kd s hs).1] at h9; exact h9
    rw [show (1 <<< ((nI (iN I 46 s)) &&& 31)) ||| 0 = tBoth I s from tB_n hpp]
    refine aw_istore_n (L2 := [some (.ref 44), some (.int (nI s)), some (.int v), some (.int (tBoth I s)), none, none]) hC dX12_taintsBy_33 rfl (by decide) rfl ?_
    refine aw_aload_n hC dX12_taintsBy_34 rfl ?_
    refine aw_getR hC dX12_taintsBy_35 aF_X12_138 rfl (tg_44 hT) (pr_44_50 hR) ?_
    refine aw_iload_n hC dX12_taintsBy_38 rfl ?_
    refine aw_iaload_k (j := s) hC dX12_taintsBy_39 (tg_85 hT) (nI_clamp (by omega)) (vp_in_nI (by omega) (by decide)) ?_
    refine aw_if_lt (tgt := 66) hC dX12_taintsBy_40 (by decide) (fun h4 => ?_) (fun h4 => ?_)
    · show AW X 0 0 66 [some (.ref 44), some (.int (nI s)), some (.int v), some (.int (tBoth I s)), none, none] [] T I J R
      refine aw_iconst (v := 0) hC dX12_taintsBy_66 (by decide) ?_
      refine aw_istore (L2 := [some (.ref 44), some (.int (nI s)), some (.int v), some (.int (tBoth I s)), some (.int 0), none]) hC dX12_taintsBy_67 (by decide) rfl ?_
      refine aw_aload_n hC dX12_taintsBy_69 rfl ?_
      refine aw_getR hC dX12_taintsBy_70 aF_X12_7 rfl (tg_44 hT) (pr_44_1 hR) ?_
      refine aw_iload_n hC dX12_taintsBy_73 rfl ?_
      refine aw_iaload_k (j := s) hC dX12_taintsBy_74 (tg_45 hT) (nI_clamp (by omega)) (vp_in_nI (by omega) (by decide)) ?_
      have hb5 := hS.kd s (by omega)
      rw [hb5.1]
      refine kX12_177 hC rfl (m_X12_isPair (nI (iN I 45 s))) dX12_taintsBy_75 rfl a_le a_le a_le a_le a_le rfl aPure_x (aPure_k ?_)
      show AW X 0 0 78 [some (.ref 44), some (.int (nI s)), some (.int v), some (.int (tBoth I s)), some (.int 0), none] [.int (bI (decide ((nI (iN I 45 s)) = 5 ∨ (nI (iN I 45 s)) = 6)))] T I J R
      refine aw_if_eq (tgt := 99) hC dX12_taintsBy_78 (by decide) (fun h6 => ?_) (fun h6 => ?_)
      · show AW X 0 0 99 [some (.ref 44), some (.int (nI s)), some (.int v), some (.int (tBoth I s)), some (.int 0), none] [] T I J R
        refine aw_iconst (v := 0) hC dX12_taintsBy_99 (by decide) ?_
        refine aw_istore (L2 := [some (.ref 44), some (.int (nI s)), some (.int v), some (.int (tBoth I s)), some (.int 0), some (.int 0)]) hC dX12_taintsBy_100 (by decide) rfl ?_
        refine aw_iload hC dX12_taintsBy_102 rfl ?_
        refine aw_if_ne (tgt := 112) hC dX12_taintsBy_104 (by decide) (fun h7 => absurd h7 (by decide)) (fun _ => ?_)
        show AW X 0 0 107 [some (.ref 44), some (.int (nI s)), some (.int v), some (.int (tBoth I s)), some (.int 0), some (.int 0)] [] T I J R
        refine aw_iload hC dX12_taintsBy_107 rfl ?_
        refine aw_if_eq (tgt := 116) hC dX12_taintsBy_109 (by decide) (fun _ => ?_) (fun h8 => absurd h8 (by decide))
        show AW X 0 0 116 [some (.ref 44), some (.int (nI s)), some (.int v), some (.int (tBoth I s)), some (.int 0), some (.int 0)] [] T I J R
        refine aw_iconst (v := 0) hC dX12_taintsBy_116 (by decide) ?_
        exact aw_ireturn hC hq rfl dX12_taintsBy_117 a_le a_le (aPure_i (tnV_n (by clear hC hq; rw [tnW_bt]; have e1 := both_hit (I := I) (s := s) (v := v) (hS.fd s hs).2 (fun q => hS.k56 s hs (isPr_n hS hs q)); simp only [bI_d0, bI_dn, bI_e0, bI_n0, decide_eq_false_iff_not, decide_eq_true_eq, Int32.not_lt, Int32.not_le, Classical.not_not] at *; grind)))
      · show AW X 0 0 81 [some (.ref 44), some (.int (nI s)), some (.int v), some (.int (tBoth I s)), some (.int 0), none] [] T I J R
        refine aw_iload_n hC dX12_taintsBy_81 rfl ?_
        refine aw_iload_n hC dX12_taintsBy_82 rfl ?_
        refine aw_iand hC dX12_taintsBy_83 ?_
        refine aw_if_eq (tgt := 99) hC dX12_taintsBy_84 (by decide) (fun h9 => ?_) (fun h9 => ?_)
        · show AW X 0 0 99 [some (.ref 44), some (.int (nI s)), some (.int v), some (.int (tBoth I s)), some (.int 0), none] [] T I J R
          refine aw_iconst (v := 0) hC dX12_taintsBy_99 (by decide) ?_
          refine aw_istore (L2 := [some (.ref 44), some (.int (nI s)), some (.int v), some (.int (tBoth I s)), some (.int 0), some (.int 0)]) hC dX12_taintsBy_100 (by decide) rfl ?_
          refine aw_iload hC dX12_taintsBy_102 rfl ?_
          refine aw_if_ne (tgt := 112) hC dX12_taintsBy_104 (by decide) (fun h10 => absurd h10 (by decide)) (fun _ => ?_)
          show AW X 0 0 107 [some (.ref 44), some (.int (nI s)), some (.int v), some (.int (tBoth I s)), some (.int 0), some (.int 0)] [] T I J R
          refine aw_iload hC dX12_taintsBy_107 rfl ?_
          refine aw_if_eq (tgt := 116) hC dX12_taintsBy_109 (by decide) (fun _ => ?_) (fun h11 => absurd h11 (by decide))
          show AW X 0 0 116 [some (.ref 44), some (.int (nI s)), some (.int v), some (.int (tBoth I s)), some (.int 0), some (.int 0)] [] T I J R
          refine aw_iconst (v := 0) hC dX12_taintsBy_116 (by decide) ?_
          exact aw_ireturn hC hq rfl dX12_taintsBy_117 a_le a_le (aPure_i (tnV_n (by clear hC hq; rw [tnW_bt]; have e1 := both_hit (I := I) (s := s) (v := v) (hS.fd s hs).2 (fun q => hS.k56 s hs (isPr_n hS hs q)); simp only [bI_d0, bI_dn, bI_e0, bI_n0, decide_eq_false_iff_not, decide_eq_true_eq, Int32.not_lt, Int32.not_le, Classical.not_not] at *; grind)))
        · show AW X 0 0 87 [some (.ref 44), some (.int (nI s)), some (.int v), some (.int (tBoth I s)), some (.int 0), none] [] T I J R
          refine aw_aload_n hC dX12_taintsBy_87 rfl ?_
          refine aw_iload_n hC dX12_taintsBy_88 rfl ?_
          refine kX12_305 hC rfl (m_X12_isOpen (I := I) (J := J) hT hR (s := s) (by omega) (hg _ (by omega))) dX12_taintsBy_89 (tg_44 hT) rfl a_le a_le a_le a_le a_le rfl aPure_x (aPure_k ?_)
          show AW X 0 0 92 [some (.ref 44), some (.int (nI s)), some (.int v), some (.int (tBoth I s)), some (.int 0), none] [.int (bI (decide (mOpen I J s)))] T I J R
          refine aw_if_eq (tgt := 99) hC dX12_taintsBy_92 (by decide) (fun h12 => ?_) (fun h12 => ?_)
          · show AW X 0 0 99 [some (.ref 44), some (.int (nI s)), some (.int v), some (.int (tBoth I s)), some (.int 0), none] [] T I J R
            refine aw_iconst (v := 0) hC dX12_taintsBy_99 (by decide) ?_
            refine aw_istore (L2 := [some (.ref 44), some (.int (nI s)), some (.int v), some (.int (tBoth I s)), some (.int 0), some (.int 0)]) hC dX12_taintsBy_100 (by decide) rfl ?_
            refine aw_iload hC dX12_taintsBy_102 rfl ?_
            refine aw_if_ne (tgt := 112) hC dX12_taintsBy_104 (by decide) (fun h13 => absurd h13 (by decide)) (fun _ => ?_)
            show AW X 0 0 107 [some (.ref 44), some (.int (nI s)), some (.int v), some (.int (tBoth I s)), some (.int 0), some (.int 0)] [] T I J R
            refine aw_iload hC dX12_taintsBy_107 rfl ?_
            refine aw_if_eq (tgt := 116) hC dX12_taintsBy_109 (by decide) (fun _ => ?_) (fun h14 => absurd h14 (by decide))
            show AW X 0 0 116 [some (.ref 44), some (.int (nI s)), some (.int v), some (.int (tBoth I s)), some (.int 0), some (.int 0)] [] T I J R
            refine aw_iconst (v := 0) hC dX12_taintsBy_116 (by decide) ?_
            exact aw_ireturn hC hq rfl dX12_taintsBy_117 a_le a_le (aPure_i (tnV_n (by clear hC hq; rw [tnW_bt]; have e1 := both_hit (I := I) (s := s) (v := v) (hS.fd s hs).2 (fun q => hS.k56 s hs (isPr_n hS hs q)); simp only [bI_d0, bI_dn, bI_e0, bI_n0, decide_eq_false_iff_not, decide_eq_true_eq, Int32.not_lt, Int32.not_le, Classical.not_not] at *; grind)))
          · show AW X 0 0 95 [some (.ref 44), some (.int (nI s)), some (.int v), some (.int (tBoth I s)), some (.int 0), none] [] T I J R
            refine aw_iconst (v := 1) hC dX12_taintsBy_95 (by decide) ?_
            refine aw_goto (tgt := 100) hC dX12_taintsBy_96 (by decide) ?_
            refine aw_istore (L2 := [some (.ref 44), some (.int (nI s)), some (.int v), some (.int (tBoth I s)), some (.int 0), some (.int 1)]) hC dX12_taintsBy_100 (by decide) rfl ?_
            refine aw_iload hC dX12_taintsBy_102 rfl ?_
            refine aw_if_ne (tgt := 112) hC dX12_taintsBy_104 (by decide) (fun h15 => absurd h15 (by decide)) (fun _ => ?_)
            show AW X 0 0 107 [some (.ref 44), some (.int (nI s)), some (.int v), some (.int (tBoth I s)), some (.int 0), some (.int 1)] [] T I J R
            refine aw_iload hC dX12_taintsBy_107 rfl ?_
            refine aw_if_eq (tgt := 116) hC dX12_taintsBy_109 (by decide) (fun h16 => absurd h16 (by decide)) (fun _ => ?_)
            show AW X 0 0 112 [some (.ref 44), some (.int (nI s)), some (.int v), some (.int (tBoth I s)), some (.int 0), some (.int 1)] [] T I J R
            refine aw_iload_n hC dX12_taintsBy_112 rfl ?_
            refine aw_goto (tgt := 117) hC dX12_taintsBy_113 (by decide) ?_
            exact aw_ireturn hC hq rfl dX12_taintsBy_117 a_le a_le (aPure_i (tnV_y (by clear hC hq; rw [tnW_bt]; have e1 := both_hit (I := I) (s := s) (v := v) (hS.fd s hs).2 (fun q => hS.k56 s hs (isPr_n hS hs q)); simp only [bI_d0, bI_dn, bI_e0, bI_n0, decide_eq_false_iff_not, decide_eq_true_eq, Int32.not_lt, Int32.not_le, Classical.not_not] at *; grind)))
    · show AW X 0 0 43 [some (.ref 44), some (.int (nI s)), some (.int v), some (.int (tBoth I s)), none, none] [] T I J R
      have hgk := hg s hs (Int32.not_lt.mp (by assumption))
      have hgv := vp_eq hgk.2 (by decide)
      have e2 := bt_sshr (v := v) (f := gfld I s) (Nat.lt_trans hgv.2 (by decide))
      refine aw_iload_n hC dX12_taintsBy_43 rfl ?_
      refine aw_aload_n hC dX12_taintsBy_44 rfl ?_
      refine aw_getR hC dX12_taintsBy_45 aF_X12_13 rfl (tg_44 hT) (pr_44_2 hR) ?_
      refine aw_aload_n hC dX12_taintsBy_48 rfl ?_
      refine aw_getR hC dX12_taintsBy_49 aF_X12_138 rfl (tg_44 hT) (pr_44_50 hR) ?_
      refine aw_iload_n hC dX12_taintsBy_52 rfl ?_
      refine aw_iaload_k (j := s) hC dX12_taintsBy_53 (tg_85 hT) (nI_clamp (by omega)) (vp_in_nI (by omega) (by decide)) ?_
      refine aw_iaload_k (j := (I 85 s).toNatClampNeg) hC dX12_taintsBy_54 (tg_46 hT) rfl hgk.1 ?_
      rw [show I 46 ((I 85 s).toNatClampNeg) = nI (gfld I s) from hgv.1]
      refine aw_ishr hC dX12_taintsBy_55 ?_
      refine aw_iconst (v := 1) hC dX12_taintsBy_56 (by decide) ?_
      refine aw_iand hC dX12_taintsBy_57 ?_
      refine aw_iconst (v := 1) hC dX12_taintsBy_58 (by decide) ?_
      refine aw_icmp_ne (tgt := 66) hC dX12_taintsBy_59 (by decide) (fun h17 => ?_) (fun h17 => ?_)
      · show AW X 0 0 66 [some (.ref 44), some (.int (nI s)), some (.int v), some (.int (tBoth I s)), none, none] [] T I J R
        refine aw_iconst (v := 0) hC dX12_taintsBy_66 (by decide) ?_
        refine aw_istore (L2 := [some (.ref 44), some (.int (nI s)), some (.int v), some (.int (tBoth I s)), some (.int 0), none]) hC dX12_taintsBy_67 (by decide) rfl ?_
        refine aw_aload_n hC dX12_taintsBy_69 rfl ?_
        refine aw_getR hC dX12_taintsBy_70 aF_X12_7 rfl (tg_44 hT) (pr_44_1 hR) ?_
        refine aw_iload_n hC dX12_taintsBy_73 rfl ?_
        refine aw_iaload_k (j := s) hC dX12_taintsBy_74 (tg_45 hT) (nI_clamp (by omega)) (vp_in_nI (by omega) (by decide)) ?_
        have hb18 := hS.kd s (by omega)
        rw [hb18.1]
        refine kX12_177 hC rfl (m_X12_isPair (nI (iN I 45 s))) dX12_taintsBy_75 rfl a_le a_le a_le a_le a_le rfl aPure_x (aPure_k ?_)
        show AW X 0 0 78 [some (.ref 44), some (.int (nI s)), some (.int v), some (.int (tBoth I s)), some (.int 0), none] [.int (bI (decide ((nI (iN I 45 s)) = 5 ∨ (nI (iN I 45 s)) = 6)))] T I J R
        refine aw_if_eq (tgt := 99) hC dX12_taintsBy_78 (by decide) (fun h19 => ?_) (fun h19 => ?_)
        · show AW X 0 0 99 [some (.ref 44), some (.int (nI s)), some (.int v), some (.int (tBoth I s)), some (.int 0), none] [] T I J R
          refine aw_iconst (v := 0) hC dX12_taintsBy_99 (by decide) ?_
          refine aw_istore (L2 := [some (.ref 44), some (.int (nI s)), some (.int v), some (.int (tBoth I s)), some (.int 0), some (.int 0)]) hC dX12_taintsBy_100 (by decide) rfl ?_
          refine aw_iload hC dX12_taintsBy_102 rfl ?_
          refine aw_if_ne (tgt := 112) hC dX12_taintsBy_104 (by decide) (fun h20 => absurd h20 (by decide)) (fun _ => ?_)
          show AW X 0 0 107 [some (.ref 44), some (.int (nI s)), some (.int v), some (.int (tBoth I s)), some (.int 0), some (.int 0)] [] T I J R
          refine aw_iload hC dX12_taintsBy_107 rfl ?_
          refine aw_if_eq (tgt := 116) hC dX12_taintsBy_109 (by decide) (fun _ => ?_) (fun h21 => absurd h21 (by decide))
          show AW X 0 0 116 [some (.ref 44), some (.int (nI s)), some (.int v), some (.int (tBoth I s)), some (.int 0), some (.int 0)] [] T I J R
          refine aw_iconst (v := 0) hC dX12_taintsBy_116 (by decide) ?_
          exact aw_ireturn hC hq rfl dX12_taintsBy_117 a_le a_le (aPure_i (tnV_n (by clear hC hq; rw [tnW_bt]; have e1 := both_hit (I := I) (s := s) (v := v) (hS.fd s hs).2 (fun q => hS.k56 s hs (isPr_n hS hs q)); simp only [bI_d0, bI_dn, bI_e0, bI_n0, decide_eq_false_iff_not, decide_eq_true_eq, Int32.not_lt, Int32.not_le, Classical.not_not] at *; grind)))
        · show AW X 0 0 81 [some (.ref 44), some (.int (nI s)), some (.int v), some (.int (tBoth I s)), some (.int 0), none] [] T I J R
          refine aw_iload_n hC dX12_taintsBy_81 rfl ?_
          refine aw_iload_n hC dX12_taintsBy_82 rfl ?_
          refine aw_iand hC dX12_taintsBy_83 ?_
          refine aw_if_eq (tgt := 99) hC dX12_taintsBy_84 (by decide) (fun h22 => ?_) (fun h22 => ?_)
          · show AW X 0 0 99 [some (.ref 44), some (.int (nI s)), some (.int v), some (.int (tBoth I s)), some (.int 0), none] [] T I J R
            refine aw_iconst (v := 0) hC dX12_taintsBy_99 (by decide) ?_
            refine aw_istore (L2 := [some (.ref 44), some (.int (nI s)), some (.int v), some (.int (tBoth I s)), some (.int 0), some (.int 0)]) hC dX12_taintsBy_100 (by decide) rfl ?_
            refine aw_iload hC dX12_taintsBy_102 rfl ?_
            refine aw_if_ne (tgt := 112) hC dX12_taintsBy_104 (by decide) (fun h23 => absurd h23 (by decide)) (fun _ => ?_)
            show AW X 0 0 107 [some (.ref 44), some (.int (nI s)), some (.int v), some (.int (tBoth I s)), some (.int 0), some (.int 0)] [] T I J R
            refine aw_iload hC dX12_taintsBy_107 rfl ?_
            refine aw_if_eq (tgt := 116) hC dX12_taintsBy_109 (by decide) (fun _ => ?_) (fun h24 => absurd h24 (by decide))
            show AW X 0 0 116 [some (.ref 44), some (.int (nI s)), some (.int v), some (.int (tBoth I s)), some (.int 0), some (.int 0)] [] T I J R
            refine aw_iconst (v := 0) hC dX12_taintsBy_116 (by decide) ?_
            exact aw_ireturn hC hq rfl dX12_taintsBy_117 a_le a_le (aPure_i (tnV_n (by clear hC hq; rw [tnW_bt]; have e1 := both_hit (I := I) (s := s) (v := v) (hS.fd s hs).2 (fun q => hS.k56 s hs (isPr_n hS hs q)); simp only [bI_d0, bI_dn, bI_e0, bI_n0, decide_eq_false_iff_not, decide_eq_true_eq, Int32.not_lt, Int32.not_le, Classical.not_not] at *; grind)))
          · show AW X 0 0 87 [some (.ref 44), some (.int (nI s)), some (.int v), some (.int (tBoth I s)), some (.int 0), none] [] T I J R
            refine aw_aload_n hC dX12_taintsBy_87 rfl ?_
            refine aw_iload_n hC dX12_taintsBy_88 rfl ?_
            refine kX12_305 hC rfl (m_X12_isOpen (I := I) (J := J) hT hR (s := s) (by omega) (hg _ (by omega))) dX12_taintsBy_89 (tg_44 hT) rfl a_le a_le a_le a_le a_le rfl aPure_x (aPure_k ?_)
            show AW X 0 0 92 [some (.ref 44), some (.int (nI s)), some (.int v), some (.int (tBoth I s)), some (.int 0), none] [.int (bI (decide (mOpen I J s)))] T I J R
            refine aw_if_eq (tgt := 99) hC dX12_taintsBy_92 (by decide) (fun h25 => ?_) (fun h25 => ?_)
            · show AW X 0 0 99 [some (.ref 44), some (.int (nI s)), some (.int v), some (.int (tBoth I s)), some (.int 0), none] [] T I J R
              refine aw_iconst (v := 0) hC dX12_taintsBy_99 (by decide) ?_
              refine aw_istore (L2 := [some (.ref 44), some (.int (nI s)), some (.int v), some (.int (tBoth I s)), some (.int 0), some (.int 0)]) hC dX12_taintsBy_100 (by decide) rfl ?_
              refine aw_iload hC dX12_taintsBy_102 rfl ?_
              refine aw_if_ne (tgt := 112) hC dX12_taintsBy_104 (by decide) (fun h26 => absurd h26 (by decide)) (fun _ => ?_)
              show AW X 0 0 107 [some (.ref 44), some (.int (nI s)), some (.int v), some (.int (tBoth I s)), some (.int 0), some (.int 0)] [] T I J R
              refine aw_iload hC dX12_taintsBy_107 rfl ?_
              refine aw_if_eq (tgt := 116) hC dX12_taintsBy_109 (by decide) (fun _ => ?_) (fun h27 => absurd h27 (by decide))
              show AW X 0 0 116 [some (.ref 44), some (.int (nI s)), some (.int v), some (.int (tBoth I s)), some (.int 0), some (.int 0)] [] T I J R
              refine aw_iconst (v := 0) hC dX12_taintsBy_116 (by decide) ?_
              exact aw_ireturn hC hq rfl dX12_taintsBy_117 a_le a_le (aPure_i (tnV_n (by clear hC hq; rw [tnW_bt]; have e1 := both_hit (I := I) (s := s) (v := v) (hS.fd s hs).2 (fun q => hS.k56 s hs (isPr_n hS hs q)); simp only [bI_d0, bI_dn, bI_e0, bI_n0, decide_eq_false_iff_not, decide_eq_true_eq, Int32.not_lt, Int32.not_le, Classical.not_not] at *; grind)))
            · show AW X 0 0 95 [some (.ref 44), some (.int (nI s)), some (.int v), some (.int (tBoth I s)), some (.int 0), none] [] T I J R
              refine aw_iconst (v := 1) hC dX12_taintsBy_95 (by decide) ?_
              refine aw_goto (tgt := 100) hC dX12_taintsBy_96 (by decide) ?_
              refine aw_istore (L2 := [some (.ref 44), some (.int (nI s)), some (.int v), some (.int (tBoth I s)), some (.int 0), some (.int 1)]) hC dX12_taintsBy_100 (by decide) rfl ?_
              refine aw_iload hC dX12_taintsBy_102 rfl ?_
              refine aw_if_ne (tgt := 112) hC dX12_taintsBy_104 (by decide) (fun h28 => absurd h28 (by decide)) (fun _ => ?_)
              show AW X 0 0 107 [some (.ref 44), some (.int (nI s)), some (.int v), some (.int (tBoth I s)), some (.int 0), some (.int 1)] [] T I J R
              refine aw_iload hC dX12_taintsBy_107 rfl ?_
              refine aw_if_eq (tgt := 116) hC dX12_taintsBy_109 (by decide) (fun h29 => absurd h29 (by decide)) (fun _ => ?_)
              show AW X 0 0 112 [some (.ref 44), some (.int (nI s)), some (.int v), some (.int (tBoth I s)), some (.int 0), some (.int 1)] [] T I J R
              refine aw_iload_n hC dX12_taintsBy_112 rfl ?_
              refine aw_goto (tgt := 117) hC dX12_taintsBy_113 (by decide) ?_
              exact aw_ireturn hC hq rfl dX12_taintsBy_117 a_le a_le (aPure_i (tnV_y (by clear hC hq; rw [tnW_bt]; have e1 := both_hit (I := I) (s := s) (v := v) (hS.fd s hs).2 (fun q => hS.k56 s hs (isPr_n hS hs q)); simp only [bI_d0, bI_dn, bI_e0, bI_n0, decide_eq_false_iff_not, decide_eq_true_eq, Int32.not_lt, Int32.not_le, Classical.not_not] at *; grind)))
      · show AW X 0 0 62 [some (.ref 44), some (.int (nI s)), some (.int v), some (.int (tBoth I s)), none, none] [] T I J R
        refine aw_iconst (v := 1) hC dX12_taintsBy_62 (by decide) ?_
        refine aw_goto (tgt := 67) hC dX12_taintsBy_63 (by decide) ?_
        refine aw_istore (L2 := [some (.ref 44), some (.int (nI s)), some (.int v), some (.int (tBoth I s)), some (.int 1), none]) hC dX12_taintsBy_67 (by decide) rfl ?_
        refine aw_aload_n hC dX12_taintsBy_69 rfl ?_
        refine aw_getR hC dX12_taintsBy_70 aF_X12_7 rfl (tg_44 hT) (pr_44_1 hR) ?_
        refine aw_iload_n hC dX12_taintsBy_73 rfl ?_
        refine aw_iaload_k (j := s) hC dX12_taintsBy_74 (tg_45 hT) (nI_clamp (by omega)) (vp_in_nI (by omega) (by decide)) ?_
        have hb30 := hS.kd s (by omega)
        rw [hb30.1]
        refine kX12_177 hC rfl (m_X12_isPair (nI (iN I 45 s))) dX12_taintsBy_75 rfl a_le a_le a_le a_le a_le rfl aPure_x (aPure_k ?_)
        show AW X 0 0 78 [some (.ref 44), some (.int (nI s)), some (.int v), some (.int (tBoth I s)), some (.int 1), none] [.int (bI (decide ((nI (iN I 45 s)) = 5 ∨ (nI (iN I 45 s)) = 6)))] T I J R
        refine aw_if_eq (tgt := 99) hC dX12_taintsBy_78 (by decide) (fun h31 => ?_) (fun h31 => ?_)
        · show AW X 0 0 99 [some (.ref 44), some (.int (nI s)), some (.int v), some (.int (tBoth I s)), some (.int 1), none] [] T I J R
          refine aw_iconst (v := 0) hC dX12_taintsBy_99 (by decide) ?_
          refine aw_istore (L2 := [some (.ref 44), some (.int (nI s)), some (.int v), some (.int (tBoth I s)), some (.int 1), some (.int 0)]) hC dX12_taintsBy_100 (by decide) rfl ?_
          refine aw_iload hC dX12_taintsBy_102 rfl ?_
          refine aw_if_ne (tgt := 112) hC dX12_taintsBy_104 (by decide) (fun _ => ?_) (fun h32 => absurd h32 (by decide))
          show AW X 0 0 112 [some (.ref 44), some (.int (nI s)), some (.int v), some (.int (tBoth I s)), some (.int 1), some (.int 0)] [] T I J R
          refine aw_iload_n hC dX12_taintsBy_112 rfl ?_
          refine aw_goto (tgt := 117) hC dX12_taintsBy_113 (by decide) ?_
          exact aw_ireturn hC hq rfl dX12_taintsBy_117 a_le a_le (aPure_i (tnV_y (by clear hC hq; rw [tnW_bt]; have e1 := both_hit (I := I) (s := s) (v := v) (hS.fd s hs).2 (fun q => hS.k56 s hs (isPr_n hS hs q)); simp only [bI_d0, bI_dn, bI_e0, bI_n0, decide_eq_false_iff_not, decide_eq_true_eq, Int32.not_lt, Int32.not_le, Classical.not_not] at *; grind)))
        · show AW X 0 0 81 [some (.ref 44), some (.int (nI s)), some (.int v), some (.int (tBoth I s)), some (.int 1), none] [] T I J R
          refine aw_iload_n hC dX12_taintsBy_81 rfl ?_
          refine aw_iload_n hC dX12_taintsBy_82 rfl ?_
          refine aw_iand hC dX12_taintsBy_83 ?_
          refine aw_if_eq (tgt := 99) hC dX12_taintsBy_84 (by decide) (fun h33 => ?_) (fun h33 => ?_)
          · show AW X 0 0 99 [some (.ref 44), some (.int (nI s)), some (.int v), some (.int (tBoth I s)), some (.int 1), none] [] T I J R
            refine aw_iconst (v := 0) hC dX12_taintsBy_99 (by decide) ?_
            refine aw_istore (L2 := [some (.ref 44), some (.int (nI s)), some (.int v), some (.int (tBoth I s)), some (.int 1), some (.int 0)]) hC dX12_taintsBy_100 (by decide) rfl ?_
            refine aw_iload hC dX12_taintsBy_102 rfl ?_
            refine aw_if_ne (tgt := 112) hC dX12_taintsBy_104 (by decide) (fun _ => ?_) (fun h34 => absurd h34 (by decide))
            show AW X 0 0 112 [some (.ref 44), some (.int (nI s)), some (.int v), some (.int (tBoth I s)), some (.int 1), some (.int 0)] [] T I J R
            refine aw_iload_n hC dX12_taintsBy_112 rfl ?_
            refine aw_goto (tgt := 117) hC dX12_taintsBy_113 (by decide) ?_
            exact aw_ireturn hC hq rfl dX12_taintsBy_117 a_le a_le (aPure_i (tnV_y (by clear hC hq; rw [tnW_bt]; have e1 := both_hit (I := I) (s := s) (v := v) (hS.fd s hs).2 (fun q => hS.k56 s hs (isPr_n hS hs q)); simp only [bI_d0, bI_dn, bI_e0, bI_n0, decide_eq_false_iff_not, decide_eq_true_eq, Int32.not_lt, Int32.not_le, Classical.not_not] at *; grind)))
          · show AW X 0 0 87 [some (.ref 44), some (.int (nI s)), some (.int v), some (.int (tBoth I s)), some (.int 1), none] [] T I J R
            refine aw_aload_n hC dX12_taintsBy_87 rfl ?_
            refine aw_iload_n hC dX12_taintsBy_88 rfl ?_
            refine kX12_305 hC rfl (m_X12_isOpen (I := I) (J := J) hT hR (s := s) (by omega) (hg _ (by omega))) dX12_taintsBy_89 (tg_44 hT) rfl a_le a_le a_le a_le a_le rfl aPure_x (aPure_k ?_)
            show AW X 0 0 92 [some (.ref 44), some (.int (nI s)), some (.int v), some (.int (tBoth I s)), some (.int 1), none] [.int (bI (decide (mOpen I J s)))] T I J R
            refine aw_if_eq (tgt := 99) hC dX12_taintsBy_92 (by decide) (fun h35 => ?_) (fun h35 => ?_)
            · show AW X 0 0 99 [some (.ref 44), some (.int (nI s)), some (.int v), some (.int (tBoth I s)), some (.int 1), none] [] T I J R
              refine aw_iconst (v := 0) hC dX12_taintsBy_99 (by decide) ?_
              refine aw_istore (L2 := [some (.ref 44), some (.int (nI s)), some (.int v), some (.int (tBoth I s)), some (.int 1), some (.int 0)]) hC dX12_taintsBy_100 (by decide) rfl ?_
              refine aw_iload hC dX12_taintsBy_102 rfl ?_
              refine aw_if_ne (tgt := 112) hC dX12_taintsBy_104 (by decide) (fun _ => ?_) (fun h36 => absurd h36 (by decide))
              show AW X 0 0 112 [some (.ref 44), some (.int (nI s)), some (.int v), some (.int (tBoth I s)), some (.int 1), some (.int 0)] [] T I J R
              refine aw_iload_n hC dX12_taintsBy_112 rfl ?_
              refine aw_goto (tgt := 117) hC dX12_taintsBy_113 (by decide) ?_
              exact aw_ireturn hC hq rfl dX12_taintsBy_117 a_le a_le (aPure_i (tnV_y (by clear hC hq; rw [tnW_bt]; have e1 := both_hit (I := I) (s := s) (v := v) (hS.fd s hs).2 (fun q => hS.k56 s hs (isPr_n hS hs q)); simp only [bI_d0, bI_dn, bI_e0, bI_n0, decide_eq_false_iff_not, decide_eq_true_eq, Int32.not_lt, Int32.not_le, Classical.not_not] at *; grind)))
            · show AW X 0 0 95 [some (.ref 44), some (.int (nI s)), some (.int v), some (.int (tBoth I s)), some (.int 1), none] [] T I J R
              refine aw_iconst (v := 1) hC dX12_taintsBy_95 (by decide) ?_
              refine aw_goto (tgt := 100) hC dX12_taintsBy_96 (by decide) ?_
              refine aw_istore (L2 := [some (.ref 44), some (.int (nI s)), some (.int v), some (.int (tBoth I s)), some (.int 1), some (.int 1)]) hC dX12_taintsBy_100 (by decide) rfl ?_
              refine aw_iload hC dX12_taintsBy_102 rfl ?_
              refine aw_if_ne (tgt := 112) hC dX12_taintsBy_104 (by decide) (fun _ => ?_) (fun h37 => absurd h37 (by decide))
              show AW X 0 0 112 [some (.ref 44), some (.int (nI s)), some (.int v), some (.int (tBoth I s)), some (.int 1), some (.int 1)] [] T I J R
              refine aw_iload_n hC dX12_taintsBy_112 rfl ?_
              refine aw_goto (tgt := 117) hC dX12_taintsBy_113 (by decide) ?_
              exact aw_ireturn hC hq rfl dX12_taintsBy_117 a_le a_le (aPure_i (tnV_y (by clear hC hq; rw [tnW_bt]; have e1 := both_hit (I := I) (s := s) (v := v) (hS.fd s hs).2 (fun q => hS.k56 s hs (isPr_n hS hs q)); simp only [bI_d0, bI_dn, bI_e0, bI_n0, decide_eq_false_iff_not, decide_eq_true_eq, Int32.not_lt, Int32.not_le, Classical.not_not] at *; grind)))
  · show AW X 0 0 20 [some (.ref 44), some (.int (nI s)), some (.int v), none, none, none] [.int (1 <<< ((nI (iN I 46 s)) &&& 31))] T I J R
    have h47 := hS.k56 s hs ((bI_dn.mp (by assumption : ¬ bI (decide ((nI (iN I 45 s)) = 5 ∨ (nI (iN I 45 s)) = 6)) = 0)).imp (fun q => (nI_eq (b := 5) (by have := (hS.kd s hs).2; omega) (by omega)).mp q) (fun q => (nI_eq (b := 6) (by have := (hS.kd s hs).2; omega) (by omega)).mp q))
    refine aw_iconst (v := 1) hC dX12_taintsBy_20 (by decide) ?_
    refine aw_aload_n hC dX12_taintsBy_21 rfl ?_
    refine aw_getR hC dX12_taintsBy_22 aF_X12_16 rfl (tg_44 hT) (pr_44_3 hR) ?_
    refine aw_iload_n hC dX12_taintsBy_25 rfl ?_
    refine aw_iaload_k (j := s) hC dX12_taintsBy_26 (tg_47 hT) (nI_clamp (by omega)) (vp_in_nI (by omega) (by decide)) ?_
    have hb38 := hS.on s (by omega)
    rw [hb38.1]
    refine aw_ishl hC dX12_taintsBy_27 ?_
    refine aw_goto (tgt := 32) hC dX12_taintsBy_28 (by decide) ?_
    refine aw_ior hC dX12_taintsBy_32 ?_
    have hpp : isPr I s := by have h9 := (bI_dn.mp (by assumption)); rw [← (hS.kd s hs).1] at h9; exact h9
    rw [show (1 <<< ((nI (iN I 46 s)) &&& 31)) ||| (1 <<< ((nI (iN I 47 s)) &&& 31)) = tBoth I s from tB_p hpp]
    refine aw_istore_n (L2 := [some (.ref 44), some (.int (nI s)), some (.int v), some (.int (tBoth I s)), none, none]) hC dX12_taintsBy_33 rfl (by decide) rfl ?_
    refine aw_aload_n hC dX12_taintsBy_34 rfl ?_
    refine aw_getR hC dX12_taintsBy_35 aF_X12_138 rfl (tg_44 hT) (pr_44_50 hR) ?_
    refine aw_iload_n hC dX12_taintsBy_38 rfl ?_
    refine aw_iaload_k (j := s) hC dX12_taintsBy_39 (tg_85 hT) (nI_clamp (by omega)) (vp_in_nI (by omega) (by decide)) ?_
    refine aw_if_lt (tgt := 66) hC dX12_taintsBy_40 (by decide) (fun h39 => ?_) (fun h39 => ?_)
    · show AW X 0 0 66 [some (.ref 44), some (.int (nI s)), some (.int v), some (.int (tBoth I s)), none, none] [] T I J R
      refine aw_iconst (v := 0) hC dX12_taintsBy_66 (by decide) ?_
      refine aw_istore (L2 := [some (.ref 44), some (.int (nI s)), some (.int v), some (.int (tBoth I s)), some (.int 0), none]) hC dX12_taintsBy_67 (by decide) rfl ?_
      refine aw_aload_n hC dX12_taintsBy_69 rfl ?_
      refine aw_getR hC dX12_taintsBy_70 aF_X12_7 rfl (tg_44 hT) (pr_44_1 hR) ?_
      refine aw_iload_n hC dX12_taintsBy_73 rfl ?_
      refine aw_iaload_k (j := s) hC dX12_taintsBy_74 (tg_45 hT) (nI_clamp (by omega)) (vp_in_nI (by omega) (by decide)) ?_
      have hb40 := hS.kd s (by omega)
      rw [hb40.1]
      refine kX12_177 hC rfl (m_X12_isPair (nI (iN I 45 s))) dX12_taintsBy_75 rfl a_le a_le a_le a_le a_le rfl aPure_x (aPure_k ?_)
      show AW X 0 0 78 [some (.ref 44), some (.int (nI s)), some (.int v), some (.int (tBoth I s)), some (.int 0), none] [.int (bI (decide ((nI (iN I 45 s)) = 5 ∨ (nI (iN I 45 s)) = 6)))] T I J R
      refine aw_if_eq (tgt := 99) hC dX12_taintsBy_78 (by decide) (fun h41 => ?_) (fun h41 => ?_)
      · show AW X 0 0 99 [some (.ref 44), some (.int (nI s)), some (.int v), some (.int (tBoth I s)), some (.int 0), none] [] T I J R
        refine aw_iconst (v := 0) hC dX12_taintsBy_99 (by decide) ?_
        refine aw_istore (L2 := [some (.ref 44), some (.int (nI s)), some (.int v), some (.int (tBoth I s)), some (.int 0), some (.int 0)]) hC dX12_taintsBy_100 (by decide) rfl ?_
        refine aw_iload hC dX12_taintsBy_102 rfl ?_
        refine aw_if_ne (tgt := 112) hC dX12_taintsBy_104 (by decide) (fun h42 => absurd h42 (by decide)) (fun _ => ?_)
        show AW X 0 0 107 [some (.ref 44), some (.int (nI s)), some (.int v), some (.int (tBoth I s)), some (.int 0), some (.int 0)] [] T I J R
        refine aw_iload hC dX12_taintsBy_107 rfl ?_
        refine aw_if_eq (tgt := 116) hC dX12_taintsBy_109 (by decide) (fun _ => ?_) (fun h43 => absurd h43 (by decide))
        show AW X 0 0 116 [some (.ref 44), some (.int (nI s)), some (.int v), some (.int (tBoth I s)), some (.int 0), some (.int 0)] [] T I J R
        refine aw_iconst (v := 0) hC dX12_taintsBy_116 (by decide) ?_
        exact aw_ireturn hC hq rfl dX12_taintsBy_117 a_le a_le (aPure_i (tnV_n (by clear hC hq; rw [tnW_bt]; have e1 := both_hit (I := I) (s := s) (v := v) (hS.fd s hs).2 (fun q => hS.k56 s hs (isPr_n hS hs q)); simp only [bI_d0, bI_dn, bI_e0, bI_n0, decide_eq_false_iff_not, decide_eq_true_eq, Int32.not_lt, Int32.not_le, Classical.not_not] at *; grind)))
      · show AW X 0 0 81 [some (.ref 44), some (.int (nI s)), some (.int v), some (.int (tBoth I s)), some (.int 0), none] [] T I J R
        refine aw_iload_n hC dX12_taintsBy_81 rfl ?_
        refine aw_iload_n hC dX12_taintsBy_82 rfl ?_
        refine aw_iand hC dX12_taintsBy_83 ?_
        refine aw_if_eq (tgt := 99) hC dX12_taintsBy_84 (by decide) (fun h44 => ?_) (fun h44 => ?_)
        · show AW X 0 0 99 [some (.ref 44), some (.int (nI s)), some (.int v), some (.int (tBoth I s)), some (.int 0), none] [] T I J R
          refine aw_iconst (v := 0) hC dX12_taintsBy_99 (by decide) ?_
          refine aw_istore (L2 := [some (.ref 44), some (.int (nI s)), some (.int v), some (.int (tBoth I s)), some (.int 0), some (.int 0)]) hC dX12_taintsBy_100 (by decide) rfl ?_
          refine aw_iload hC dX12_taintsBy_102 rfl ?_
          refine aw_if_ne (tgt := 112) hC dX12_taintsBy_104 (by decide) (fun h45 => absurd h45 (by decide)) (fun _ => ?_)
          show AW X 0 0 107 [some (.ref 44), some (.int (nI s)), some (.int v), some (.int (tBoth I s)), some (.int 0), some (.int 0)] [] T I J R
          refine aw_iload hC dX12_taintsBy_107 rfl ?_
          refine aw_if_eq (tgt := 116) hC dX12_taintsBy_109 (by decide) (fun _ => ?_) (fun h46 => absurd h46 (by decide))
          show AW X 0 0 116 [some (.ref 44), some (.int (nI s)), some (.int v), some (.int (tBoth I s)), some (.int 0), some (.int 0)] [] T I J R
          refine aw_iconst (v := 0) hC dX12_taintsBy_116 (by decide) ?_
          exact aw_ireturn hC hq rfl dX12_taintsBy_117 a_le a_le (aPure_i (tnV_n (by clear hC hq; rw [tnW_bt]; have e1 := both_hit (I := I) (s := s) (v := v) (hS.fd s hs).2 (fun q => hS.k56 s hs (isPr_n hS hs q)); simp only [bI_d0, bI_dn, bI_e0, bI_n0, decide_eq_false_iff_not, decide_eq_true_eq, Int32.not_lt, Int32.not_le, Classical.not_not] at *; grind)))
        · show AW X 0 0 87 [some (.ref 44), some (.int (nI s)), some (.int v), some (.int (tBoth I s)), some (.int 0), none] [] T I J R
          refine aw_aload_n hC dX12_taintsBy_87 rfl ?_
          refine aw_iload_n hC dX12_taintsBy_88 rfl ?_
          refine kX12_305 hC rfl (m_X12_isOpen (I := I) (J := J) hT hR (s := s) (by omega) (hg _ (by omega))) dX12_taintsBy_89 (tg_44 hT) rfl a_le a_le a_le a_le a_le rfl aPure_x (aPure_k ?_)
          show AW X 0 0 92 [some (.ref 44), some (.int (nI s)), some (.int v), some (.int (tBoth I s)), some (.int 0), none] [.int (bI (decide (mOpen I J s)))] T I J R
          refine aw_if_eq (tgt := 99) hC dX12_taintsBy_92 (by decide) (fun h47 => ?_) (fun h47 => ?_)
          · show AW X 0 0 99 [some (.ref 44), some (.int (nI s)), some (.int v), some (.int (tBoth I s)), some (.int 0), none] [] T I J R
            refine aw_iconst (v := 0) hC dX12_taintsBy_99 (by decide) ?_
            refine aw_istore (L2 := [some (.ref 44), some (.int (nI s)), some (.int v), some (.int (tBoth I s)), some (.int 0), some (.int 0)]) hC dX12_taintsBy_100 (by decide) rfl ?_
            refine aw_iload hC dX12_taintsBy_102 rfl ?_
            refine aw_if_ne (tgt := 112) hC dX12_taintsBy_104 (by decide) (fun h48 => absurd h48 (by decide)) (fun _ => ?_)
            show AW X 0 0 107 [some (.ref 44), some (.int (nI s)), some (.int v), some (.int (tBoth I s)), some (.int 0), some (.int 0)] [] T I J R
            refine aw_iload hC dX12_taintsBy_107 rfl ?_
            refine aw_if_eq (tgt := 116) hC dX12_taintsBy_109 (by decide) (fun _ => ?_) (fun h49 => absurd h49 (by decide))
            show AW X 0 0 116 [some (.ref 44), some (.int (nI s)), some (.int v), some (.int (tBoth I s)), some (.int 0), some (.int 0)] [] T I J R
            refine aw_iconst (v := 0) hC dX12_taintsBy_116 (by decide) ?_
            exact aw_ireturn hC hq rfl dX12_taintsBy_117 a_le a_le (aPure_i (tnV_n (by clear hC hq; rw [tnW_bt]; have e1 := both_hit (I := I) (s := s) (v := v) (hS.fd s hs).2 (fun q => hS.k56 s hs (isPr_n hS hs q)); simp only [bI_d0, bI_dn, bI_e0, bI_n0, decide_eq_false_iff_not, decide_eq_true_eq, Int32.not_lt, Int32.not_le, Classical.not_not] at *; grind)))
          · show AW X 0 0 95 [some (.ref 44), some (.int (nI s)), some (.int v), some (.int (tBoth I s)), some (.int 0), none] [] T I J R
            refine aw_iconst (v := 1) hC dX12_taintsBy_95 (by decide) ?_
            refine aw_goto (tgt := 100) hC dX12_taintsBy_96 (by decide) ?_
            refine aw_istore (L2 := [some (.ref 44), some (.int (nI s)), some (.int v), some (.int (tBoth I s)), some (.int 0), some (.int 1)]) hC dX12_taintsBy_100 (by decide) rfl ?_
            refine aw_iload hC dX12_taintsBy_102 rfl ?_
            refine aw_if_ne (tgt := 112) hC dX12_taintsBy_104 (by decide) (fun h50 => absurd h50 (by decide)) (fun _ => ?_)
            show AW X 0 0 107 [some (.ref 44), some (.int (nI s)), some (.int v), some (.int (tBoth I s)), some (.int 0), some (.int 1)] [] T I J R
            refine aw_iload hC dX12_taintsBy_107 rfl ?_
            refine aw_if_eq (tgt := 116) hC dX12_taintsBy_109 (by decide) (fun h51 => absurd h51 (by decide)) (fun _ => ?_)
            show AW X 0 0 112 [some (.ref 44), some (.int (nI s)), some (.int v), some (.int (tBoth I s)), some (.int 0), some (.int 1)] [] T I J R
            refine aw_iload_n hC dX12_taintsBy_112 rfl ?_
            refine aw_goto (tgt := 117) hC dX12_taintsBy_113 (by decide) ?_
            exact aw_ireturn hC hq rfl dX12_taintsBy_117 a_le a_le (aPure_i (tnV_y (by clear hC hq; rw [tnW_bt]; have e1 := both_hit (I := I) (s := s) (v := v) (hS.fd s hs).2 (fun q => hS.k56 s hs (isPr_n hS hs q)); simp only [bI_d0, bI_dn, bI_e0, bI_n0, decide_eq_false_iff_not, decide_eq_true_eq, Int32.not_lt, Int32.not_le, Classical.not_not] at *; grind)))
    · show AW X 0 0 43 [some (.ref 44), some (.int (nI s)), some (.int v), some (.int (tBoth I s)), none, none] [] T I J R
      have hgk := hg s hs (Int32.not_lt.mp (by assumption))
      have hgv := vp_eq hgk.2 (by decide)
      have e2 := bt_sshr (v := v) (f := gfld I s) (Nat.lt_trans hgv.2 (by decide))
      refine aw_iload_n hC dX12_taintsBy_43 rfl ?_
      refine aw_aload_n hC dX12_taintsBy_44 rfl ?_
      refine aw_getR hC dX12_taintsBy_45 aF_X12_13 rfl (tg_44 hT) (pr_44_2 hR) ?_
      refine aw_aload_n hC dX12_taintsBy_48 rfl ?_
      refine aw_getR hC dX12_taintsBy_49 aF_X12_138 rfl (tg_44 hT) (pr_44_50 hR) ?_
      refine aw_iload_n hC dX12_taintsBy_52 rfl ?_
      refine aw_iaload_k (j := s) hC dX12_taintsBy_53 (tg_85 hT) (nI_clamp (by omega)) (vp_in_nI (by omega) (by decide)) ?_
      refine aw_iaload_k (j := (I 85 s).toNatClampNeg) hC dX12_taintsBy_54 (tg_46 hT) rfl hgk.1 ?_
      rw [show I 46 ((I 85 s).toNatClampNeg) = nI (gfld I s) from hgv.1]
      refine aw_ishr hC dX12_taintsBy_55 ?_
      refine aw_iconst (v := 1) hC dX12_taintsBy_56 (by decide) ?_
      refine aw_iand hC dX12_taintsBy_57 ?_
      refine aw_iconst (v := 1) hC dX12_taintsBy_58 (by decide) ?_
      refine aw_icmp_ne (tgt := 66) hC dX12_taintsBy_59 (by decide) (fun h52 => ?_) (fun h52 => ?_)
      · show AW X 0 0 66 [some (.ref 44), some (.int (nI s)), some (.int v), some (.int (tBoth I s)), none, none] [] T I J R
        refine aw_iconst (v := 0) hC dX12_taintsBy_66 (by decide) ?_
        refine aw_istore (L2 := [some (.ref 44), some (.int (nI s)), some (.int v), some (.int (tBoth I s)), some (.int 0), none]) hC dX12_taintsBy_67 (by decide) rfl ?_
        refine aw_aload_n hC dX12_taintsBy_69 rfl ?_
        refine aw_getR hC dX12_taintsBy_70 aF_X12_7 rfl (tg_44 hT) (pr_44_1 hR) ?_
        refine aw_iload_n hC dX12_taintsBy_73 rfl ?_
        refine aw_iaload_k (j := s) hC dX12_taintsBy_74 (tg_45 hT) (nI_clamp (by omega)) (vp_in_nI (by omega) (by decide)) ?_
        have hb53 := hS.kd s (by omega)
        rw [hb53.1]
        refine kX12_177 hC rfl (m_X12_isPair (nI (iN I 45 s))) dX12_taintsBy_75 rfl a_le a_le a_le a_le a_le rfl aPure_x (aPure_k ?_)
        show AW X 0 0 78 [some (.ref 44), some (.int (nI s)), some (.int v), some (.int (tBoth I s)), some (.int 0), none] [.int (bI (decide ((nI (iN I 45 s)) = 5 ∨ (nI (iN I 45 s)) = 6)))] T I J R
        refine aw_if_eq (tgt := 99) hC dX12_taintsBy_78 (by decide) (fun h54 => ?_) (fun h54 => ?_)
        · show AW X 0 0 99 [some (.ref 44), some (.int (nI s)), some (.int v), some (.int (tBoth I s)), some (.int 0), none] [] T I J R
          refine aw_iconst (v := 0) hC dX12_taintsBy_99 (by decide) ?_
          refine aw_istore (L2 := [some (.ref 44), some (.int (nI s)), some (.int v), some (.int (tBoth I s)), some (.int 0), some (.int 0)]) hC dX12_taintsBy_100 (by decide) rfl ?_
          refine aw_iload hC dX12_taintsBy_102 rfl ?_
          refine aw_if_ne (tgt := 112) hC dX12_taintsBy_104 (by decide) (fun h55 => absurd h55 (by decide)) (fun _ => ?_)
          show AW X 0 0 107 [some (.ref 44), some (.int (nI s)), some (.int v), some (.int (tBoth I s)), some (.int 0), some (.int 0)] [] T I J R
          refine aw_iload hC dX12_taintsBy_107 rfl ?_
          refine aw_if_eq (tgt := 116) hC dX12_taintsBy_109 (by decide) (fun _ => ?_) (fun h56 => absurd h56 (by decide))
          show AW X 0 0 116 [some (.ref 44), some (.int (nI s)), some (.int v), some (.int (tBoth I s)), some (.int 0), some (.int 0)] [] T I J R
          refine aw_iconst (v := 0) hC dX12_taintsBy_116 (by decide) ?_
          exact aw_ireturn hC hq rfl dX12_taintsBy_117 a_le a_le (aPure_i (tnV_n (by clear hC hq; rw [tnW_bt]; have e1 := both_hit (I := I) (s := s) (v := v) (hS.fd s hs).2 (fun q => hS.k56 s hs (isPr_n hS hs q)); simp only [bI_d0, bI_dn, bI_e0, bI_n0, decide_eq_false_iff_not, decide_eq_true_eq, Int32.not_lt, Int32.not_le, Classical.not_not] at *; grind)))
        · show AW X 0 0 81 [some (.ref 44), some (.int (nI s)), some (.int v), some (.int (tBoth I s)), some (.int 0), none] [] T I J R
          refine aw_iload_n hC dX12_taintsBy_81 rfl ?_
          refine aw_iload_n hC dX12_taintsBy_82 rfl ?_
          refine aw_iand hC dX12_taintsBy_83 ?_
          refine aw_if_eq (tgt := 99) hC dX12_taintsBy_84 (by decide) (fun h57 => ?_) (fun h57 => ?_)
          · show AW X 0 0 99 [some (.ref 44), some (.int (nI s)), some (.int v), some (.int (tBoth I s)), some (.int 0), none] [] T I J R
            refine aw_iconst (v := 0) hC dX12_taintsBy_99 (by decide) ?_
            refine aw_istore (L2 := [some (.ref 44), some (.int (nI s)), some (.int v), some (.int (tBoth I s)), some (.int 0), some (.int 0)]) hC dX12_taintsBy_100 (by decide) rfl ?_
            refine aw_iload hC dX12_taintsBy_102 rfl ?_
            refine aw_if_ne (tgt := 112) hC dX12_taintsBy_104 (by decide) (fun h58 => absurd h58 (by decide)) (fun _ => ?_)
            show AW X 0 0 107 [some (.ref 44), some (.int (nI s)), some (.int v), some (.int (tBoth I s)), some (.int 0), some (.int 0)] [] T I J R
            refine aw_iload hC dX12_taintsBy_107 rfl ?_
            refine aw_if_eq (tgt := 116) hC dX12_taintsBy_109 (by decide) (fun _ => ?_) (fun h59 => absurd h59 (by decide))
            show AW X 0 0 116 [some (.ref 44), some (.int (nI s)), some (.int v), some (.int (tBoth I s)), some (.int 0), some (.int 0)] [] T I J R
            refine aw_iconst (v := 0) hC dX12_taintsBy_116 (by decide) ?_
            exact aw_ireturn hC hq rfl dX12_taintsBy_117 a_le a_le (aPure_i (tnV_n (by clear hC hq; rw [tnW_bt]; have e1 := both_hit (I := I) (s := s) (v := v) (hS.fd s hs).2 (fun q => hS.k56 s hs (isPr_n hS hs q)); simp only [bI_d0, bI_dn, bI_e0, bI_n0, decide_eq_false_iff_not, decide_eq_true_eq, Int32.not_lt, Int32.not_le, Classical.not_not] at *; grind)))
          · show AW X 0 0 87 [some (.ref 44), some (.int (nI s)), some (.int v), some (.int (tBoth I s)), some (.int 0), none] [] T I J R
            refine aw_aload_n hC dX12_taintsBy_87 rfl ?_
            refine aw_iload_n hC dX12_taintsBy_88 rfl ?_
            refine kX12_305 hC rfl (m_X12_isOpen (I := I) (J := J) hT hR (s := s) (by omega) (hg _ (by omega))) dX12_taintsBy_89 (tg_44 hT) rfl a_le a_le a_le a_le a_le rfl aPure_x (aPure_k ?_)
            show AW X 0 0 92 [some (.ref 44), some (.int (nI s)), some (.int v), some (.int (tBoth I s)), some (.int 0), none] [.int (bI (decide (mOpen I J s)))] T I J R
            refine aw_if_eq (tgt := 99) hC dX12_taintsBy_92 (by decide) (fun h60 => ?_) (fun h60 => ?_)
            · show AW X 0 0 99 [some (.ref 44), some (.int (nI s)), some (.int v), some (.int (tBoth I s)), some (.int 0), none] [] T I J R
              refine aw_iconst (v := 0) hC dX12_taintsBy_99 (by decide) ?_
              refine aw_istore (L2 := [some (.ref 44), some (.int (nI s)), some (.int v), some (.int (tBoth I s)), some (.int 0), some (.int 0)]) hC dX12_taintsBy_100 (by decide) rfl ?_
              refine aw_iload hC dX12_taintsBy_102 rfl ?_
              refine aw_if_ne (tgt := 112) hC dX12_taintsBy_104 (by decide) (fun h61 => absurd h61 (by decide)) (fun _ => ?_)
              show AW X 0 0 107 [some (.ref 44), some (.int (nI s)), some (.int v), some (.int (tBoth I s)), some (.int 0), some (.int 0)] [] T I J R
              refine aw_iload hC dX12_taintsBy_107 rfl ?_
              refine aw_if_eq (tgt := 116) hC dX12_taintsBy_109 (by decide) (fun _ => ?_) (fun h62 => absurd h62 (by decide))
              show AW X 0 0 116 [some (.ref 44), some (.int (nI s)), some (.int v), some (.int (tBoth I s)), some (.int 0), some (.int 0)] [] T I J R
              refine aw_iconst (v := 0) hC dX12_taintsBy_116 (by decide) ?_
              exact aw_ireturn hC hq rfl dX12_taintsBy_117 a_le a_le (aPure_i (tnV_n (by clear hC hq; rw [tnW_bt]; have e1 := both_hit (I := I) (s := s) (v := v) (hS.fd s hs).2 (fun q => hS.k56 s hs (isPr_n hS hs q)); simp only [bI_d0, bI_dn, bI_e0, bI_n0, decide_eq_false_iff_not, decide_eq_true_eq, Int32.not_lt, Int32.not_le, Classical.not_not] at *; grind)))
            · show AW X 0 0 95 [some (.ref 44), some (.int (nI s)), some (.int v), some (.int (tBoth I s)), some (.int 0), none] [] T I J R
              refine aw_iconst (v := 1) hC dX12_taintsBy_95 (by decide) ?_
              refine aw_goto (tgt := 100) hC dX12_taintsBy_96 (by decide) ?_
              refine aw_istore (L2 := [some (.ref 44), some (.int (nI s)), some (.int v), some (.int (tBoth I s)), some (.int 0), some (.int 1)]) hC dX12_taintsBy_100 (by decide) rfl ?_
              refine aw_iload hC dX12_taintsBy_102 rfl ?_
              refine aw_if_ne (tgt := 112) hC dX12_taintsBy_104 (by decide) (fun h63 => absurd h63 (by decide)) (fun _ => ?_)
              show AW X 0 0 107 [some (.ref 44), some (.int (nI s)), some (.int v), some (.int (tBoth I s)), some (.int 0), some (.int 1)] [] T I J R
              refine aw_iload hC dX12_taintsBy_107 rfl ?_
              refine aw_if_eq (tgt := 116) hC dX12_taintsBy_109 (by decide) (fun h64 => absurd h64 (by decide)) (fun _ => ?_)
              show AW X 0 0 112 [some (.ref 44), some (.int (nI s)), some (.int v), some (.int (tBoth I s)), some (.int 0), some (.int 1)] [] T I J R
              refine aw_iload_n hC dX12_taintsBy_112 rfl ?_
              refine aw_goto (tgt := 117) hC dX12_taintsBy_113 (by decide) ?_
              exact aw_ireturn hC hq rfl dX12_taintsBy_117 a_le a_le (aPure_i (tnV_y (by clear hC hq; rw [tnW_bt]; have e1 := both_hit (I := I) (s := s) (v := v) (hS.fd s hs).2 (fun q => hS.k56 s hs (isPr_n hS hs q)); simp only [bI_d0, bI_dn, bI_e0, bI_n0, decide_eq_false_iff_not, decide_eq_true_eq, Int32.not_lt, Int32.not_le, Classical.not_not] at *; grind)))
      · show AW X 0 0 62 [some (.ref 44), some (.int (nI s)), some (.int v), some (.int (tBoth I s)), none, none] [] T I J R
        refine aw_iconst (v := 1) hC dX12_taintsBy_62 (by decide) ?_
        refine aw_goto (tgt := 67) hC dX12_taintsBy_63 (by decide) ?_
        refine aw_istore (L2 := [some (.ref 44), some (.int (nI s)), some (.int v), some (.int (tBoth I s)), some (.int 1), none]) hC dX12_taintsBy_67 (by decide) rfl ?_
        refine aw_aload_n hC dX12_taintsBy_69 rfl ?_
        refine aw_getR hC dX12_taintsBy_70 aF_X12_7 rfl (tg_44 hT) (pr_44_1 hR) ?_
        refine aw_iload_n hC dX12_taintsBy_73 rfl ?_
        refine aw_iaload_k (j := s) hC dX12_taintsBy_74 (tg_45 hT) (nI_clamp (by omega)) (vp_in_nI (by omega) (by decide)) ?_
        have hb65 := hS.kd s (by omega)
        rw [hb65.1]
        refine kX12_177 hC rfl (m_X12_isPair (nI (iN I 45 s))) dX12_taintsBy_75 rfl a_le a_le a_le a_le a_le rfl aPure_x (aPure_k ?_)
        show AW X 0 0 78 [some (.ref 44), some (.int (nI s)), some (.int v), some (.int (tBoth I s)), some (.int 1), none] [.int (bI (decide ((nI (iN I 45 s)) = 5 ∨ (nI (iN I 45 s)) = 6)))] T I J R
        refine aw_if_eq (tgt := 99) hC dX12_taintsBy_78 (by decide) (fun h66 => ?_) (fun h66 => ?_)
        · show AW X 0 0 99 [some (.ref 44), some (.int (nI s)), some (.int v), some (.int (tBoth I s)), some (.int 1), none] [] T I J R
          refine aw_iconst (v := 0) hC dX12_taintsBy_99 (by decide) ?_
          refine aw_istore (L2 := [some (.ref 44), some (.int (nI s)), some (.int v), some (.int (tBoth I s)), some (.int 1), some (.int 0)]) hC dX12_taintsBy_100 (by decide) rfl ?_
          refine aw_iload hC dX12_taintsBy_102 rfl ?_
          refine aw_if_ne (tgt := 112) hC dX12_taintsBy_104 (by decide) (fun _ => ?_) (fun h67 => absurd h67 (by decide))
          show AW X 0 0 112 [some (.ref 44), some (.int (nI s)), some (.int v), some (.int (tBoth I s)), some (.int 1), some (.int 0)] [] T I J R
          refine aw_iload_n hC dX12_taintsBy_112 rfl ?_
          refine aw_goto (tgt := 117) hC dX12_taintsBy_113 (by decide) ?_
          exact aw_ireturn hC hq rfl dX12_taintsBy_117 a_le a_le (aPure_i (tnV_y (by clear hC hq; rw [tnW_bt]; have e1 := both_hit (I := I) (s := s) (v := v) (hS.fd s hs).2 (fun q => hS.k56 s hs (isPr_n hS hs q)); simp only [bI_d0, bI_dn, bI_e0, bI_n0, decide_eq_false_iff_not, decide_eq_true_eq, Int32.not_lt, Int32.not_le, Classical.not_not] at *; grind)))
        · show AW X 0 0 81 [some (.ref 44), some (.int (nI s)), some (.int v), some (.int (tBoth I s)), some (.int 1), none] [] T I J R
          refine aw_iload_n hC dX12_taintsBy_81 rfl ?_
          refine aw_iload_n hC dX12_taintsBy_82 rfl ?_
          refine aw_iand hC dX12_taintsBy_83 ?_
          refine aw_if_eq (tgt := 99) hC dX12_taintsBy_84 (by decide) (fun h68 => ?_) (fun h68 => ?_)
          · show AW X 0 0 99 [some (.ref 44), some (.int (nI s)), some (.int v), some (.int (tBoth I s)), some (.int 1), none] [] T I J R
            refine aw_iconst (v := 0) hC dX12_taintsBy_99 (by decide) ?_
            refine aw_istore (L2 := [some (.ref 44), some (.int (nI s)), some (.int v), some (.int (tBoth I s)), some (.int 1), some (.int 0)]) hC dX12_taintsBy_100 (by decide) rfl ?_
            refine aw_iload hC dX12_taintsBy_102 rfl ?_
            refine aw_if_ne (tgt := 112) hC dX12_taintsBy_104 (by decide) (fun _ => ?_) (fun h69 => absurd h69 (by decide))
            show AW X 0 0 112 [some (.ref 44), some (.int (nI s)), some (.int v), some (.int (tBoth I s)), some (.int 1), some (.int 0)] [] T I J R
            refine aw_iload_n hC dX12_taintsBy_112 rfl ?_
            refine aw_goto (tgt := 117) hC dX12_taintsBy_113 (by decide) ?_
            exact aw_ireturn hC hq rfl dX12_taintsBy_117 a_le a_le (aPure_i (tnV_y (by clear hC hq; rw [tnW_bt]; have e1 := both_hit (I := I) (s := s) (v := v) (hS.fd s hs).2 (fun q => hS.k56 s hs (isPr_n hS hs q)); simp only [bI_d0, bI_dn, bI_e0, bI_n0, decide_eq_false_iff_not, decide_eq_true_eq, Int32.not_lt, Int32.not_le, Classical.not_not] at *; grind)))
          · show AW X 0 0 87 [some (.ref 44), some (.int (nI s)), some (.int v), some (.int (tBoth I s)), some (.int 1), none] [] T I J R
            refine aw_aload_n hC dX12_taintsBy_87 rfl ?_
            refine aw_iload_n hC dX12_taintsBy_88 rfl ?_
            refine kX12_305 hC rfl (m_X12_isOpen (I := I) (J := J) hT hR (s := s) (by omega) (hg _ (by omega))) dX12_taintsBy_89 (tg_44 hT) rfl a_le a_le a_le a_le a_le rfl aPure_x (aPure_k ?_)
            show AW X 0 0 92 [some (.ref 44), some (.int (nI s)), some (.int v), some (.int (tBoth I s)), some (.int 1), none] [.int (bI (decide (mOpen I J s)))] T I J R
            refine aw_if_eq (tgt := 99) hC dX12_taintsBy_92 (by decide) (fun h70 => ?_) (fun h70 => ?_)
            · show AW X 0 0 99 [some (.ref 44), some (.int (nI s)), some (.int v), some (.int (tBoth I s)), some (.int 1), none] [] T I J R
              refine aw_iconst (v := 0) hC dX12_taintsBy_99 (by decide) ?_
              refine aw_istore (L2 := [some (.ref 44), some (.int (nI s)), some (.int v), some (.int (tBoth I s)), some (.int 1), some (.int 0)]) hC dX12_taintsBy_100 (by decide) rfl ?_
              refine aw_iload hC dX12_taintsBy_102 rfl ?_
              refine aw_if_ne (tgt := 112) hC dX12_taintsBy_104 (by decide) (fun _ => ?_) (fun h71 => absurd h71 (by decide))
              show AW X 0 0 112 [some (.ref 44), some (.int (nI s)), some (.int v), some (.int (tBoth I s)), some (.int 1), some (.int 0)] [] T I J R
              refine aw_iload_n hC dX12_taintsBy_112 rfl ?_
              refine aw_goto (tgt := 117) hC dX12_taintsBy_113 (by decide) ?_
              exact aw_ireturn hC hq rfl dX12_taintsBy_117 a_le a_le (aPure_i (tnV_y (by clear hC hq; rw [tnW_bt]; have e1 := both_hit (I := I) (s := s) (v := v) (hS.fd s hs).2 (fun q => hS.k56 s hs (isPr_n hS hs q)); simp only [bI_d0, bI_dn, bI_e0, bI_n0, decide_eq_false_iff_not, decide_eq_true_eq, Int32.not_lt, Int32.not_le, Classical.not_not] at *; grind)))
            · show AW X 0 0 95 [some (.ref 44), some (.int (nI s)), some (.int v), some (.int (tBoth I s)), some (.int 1), none] [] T I J R
              refine aw_iconst (v := 1) hC dX12_taintsBy_95 (by decide) ?_
              refine aw_goto (tgt := 100) hC dX12_taintsBy_96 (by decide) ?_
              refine aw_istore (L2 := [some (.ref 44), some (.int (nI s)), some (.int v), some (.int (tBoth I s)), some (.int 1), some (.int 1)]) hC dX12_taintsBy_100 (by decide) rfl ?_
              refine aw_iload hC dX12_taintsBy_102 rfl ?_
              refine aw_if_ne (tgt := 112) hC dX12_taintsBy_104 (by decide) (fun _ => ?_) (fun h72 => absurd h72 (by decide))
              show AW X 0 0 112 [some (.ref 44), some (.int (nI s)), some (.int v), some (.int (tBoth I s)), some (.int 1), some (.int 1)] [] T I J R
              refine aw_iload_n hC dX12_taintsBy_112 rfl ?_
              refine aw_goto (tgt := 117) hC dX12_taintsBy_113 (by decide) ?_
              exact aw_ireturn hC hq rfl dX12_taintsBy_117 a_le a_le (aPure_i (tnV_y (by clear hC hq; rw [tnW_bt]; have e1 := both_hit (I := I) (s := s) (v := v) (hS.fd s hs).2 (fun q => hS.k56 s hs (isPr_n hS hs q)); simp only [bI_d0, bI_dn, bI_e0, bI_n0, decide_eq_false_iff_not, decide_eq_true_eq, Int32.not_lt, Int32.not_le, Classical.not_not] at *; grind)))
theorem TnI.skip {I : aI} {J : aJ} {n k : Nat} {v w : Int32} (h : TnI I J n k v w) (hc : tnS I J k (fun j => bt v j = true)) : TnI I J n (k + 1) v w := by
  have q := TnI.step (u := 0) h (fun j _ => b_0 j) (fun _ _ j hj => by rw [b_0] at hj; cases hj) (fun _ => hc)
  rwa [Int32.or_zero] at q
theorem SW.k7 {I : aI} {n s : Nat} (hS : SW I n) (hs : s < n) : I 45 s < 7 ↔ iN I 45 s < 7 := by
  have h := hS.kd s hs; rw [h.1]; exact nI_ltI (a := iN I 45 s) (b := 7) (by omega) (by omega)
theorem SW.kq {I : aI} {n s : Nat} (hS : SW I n) (hs : s < n) {b : Nat} (hb : b < 13) : I 45 s = nI b ↔ iN I 45 s = b := by
  have h := hS.kd s hs; rw [h.1]; exact nI_eq (by omega) (by omega)
theorem tn_b {I : aI} {J : aJ} {n s : Nat} {W : Nat → Prop} (hS : SW I n) (hs : s < n) (h11 : ¬ iN I 45 s = 11) (h : 7 ≤ iN I 45 s ∨ ¬ I 86 s = 0) : tnS I J s W := fun _ =>
  ⟨fun q => absurd ((hS.kq hs (b := 11) (by omega)).mp q) h11, fun q1 q2 => by rcases h with h | h; exact absurd ((hS.k7 hs).mp q1) (by omega); exact absurd q2 h⟩
theorem tn_11 {I : aI} {J : aJ} {n k : Nat} {v w : Int32} (hS : SW I n) (hk : k < n) (h : TnI I J n k v w) (h0 : ¬ I 84 k = 0) (h11 : iN I 45 k = 11) : TnI I J n (k + 1) v (w ||| iBit (nI (iN I 46 k))) := by
  have hf := (hS.fd k hk).2
  have e11 := (hS.kq hk (b := 11) (by omega)).mpr h11
  refine TnI.step h (fun j hj => ?_) (fun W hW j hj => ?_) (fun e _ => ⟨fun _ => ?_, fun q => absurd ((hS.k7 hk).mp q) (by omega)⟩)
  · by_cases c : j < 32
    · rw [bt_bit (by omega) c]; simp; omega
    · exact b_big (by omega)
  · have c : j < 32 := Nat.lt_of_not_le (fun c => by rw [b_big c] at hj; cases hj)
    rw [bt_bit (by omega) c] at hj
    have : j = iN I 46 k := by simpa using hj
    rw [this]; exact (hW k hk h0).1 e11
  · show bt v (iN I 46 k) = true
    rw [← e, b_or, bt_bit (by omega) (by omega)]; simp
theorem tn_7 {I : aI} {J : aJ} {n k : Nat} {v w : Int32} (hS : SW I n) (hk : k < n) (h : TnI I J n k v w) (h0 : ¬ I 84 k = 0) (h7 : iN I 45 k < 7) (h86 : I 86 k = 0) : TnI I J n (k + 1) v (w ||| tnV I J k w) := by
  have hf := (hS.fd k hk).2
  have hp : isPr I k → iN I 47 k < 10 := fun q => hS.k56 k hk (isPr_n hS hk q)
  have l7 := (hS.k7 hk).mpr h7
  refine TnI.step h (fun j hj => ?_) (fun W hW j hj => ?_) (fun e _ => ⟨fun q => absurd ((hS.kq hk (b := 11) (by omega)).mp q) (by omega), fun _ _ ht => ?_⟩)
  · unfold tnV; split
    · by_cases c : j < 32
      · rw [bt_both hf hp c]
        by_cases p : isPr I k
        · have := hp p; simp; exact ⟨by omega, fun _ => by omega⟩
        · simp [p]; omega
      · exact b_big (by omega)
    · exact b_0 j
  · have c : j < 32 := Nat.lt_of_not_le (fun c => by rw [b_big c] at hj; cases hj)
    unfold tnV at hj; split at hj
    · next ht =>
      have hW2 := (hW k hk h0).2 l7 h86 (ht.imp (fun q => ⟨q.1, h.2.1 W hW _ q.2⟩) (fun q => ⟨q.1, q.2.1.imp (h.2.1 W hW _) (h.2.1 W hW _), q.2.2⟩))
      rw [bt_both hf hp c] at hj
      rcases Bool.or_eq_true _ _ |>.mp hj with q | q
      · have : j = iN I 46 k := by simpa using q
        rw [this]; exact hW2.1
      · have : isPr I k ∧ j = iN I 47 k := by simpa using q
        rw [this.2]; exact hW2.2 this.1
    · rw [b_0] at hj; cases hj
  · have ew : w = v := b_ext fun i _ => by
      cases e2 : bt w i with
      | true => have := congrArg (fun x => bt x i) e; simp only [b_or, e2, Bool.true_or] at this; exact this
      | false => cases e3 : bt v i with
        | false => rfl
        | true => rw [h.2.2.1 i e3] at e2; cases e2
    have ev : tnV I J k w = tBoth I k := by rw [ew]; exact (tnV_y ht).symm
    rw [ev] at e
    refine ⟨?_, fun p => ?_⟩
    · show bt v (iN I 46 k) = true
      rw [← e, b_or, bt_both hf hp (by omega)]; simp
    · show bt v (iN I 47 k) = true
      rw [← e, b_or, bt_both hf hp (by have := hp p; omega)]; simp [p]
noncomputable def tnt (I : aI) (J : aJ) (n : Nat) : Int32 := @Classical.epsilon Int32 ⟨0⟩ (TnL I J n)
theorem tnt_eq {I : aI} {J : aJ} {n : Nat} {v : Int32} (h : TnL I J n v) : v = tnt I J n := TnL_uniq h (@Classical.epsilon_spec Int32 (TnL I J n) ⟨v, h⟩)
set_option maxRecDepth 100000 in
theorem m_X12_taints {T : List aT} {I : aI} {J : aJ} {R : aR} (hT : aPT T) (hR : aPR R) {n : Nat} (hS : SW I n) (hg : GOK I n) : MX12_taints 0 0 [.ref 44] T I J R (aPure (some (.int (tnt I J n))) T I J R) := by
  refine a_met (by decide +kernel) a_le (fun X hC hq => ?_)
  show AW X 0 0 0 [some (.ref 44), none, none, none] [] T I J R
  refine aw_iconst (v := 0) hC dX12_taints_0 (by decide) ?_
  refine aw_istore_n (L2 := [some (.ref 44), some (.int 0), none, none]) hC dX12_taints_1 rfl (by decide) rfl ?_
  refine aw_iconst (v := (-1)) hC dX12_taints_2 (by decide) ?_
  refine aw_istore_n (L2 := [some (.ref 44), some (.int 0), some (.int (-1)), none]) hC dX12_taints_3 rfl (by decide) rfl ?_
  refine aw_iload_n hC dX12_taints_4 rfl ?_
  refine aw_iload_n hC dX12_taints_5 rfl ?_
  refine aw_icmp_eq (tgt := 99) hC dX12_taints_6 (by decide) (fun h1 => absurd h1 (by decide)) (fun _ => ?_)
  show AW X 0 0 9 [some (.ref 44), some (.int 0), some (.int (-1)), none] [] T I J R
  have loopW : ∀ c (v : Int32), cB (bt v) 10 ≤ c → (∀ j, 10 ≤ j → bt v j = false) → (∀ W : Nat → Prop, TnC I J n W → ∀ j, bt v j = true → W j) → AW X 0 0 9 [some (.ref 44), some (.int v), none, none] [] T I J R := by
    refine upN (fun c ihW => ?_)
    intro v hc hhi hsnd
    refine aw_iload_n hC dX12_taints_9 rfl ?_
    refine aw_istore_n (L2 := [some (.ref 44), some (.int v), some (.int v), none]) hC dX12_taints_10 rfl (by decide) rfl ?_
    refine aw_iconst (v := 0) hC dX12_taints_11 (by decide) ?_
    refine aw_istore_n (L2 := [some (.ref 44), some (.int v), some (.int v), some (.int 0)]) hC dX12_taints_12 rfl (by decide) rfl ?_
    have loopI : ∀ k, k ≤ n → ∀ (w : Int32), TnI I J n k v w → AW X 0 0 13 [some (.ref 44), some (.int w), some (.int v), some (.int (nI k))] [] T I J R := by
      refine a_down n (fun k hkI ihI => ?_)
      intro w hI
      have hn9 := hS.n30
      refine aw_iload_n hC dX12_taints_13 rfl ?_
      refine aw_aload_n hC dX12_taints_14 rfl ?_
      refine aw_getI hC dX12_taints_15 aF_X12_183 rfl (tg_44 hT) ?_
      rw [hS.cnt]
      refine aw_icmp_ge (tgt := 96) hC dX12_taints_18 (by decide) (fun h2 => ?_) (fun h2 => ?_)
      · show AW X 0 0 96 [some (.ref 44), some (.int w), some (.int v), some (.int (nI k))] [] T I J R
        have h2n : n ≤ k := (nI_leI (a := n) (b := k) (by omega) (by omega)).mp h2
        refine aw_goto (tgt := 4) hC dX12_taints_96 (by decide) ?_
        have e9 : k = n := by omega
        subst e9
        refine aw_iload_n hC dX12_taints_4 rfl ?_
        refine aw_iload_n hC dX12_taints_5 rfl ?_
        refine aw_icmp_eq (tgt := 99) hC dX12_taints_6 (by decide) (fun h => ?_) (fun h => ?_)
        · refine aw_iload_n hC dX12_taints_99 rfl ?_
          exact aw_ireturn hC hq rfl dX12_taints_100 a_le a_le (aPure_i (tnt_eq (hI.fin h.symm)))
        · refine aw_forget 2 rfl ?_
          refine aw_forget 3 rfl ?_
          exact ihW _ (Nat.lt_of_lt_of_le (hI.lt h) hc) w (Nat.le_refl _) hI.1 hI.2.1
      · show AW X 0 0 21 [some (.ref 44), some (.int w), some (.int v), some (.int (nI k))] [] T I J R
        have h2n : ¬ n ≤ k := fun q9 => h2 ((nI_leI (a := n) (b := k) (by omega) (by omega)).mpr q9)
        refine aw_aload_n hC dX12_taints_21 rfl ?_
        refine aw_getR hC dX12_taints_22 aF_X12_135 rfl (tg_44 hT) (pr_44_49 hR) ?_
        refine aw_iload_n hC dX12_taints_25 rfl ?_
        refine aw_baload_k (j := k) hC dX12_taints_26 (tg_84 hT) (nI_clamp (by omega)) (vp_in_nI (by omega) (by decide)) ?_
        refine aw_if_eq (tgt := 52) hC dX12_taints_27 (by decide) (fun h3 => ?_) (fun h3 => ?_)
        · show AW X 0 0 52 [some (.ref 44), some (.int w), some (.int v), some (.int (nI k))] [] T I J R
          refine aw_aload_n hC dX12_taints_52 rfl ?_
          refine aw_getR hC dX12_taints_53 aF_X12_135 rfl (tg_44 hT) (pr_44_49 hR) ?_
          refine aw_iload_n hC dX12_taints_56 rfl ?_
          refine aw_baload_k (j := k) hC dX12_taints_57 (tg_84 hT) (nI_clamp (by omega)) (vp_in_nI (by omega) (by decide)) ?_
          refine aw_if_eq (tgt := 90) hC dX12_taints_58 (by decide) (fun h4 => ?_) (fun h4 => ?_)
          · show AW X 0 0 90 [some (.ref 44), some (.int w), some (.int v), some (.int (nI k))] [] T I J R
            refine aw_iinc (v := nI (k + 1)) (L2 := [some (.ref 44), some (.int w), some (.int v), some (.int (nI (k + 1)))]) hC dX12_taints_90 rfl (nI_inc _) (by decide) rfl ?_
            refine aw_goto (tgt := 13) hC dX12_taints_93 (by decide) ?_
            exact ihI (by omega) w (hI.skip (by first | exact tn_b hS (by omega) (by assumption) (Or.inl (by omega)) | exact tn_b hS (by omega) (by assumption) (Or.inr (by assumption)) | exact fun q => absurd (by assumption) q))
          · show AW X 0 0 61 [some (.ref 44), some (.int w), some (.int v), some (.int (nI k))] [] T I J R
            refine aw_aload_n hC dX12_taints_61 rfl ?_
            refine aw_getR hC dX12_taints_62 aF_X12_7 rfl (tg_44 hT) (pr_44_1 hR) ?_
            refine aw_iload_n hC dX12_taints_65 rfl ?_
            refine aw_iaload_k (j := k) hC dX12_taints_66 (tg_45 hT) (nI_clamp (by omega)) (vp_in_nI (by omega) (by decide)) ?_
            have hb5 := hS.kd k (by omega)
            rw [hb5.1]
            refine aw_bipush (v := 7) hC dX12_taints_67 (by decide) ?_
            refine aw_icmp_ge (tgt := 90) hC dX12_taints_69 (by decide) (fun h6 => ?_) (fun h6 => ?_)
            · show AW X 0 0 90 [some (.ref 44), some (.int w), some (.int v), some (.int (nI k))] [] T I J R
              have h6n : 7 ≤ (iN I 45 k) := (nI_leI (a := 7) (b := (iN I 45 k)) (by omega) (by omega)).mp h6
              refine aw_iinc (v := nI (k + 1)) (L2 := [some (.ref 44), some (.int w), some (.int v), some (.int (nI (k + 1)))]) hC dX12_taints_90 rfl (nI_inc _) (by decide) rfl ?_
              refine aw_goto (tgt := 13) hC dX12_taints_93 (by decide) ?_
              exact ihI (by omega) w (hI.skip (by first | exact tn_b hS (by omega) (by assumption) (Or.inl (by omega)) | exact tn_b hS (by omega) (by assumption) (Or.inr (by assumption)) | exact fun q => absurd (by assumption) q))
            · show AW X 0 0 72 [some (.ref 44), some (.int w), some (.int v), some (.int (nI k))] [] T I J R
              have h6n : ¬ 7 ≤ (iN I 45 k) := fun q9 => h6 ((nI_leI (a := 7) (b := (iN I 45 k)) (by omega) (by omega)).mpr q9)
              refine aw_aload_n hC dX12_taints_72 rfl ?_
              refine aw_getR hC dX12_taints_73 aF_X12_141 rfl (tg_44 hT) (pr_44_51 hR) ?_
              refine aw_iload_n hC dX12_taints_76 rfl ?_
              refine aw_iaload_k (j := k) hC dX12_taints_77 (tg_86 hT) (nI_clamp (by omega)) (vp_in_nI (by omega) (by decide)) ?_
              refine aw_if_ne (tgt := 90) hC dX12_taints_78 (by decide) (fun h7 => ?_) (fun h7 => ?_)
              · show AW X 0 0 90 [some (.ref 44), some (.int w), some (.int v), some (.int (nI k))] [] T I J R
                refine aw_iinc (v := nI (k + 1)) (L2 := [some (.ref 44), some (.int w), some (.int v), some (.int (nI (k + 1)))]) hC dX12_taints_90 rfl (nI_inc _) (by decide) rfl ?_
                refine aw_goto (tgt := 13) hC dX12_taints_93 (by decide) ?_
                exact ihI (by omega) w (hI.skip (by first | exact tn_b hS (by omega) (by assumption) (Or.inl (by omega)) | exact tn_b hS (by omega) (by assumption) (Or.inr (by assumption)) | exact fun q => absurd (by assumption) q))
              · show AW X 0 0 81 [some (.ref 44), some (.int w), some (.int v), some (.int (nI k))] [] T I J R
                refine aw_iload_n hC dX12_taints_81 rfl ?_
                refine aw_aload_n hC dX12_taints_82 rfl ?_
                refine aw_iload_n hC dX12_taints_83 rfl ?_
                refine aw_iload_n hC dX12_taints_84 rfl ?_
                refine kX12_301 hC rfl (m_X12_taintsBy (I := I) (J := J) hT hR (n := n) (s := k) hS (by omega) hg w) dX12_taints_85 (tg_44 hT) rfl a_le a_le a_le a_le a_le rfl aPure_x (aPure_k ?_)
                show AW X 0 0 88 [some (.ref 44), some (.int w), some (.int v), some (.int (nI k))] [.int (tnV I J k w), .int w] T I J R
                refine aw_ior hC dX12_taints_88 ?_
                refine aw_istore_n (L2 := [some (.ref 44), some (.int (w ||| (tnV I J k w))), some (.int v), some (.int (nI k))]) hC dX12_taints_89 rfl (by decide) rfl ?_
                refine aw_iinc (v := nI (k + 1)) (L2 := [some (.ref 44), some (.int (w ||| (tnV I J k w))), some (.int v), some (.int (nI (k + 1)))]) hC dX12_taints_90 rfl (nI_inc _) (by decide) rfl ?_
                refine aw_goto (tgt := 13) hC dX12_taints_93 (by decide) ?_
                exact ihI (by omega) _ (by first | exact tn_7 hS (by omega) hI (by assumption) (by omega) (by assumption) | (exfalso; first | omega | contradiction))
        · show AW X 0 0 30 [some (.ref 44), some (.int w), some (.int v), some (.int (nI k))] [] T I J R
          refine aw_aload_n hC dX12_taints_30 rfl ?_
          refine aw_getR hC dX12_taints_31 aF_X12_7 rfl (tg_44 hT) (pr_44_1 hR) ?_
          refine aw_iload_n hC dX12_taints_34 rfl ?_
          refine aw_iaload_k (j := k) hC dX12_taints_35 (tg_45 hT) (nI_clamp (by omega)) (vp_in_nI (by omega) (by decide)) ?_
          have hb8 := hS.kd k (by omega)
          rw [hb8.1]
          refine aw_bipush (v := 11) hC dX12_taints_36 (by decide) ?_
          refine aw_icmp_ne (tgt := 52) hC dX12_taints_38 (by decide) (fun h9 => ?_) (fun h9 => ?_)
          · show AW X 0 0 52 [some (.ref 44), some (.int w), some (.int v), some (.int (nI k))] [] T I J R
            have h9n : ¬ (iN I 45 k) = 11 := fun q9 => h9 ((nI_eq (a := (iN I 45 k)) (b := 11) (by omega) (by omega)).mpr q9)
            refine aw_aload_n hC dX12_taints_52 rfl ?_
            refine aw_getR hC dX12_taints_53 aF_X12_135 rfl (tg_44 hT) (pr_44_49 hR) ?_
            refine aw_iload_n hC dX12_taints_56 rfl ?_
            refine aw_baload_k (j := k) hC dX12_taints_57 (tg_84 hT) (nI_clamp (by omega)) (vp_in_nI (by omega) (by decide)) ?_
            refine aw_if_eq (tgt := 90) hC dX12_taints_58 (by decide) (fun h10 => ?_) (fun h10 => ?_)
            · show AW X 0 0 90 [some (.ref 44), some (.int w), some (.int v), some (.int (nI k))] [] T I J R
              refine aw_iinc (v := nI (k + 1)) (L2 := [some (.ref 44), some (.int w), some (.int v), some (.int (nI (k + 1)))]) hC dX12_taints_90 rfl (nI_inc _) (by decide) rfl ?_
              refine aw_goto (tgt := 13) hC dX12_taints_93 (by decide) ?_
              exact ihI (by omega) w (hI.skip (by first | exact tn_b hS (by omega) (by assumption) (Or.inl (by omega)) | exact tn_b hS (by omega) (by assumption) (Or.inr (by assumption)) | exact fun q => absurd (by assumption) q))
            · show AW X 0 0 61 [some (.ref 44), some (.int w), some (.int v), some (.int (nI k))] [] T I J R
              refine aw_aload_n hC dX12_taints_61 rfl ?_
              refine aw_getR hC dX12_taints_62 aF_X12_7 rfl (tg_44 hT) (pr_44_1 hR) ?_
              refine aw_iload_n hC dX12_taints_65 rfl ?_
              refine aw_iaload_k (j := k) hC dX12_taints_66 (tg_45 hT) (nI_clamp (by omega)) (vp_in_nI (by omega) (by decide)) ?_
              have hb11 := hS.kd k (by omega)
              rw [hb11.1]
              refine aw_bipush (v := 7) hC dX12_taints_67 (by decide) ?_
              refine aw_icmp_ge (tgt := 90) hC dX12_taints_69 (by decide) (fun h12 => ?_) (fun h12 => ?_)
              · show AW X 0 0 90 [some (.ref 44), some (.int w), some (.int v), some (.int (nI k))] [] T I J R
                have h12n : 7 ≤ (iN I 45 k) := (nI_leI (a := 7) (b := (iN I 45 k)) (by omega) (by omega)).mp h12
                refine aw_iinc (v := nI (k + 1)) (L2 := [some (.ref 44), some (.int w), some (.int v), some (.int (nI (k + 1)))]) hC dX12_taints_90 rfl (nI_inc _) (by decide) rfl ?_
                refine aw_goto (tgt := 13) hC dX12_taints_93 (by decide) ?_
                exact ihI (by omega) w (hI.skip (by first | exact tn_b hS (by omega) (by assumption) (Or.inl (by omega)) | exact tn_b hS (by omega) (by assumption) (Or.inr (by assumption)) | exact fun q => absurd (by assumption) q))
              · show AW X 0 0 72 [some (.ref 44), some (.int w), some (.int v), some (.int (nI k))] [] T I J R
                have h12n : ¬ 7 ≤ (iN I 45 k) := fun q9 => h12 ((nI_leI (a := 7) (b := (iN I 45 k)) (by omega) (by omega)).mpr q9)
                refine aw_aload_n hC dX12_taints_72 rfl ?_
                refine aw_getR hC dX12_taints_73 aF_X12_141 rfl (tg_44 hT) (pr_44_51 hR) ?_
                refine aw_iload_n hC dX12_taints_76 rfl ?_
                refine aw_iaload_k (j := k) hC dX12_taints_77 (tg_86 hT) (nI_clamp (by omega)) (vp_in_nI (by omega) (by decide)) ?_
                refine aw_if_ne (tgt := 90) hC dX12_taints_78 (by decide) (fun h13 => ?_) (fun h13 => ?_)
                · show AW X 0 0 90 [some (.ref 44), some (.int w), some (.int v), some (.int (nI k))] [] T I J R
                  refine aw_iinc (v := nI (k + 1)) (L2 := [some (.ref 44), some (.int w), some (.int v), some (.int (nI (k + 1)))]) hC dX12_taints_90 rfl (nI_inc _) (by decide) rfl ?_
                  refine aw_goto (tgt := 13) hC dX12_taints_93 (by decide) ?_
                  exact ihI (by omega) w (hI.skip (by first | exact tn_b hS (by omega) (by assumption) (Or.inl (by omega)) | exact tn_b hS (by omega) (by assumption) (Or.inr (by assumption)) | exact fun q => absurd (by assumption) q))
                · show AW X 0 0 81 [some (.ref 44), some (.int w), some (.int v), some (.int (nI k))] [] T I J R
                  refine aw_iload_n hC dX12_taints_81 rfl ?_
                  refine aw_aload_n hC dX12_taints_82 rfl ?_
                  refine aw_iload_n hC dX12_taints_83 rfl ?_
                  refine aw_iload_n hC dX12_taints_84 rfl ?_
                  refine kX12_301 hC rfl (m_X12_taintsBy (I := I) (J := J) hT hR (n := n) (s := k) hS (by omega) hg w) dX12_taints_85 (tg_44 hT) rfl a_le a_le a_le a_le a_le rfl aPure_x (aPure_k ?_)
                  show AW X 0 0 88 [some (.ref 44), some (.int w), some (.int v), some (.int (nI k))] [.int (tnV I J k w), .int w] T I J R
                  refine aw_ior hC dX12_taints_88 ?_
                  refine aw_istore_n (L2 := [some (.ref 44), some (.int (w ||| (tnV I J k w))), some (.int v), some (.int (nI k))]) hC dX12_taints_89 rfl (by decide) rfl ?_
                  refine aw_iinc (v := nI (k + 1)) (L2 := [some (.ref 44), some (.int (w ||| (tnV I J k w))), some (.int v), some (.int (nI (k + 1)))]) hC dX12_taints_90 rfl (nI_inc _) (by decide) rfl ?_
                  refine aw_goto (tgt := 13) hC dX12_taints_93 (by decide) ?_
                  exact ihI (by omega) _ (by first | exact tn_7 hS (by omega) hI (by assumption) (by omega) (by assumption) | (exfalso; first | omega | contradiction))
          · show AW X 0 0 41 [some (.ref 44), some (.int w), some (.int v), some (.int (nI k))] [] T I J R
            have h9n : (iN I 45 k) = 11 := (nI_eq (a := (iN I 45 k)) (b := 11) (by omega) (by omega)).mp h9
            refine aw_iload_n hC dX12_taints_41 rfl ?_
            refine aw_iconst (v := 1) hC dX12_taints_42 (by decide) ?_
            refine aw_aload_n hC dX12_taints_43 rfl ?_
            refine aw_getR hC dX12_taints_44 aF_X12_13 rfl (tg_44 hT) (pr_44_2 hR) ?_
            refine aw_iload_n hC dX12_taints_47 rfl ?_
            refine aw_iaload_k (j := k) hC dX12_taints_48 (tg_46 hT) (nI_clamp (by omega)) (vp_in_nI (by omega) (by decide)) ?_
            have hb14 := hS.fd k (by omega)
            rw [hb14.1]
            refine aw_ishl hC dX12_taints_49 ?_
            refine aw_ior hC dX12_taints_50 ?_
            refine aw_istore_n (L2 := [some (.ref 44), some (.int (w ||| (1 <<< ((nI (iN I 46 k)) &&& 31)))), some (.int v), some (.int (nI k))]) hC dX12_taints_51 rfl (by decide) rfl ?_
            refine aw_aload_n hC dX12_taints_52 rfl ?_
            refine aw_getR hC dX12_taints_53 aF_X12_135 rfl (tg_44 hT) (pr_44_49 hR) ?_
            refine aw_iload_n hC dX12_taints_56 rfl ?_
            refine aw_baload_k (j := k) hC dX12_taints_57 (tg_84 hT) (nI_clamp (by omega)) (vp_in_nI (by omega) (by decide)) ?_
            refine aw_if_eq (tgt := 90) hC dX12_taints_58 (by decide) (fun h15 => ?_) (fun h15 => ?_)
            · show AW X 0 0 90 [some (.ref 44), some (.int (w ||| (1 <<< ((nI (iN I 46 k)) &&& 31)))), some (.int v), some (.int (nI k))] [] T I J R
              refine aw_iinc (v := nI (k + 1)) (L2 := [some (.ref 44), some (.int (w ||| (1 <<< ((nI (iN I 46 k)) &&& 31)))), some (.int v), some (.int (nI (k + 1)))]) hC dX12_taints_90 rfl (nI_inc _) (by decide) rfl ?_
              refine aw_goto (tgt := 13) hC dX12_taints_93 (by decide) ?_
              exact ihI (by omega) _ (tn_11 hS (by omega) hI (by assumption) (by omega))
            · show AW X 0 0 61 [some (.ref 44), some (.int (w ||| (1 <<< ((nI (iN I 46 k)) &&& 31)))), some (.int v), some (.int (nI k))] [] T I J R
              refine aw_aload_n hC dX12_taints_61 rfl ?_
              refine aw_getR hC dX12_taints_62 aF_X12_7 rfl (tg_44 hT) (pr_44_1 hR) ?_
              refine aw_iload_n hC dX12_taints_65 rfl ?_
              refine aw_iaload_k (j := k) hC dX12_taints_66 (tg_45 hT) (nI_clamp (by omega)) (vp_in_nI (by omega) (by decide)) ?_
              have hb16 := hS.kd k (by omega)
              rw [hb16.1]
              refine aw_bipush (v := 7) hC dX12_taints_67 (by decide) ?_
              refine aw_icmp_ge (tgt := 90) hC dX12_taints_69 (by decide) (fun h17 => ?_) (fun h17 => ?_)
              · show AW X 0 0 90 [some (.ref 44), some (.int (w ||| (1 <<< ((nI (iN I 46 k)) &&& 31)))), some (.int v), some (.int (nI k))] [] T I J R
                have h17n : 7 ≤ (iN I 45 k) := (nI_leI (a := 7) (b := (iN I 45 k)) (by omega) (by omega)).mp h17
                refine aw_iinc (v := nI (k + 1)) (L2 := [some (.ref 44), some (.int (w ||| (1 <<< ((nI (iN I 46 k)) &&& 31)))), some (.int v), some (.int (nI (k + 1)))]) hC dX12_taints_90 rfl (nI_inc _) (by decide) rfl ?_
                refine aw_goto (tgt := 13) hC dX12_taints_93 (by decide) ?_
                exact ihI (by omega) _ (tn_11 hS (by omega) hI (by assumption) (by omega))
              · show AW X 0 0 72 [some (.ref 44), some (.int (w ||| (1 <<< ((nI (iN I 46 k)) &&& 31)))), some (.int v), some (.int (nI k))] [] T I J R
                have h17n : ¬ 7 ≤ (iN I 45 k) := fun q9 => h17 ((nI_leI (a := 7) (b := (iN I 45 k)) (by omega) (by omega)).mpr q9)
                refine aw_aload_n hC dX12_taints_72 rfl ?_
                refine aw_getR hC dX12_taints_73 aF_X12_141 rfl (tg_44 hT) (pr_44_51 hR) ?_
                refine aw_iload_n hC dX12_taints_76 rfl ?_
                refine aw_iaload_k (j := k) hC dX12_taints_77 (tg_86 hT) (nI_clamp (by omega)) (vp_in_nI (by omega) (by decide)) ?_
                refine aw_if_ne (tgt := 90) hC dX12_taints_78 (by decide) (fun h18 => ?_) (fun h18 => ?_)
                · show AW X 0 0 90 [some (.ref 44), some (.int (w ||| (1 <<< ((nI (iN I 46 k)) &&& 31)))), some (.int v), some (.int (nI k))] [] T I J R
                  refine aw_iinc (v := nI (k + 1)) (L2 := [some (.ref 44), some (.int (w ||| (1 <<< ((nI (iN I 46 k)) &&& 31)))), some (.int v), some (.int (nI (k + 1)))]) hC dX12_taints_90 rfl (nI_inc _) (by decide) rfl ?_
                  refine aw_goto (tgt := 13) hC dX12_taints_93 (by decide) ?_
                  exact ihI (by omega) _ (tn_11 hS (by omega) hI (by assumption) (by omega))
                · show AW X 0 0 81 [some (.ref 44), some (.int (w ||| (1 <<< ((nI (iN I 46 k)) &&& 31)))), some (.int v), some (.int (nI k))] [] T I J R
                  refine aw_iload_n hC dX12_taints_81 rfl ?_
                  refine aw_aload_n hC dX12_taints_82 rfl ?_
                  refine aw_iload_n hC dX12_taints_83 rfl ?_
                  refine aw_iload_n hC dX12_taints_84 rfl ?_
                  refine kX12_301 hC rfl (m_X12_taintsBy (I := I) (J := J) hT hR (n := n) (s := k) hS (by omega) hg (w ||| (1 <<< ((nI (iN I 46 k)) &&& 31)))) dX12_taints_85 (tg_44 hT) rfl a_le a_le a_le a_le a_le rfl aPure_x (aPure_k ?_)
                  show AW X 0 0 88 [some (.ref 44), some (.int (w ||| (1 <<< ((nI (iN I 46 k)) &&& 31)))), some (.int v), some (.int (nI k))] [.int (tnV I J k (w ||| (1 <<< ((nI (iN I 46 k)) &&& 31)))), .int (w ||| (1 <<< ((nI (iN I 46 k)) &&& 31)))] T I J R
                  refine aw_ior hC dX12_taints_88 ?_
                  refine aw_istore_n (L2 := [some (.ref 44), some (.int ((w ||| (1 <<< ((nI (iN I 46 k)) &&& 31))) ||| (tnV I J k (w ||| (1 <<< ((nI (iN I 46 k)) &&& 31)))))), some (.int v), some (.int (nI k))]) hC dX12_taints_89 rfl (by decide) rfl ?_
                  refine aw_iinc (v := nI (k + 1)) (L2 := [some (.ref 44), some (.int ((w ||| (1 <<< ((nI (iN I 46 k)) &&& 31))) ||| (tnV I J k (w ||| (1 <<< ((nI (iN I 46 k)) &&& 31)))))), some (.int v), some (.int (nI (k + 1)))]) hC dX12_taints_90 rfl (nI_inc _) (by decide) rfl ?_
                  refine aw_goto (tgt := 13) hC dX12_taints_93 (by decide) ?_
                  exact ihI (by omega) _ (by first | exact tn_7 hS (by omega) hI (by assumption) (by omega) (by assumption) | (exfalso; first | omega | contradiction))
    exact loopI 0 (Nat.zero_le _) v (TnI.start hhi hsnd)
  refine aw_forget 2 (L2 := [some (.ref 44), some (.int 0), none, none]) rfl ?_
  exact loopW 10 0 (cB_le _ _) (fun j _ => b_0 j) (fun _ _ j hj => by rw [b_0] at hj; cases hj)
theorem SolP.sw {I I2 : aI} {J J2 : aJ} {n : Nat} (h : SolP I I2 J J2 n) (g : SW I n) : SW I2 n :=
  SW_cg (h.f44 (by decide) (by decide)) (h.fr 45 (by decide)) (h.fr 46 (by decide)) (h.fr 47 (by decide)) (h.fr 48 (by decide)) (h.fr 49 (by decide)) (h.fr 50 (by decide)) (h.fr 51 (by decide)) (h.fr 53 (by decide)) g
set_option maxRecDepth 100000 in
theorem m_X12_tainted {T : List aT} {I : aI} {J : aJ} {R : aR} (hT : aPT T) (hR : aPR R) {n : Nat} (hS : SW I n) (hZ : Zr J) : MX12_tainted 0 0 [.ref 44] T I J R (aRel (fun I2 J2 => some (.int (tnt I2 J2 n))) (fun I2 J2 => SolP (a_u I 44 61 0) I2 J J2 n) T R) := by
  refine a_met (by decide +kernel) a_le (fun X hC hq => ?_)
  show AW X 0 0 0 [some (.ref 44)] [] T I J R
  refine aw_aload_n hC dX12_tainted_0 rfl ?_
  refine aw_iconst (v := 0) hC dX12_tainted_1 (by decide) ?_
  refine aw_putI hC dX12_tainted_2 aF_X12_166 rfl rfl (tg_44 hT) ?_
  refine aw_aload_n hC dX12_tainted_5 rfl ?_
  refine kX12_276 hC rfl (m_X12_solves (I := a_u I 44 61 0) (J := J) (n := n) hT hR (by first | exact hS | exact hS.th) hZ) dX12_tainted_6 (tg_44 hT) rfl a_le a_le a_le a_le a_le rfl aRel_x (aRel_k (fun I2 J2 hQ => ?_))
  have hSol : SolP _ _ _ _ _ := hQ
  show AW X 0 0 9 [some (.ref 44)] [] T I2 J2 R
  refine aw_aload_n hC dX12_tainted_9 rfl ?_
  refine kX12_308 hC rfl (m_X12_taints (I := I2) (J := J2) hT hR (n := n) (SolP.sw hSol hS.th) (SolP.gok hSol hS.th)) dX12_tainted_10 (tg_44 hT) rfl a_le a_le a_le a_le a_le rfl aPure_x (aPure_k ?_)
  show AW X 0 0 13 [some (.ref 44)] [.int (tnt I2 J2 n)] T I2 J2 R
  exact aw_ireturn hC hq rfl dX12_tainted_13 a_le a_le ⟨rfl, rfl, rfl, hSol⟩
