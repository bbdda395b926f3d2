theorem sUpd_in {S S' : Nat → Int64} {f j : Nat} {v v' : Int64} (h1 : S f = S' f) (h2 : S j = S' j) (hv : v = v') : sUpd S f v j = sUpd S' f v' j := by
  unfold sUpd; rw [h1, h2, hv]
/-- a statement is about this field -/
abbrev tch (m : aI) (s j : Nat) : Prop := j = iN m 46 s ∨ (isPr m s ∧ j = iN m 47 s)
theorem nBy_in {m : aI} {s j : Nat} {S S' : Nat → Int64} (h : ∀ i, tch m s i → S i = S' i) (hj : tch m s j) : nBy m s S j = nBy m s S' j := by
  have h1 : S (iN m 46 s) = S' (iN m 46 s) := h _ (Or.inl rfl)
  have h0 : S j = S' j := h j hj
  unfold nBy
  split; · exact sUpd_in h1 h0 rfl
  split; · exact sUpd_in h1 h0 rfl
  split; · exact sUpd_in h1 h0 rfl
  split; · exact sUpd_in h1 h0 rfl
  split
  · next e =>
    have h2 : S (iN m 47 s) = S' (iN m 47 s) := h _ (Or.inr ⟨Or.inl e, rfl⟩)
    rw [h2]
    exact sUpd_in (sUpd_in h1 h2 rfl) (sUpd_in h1 h0 rfl) (by rw [sUpd_in h1 h1 rfl])
  split
  · next e =>
    have h2 : S (iN m 47 s) = S' (iN m 47 s) := h _ (Or.inr ⟨Or.inr e, rfl⟩)
    rw [h2]
    exact sUpd_in (sUpd_in h1 h2 rfl) (sUpd_in h1 h0 rfl) (by rw [sUpd_in h1 h1 rfl])
  exact h0
theorem nBy_o {m : aI} {s j : Nat} {S : Nat → Int64} (h : ¬ tch m s j) : nBy m s S j = S j := nBy_out (fun e => h (Or.inl e)) (fun p e => h (Or.inr ⟨p, e⟩))
/-- these statements leave every field something -/
def FS (m : aI) (n : Nat) (q : Nat → Bool) : Prop := ∃ S, FixA m n q full S ∧ anyB (fun j => decide (S j = 0)) 10 = false
theorem FS.no {m : aI} {n : Nat} {q : Nat → Bool} (h : FS m n q) : cfl m n q = false := by
  obtain ⟨S, h1, h2⟩ := h
  rw [← cfl_eq h1]; exact h2
theorem FixA_q {m : aI} {n : Nat} {q q' : Nat → Bool} {S0 S : Nat → Int64} (e : ∀ s, s < n → q s = true → q' s = true ∨ nBy m s = id) (e' : ∀ s, s < n → q' s = true → q s = true) (h : FixA m n q' S0 S) : FixA m n q S0 S :=
  ⟨h.1, fun s hs hq => (e s hs hq).elim (fun z => h.2.1 s hs z) (fun z => by rw [z]; rfl), fun T hT g => h.2.2 T hT (fun s hs hq => g s hs (e' s hs hq))⟩
theorem nBy_4 {m : aI} {s : Nat} (h : m 45 s = 4) : nBy m s = id := by
  funext S
  unfold nBy
  rw [if_neg (by rw [h]; decide), if_neg (by rw [h]; decide), if_neg (by rw [h]; decide), if_neg (by rw [h]; decide), if_neg (by rw [h]; decide), if_neg (by rw [h]; decide)]; rfl
theorem FS.cg {m : aI} {n : Nat} {q q' : Nat → Bool} (e : ∀ s, s < n → q s = true → q' s = true ∨ nBy m s = id) (e' : ∀ s, s < n → q' s = true → q s = true) (h : FS m n q') : FS m n q := by
  obtain ⟨S, h1, h2⟩ := h
  exact ⟨S, FixA_q e e' h1, h2⟩
theorem anyB_f {p : Nat → Bool} {n : Nat} : anyB p n = false ↔ ∀ j, j < n → p j = false := by
  constructor
  · intro h j hj
    cases e : p j with
    | false => rfl
    | true => rw [anyB_iff.mpr ⟨j, hj, e⟩] at h; cases h
  · intro h
    cases e : anyB p n with
    | false => rfl
    | true => obtain ⟨j, hj, q⟩ := anyB_iff.mp e; rw [h j hj] at q; cases q
/-- statements without a common field -/
theorem FS.merge {m : aI} {n : Nat} {q q1 q2 : Nat → Bool} (e : ∀ s, s < n → q s = true → q1 s = true ∨ q2 s = true) (e1 : ∀ s, s < n → q1 s = true → q s = true) (e2 : ∀ s, s < n → q2 s = true → q s = true)
    (dj : ∀ s t, s < n → t < n → q1 s = true → q2 t = true → ∀ f, tch m s f → ¬ tch m t f) (h1 : FS m n q1) (h2 : FS m n q2) : FS m n q := by
  obtain ⟨S1, a1, a2⟩ := h1
  obtain ⟨S2, b1, b2⟩ := h2
  classical
  refine ⟨fun j => if ∃ s, s < n ∧ q1 s = true ∧ tch m s j then S1 j else S2 j, ⟨fun j => ?_, fun s hs hq => ?_, fun T hT g => ?_⟩, ?_⟩
  · dsimp only; split
    · exact a1.1 j
    · exact b1.1 j
  · funext j
    by_cases c : tch m s j
    · rcases e s hs hq with z | z
      · rw [nBy_in (S' := S1) (fun i hi => if_pos ⟨s, hs, z, hi⟩) c, a1.2.1 s hs z, if_pos ⟨s, hs, z, c⟩]
      · have no : ∀ i, tch m s i → ¬ ∃ t, t < n ∧ q1 t = true ∧ tch m t i := fun i hi ⟨t, ht, h3, h4⟩ => dj t s ht hs h3 z i h4 hi
        rw [nBy_in (S' := S2) (fun i hi => if_neg (no i hi)) c, b1.2.1 s hs z, if_neg (no j c)]
    · exact nBy_o c
  · have t1 := a1.2.2 T hT (fun s hs hq => g s hs (e1 s hs hq))
    have t2 := b1.2.2 T hT (fun s hs hq => g s hs (e2 s hs hq))
    intro j
    dsimp only; split
    · exact t1 j
    · exact t2 j
  · rw [anyB_f] at a2 b2 ⊢
    intro j hj
    dsimp only; split
    · exact a2 j hj
    · exact b2 j hj
abbrev q3 (a b c : Nat) : Nat → Bool := fun s => decide (s = a) || decide (s = b) || decide (s = c)
theorem q3_iff {a b c s : Nat} : q3 a b c s = true ↔ s = a ∨ s = b ∨ s = c := by simp only [q3, Bool.or_eq_true, decide_eq_true_eq, or_assoc]
theorem n3_f {m : aI} {a b c : Nat} {S : Nat → Int64} (h : ((nCh m a S || nCh m b (nBy m a S)) || nCh m c (nBy m b (nBy m a S))) = false) : nBy m a S = S ∧ nBy m b S = S ∧ nBy m c S = S := by
  simp only [Bool.or_eq_false_iff] at h
  have h1 := nCh_f h.1.1
  have h2 := nCh_f h.1.2
  have h3 := nCh_f h.2
  rw [h1] at h2 h3
  rw [h2] at h3
  exact ⟨h1, h2, h3⟩
theorem n3_t {m : aI} {n a b c : Nat} {S : Nat → Int64} (hS : SW m n) (ha : a < n) (hb : b < n) (hc : c < n) (h : ((nCh m a S || nCh m b (nBy m a S)) || nCh m c (nBy m b (nBy m a S))) = true) : sumC (nBy m c (nBy m b (nBy m a S))) 10 < sumC S 10 := by
  have l1 := sumC_mono (nBy_le m a S) 10
  have l2 := sumC_mono (nBy_le m b (nBy m a S)) 10
  have l3 := sumC_mono (nBy_le m c (nBy m b (nBy m a S))) 10
  simp only [Bool.or_eq_true] at h
  rcases h with (h | h) | h
  · obtain ⟨j, hj, hne⟩ := nCh_t hS ha h
    have := sumC_lt (nBy_le m a S) hne 10 hj; omega
  · obtain ⟨j, hj, hne⟩ := nCh_t hS hb h
    have := sumC_lt (nBy_le m b (nBy m a S)) hne 10 hj; omega
  · obtain ⟨j, hj, hne⟩ := nCh_t hS hc h
    have := sumC_lt (nBy_le m c (nBy m b (nBy m a S))) hne 10 hj; omega
theorem n3_g {m : aI} {a b c : Nat} {S T : Nat → Int64} (h : SLe T S) (ha : nBy m a T = T) (hb : nBy m b T = T) (hc : nBy m c T = T) : SLe T (nBy m c (nBy m b (nBy m a S))) := by
  have h1 := nBy_mono m a h
  rw [ha] at h1
  have h2 := nBy_mono m b h1
  rw [hb] at h2
  have h3 := nBy_mono m c h2
  rw [hc] at h3
  exact h3
/-- the suspects: c of them, l i the number of the i-th -/
def SUS (I : aI) (R : aR) (m : aI) (P : Nat → Int64) (n : Nat) (sq : Nat → Nat) (k c : Nat) (l : Nat → Nat) : Prop :=
  I 8 10 = nI c ∧ c ≤ k ∧ (∀ i, i < c → l i < k ∧ cOn m P (l i) ∧ R 16 i = some (sq (l i)) ∧ I 17 i = iBit (nI (l i)) ∧ I 18 i = tBoth m (l i)) ∧ (∀ i j, i < j → j < c → l i < l j) ∧ ∀ s, s < k → cOn m P s → ∃ i, i < c ∧ l i = s
theorem SUS.no {I : aI} {R : aR} {m : aI} {P : Nat → Int64} {n k c : Nat} {sq l : Nat → Nat} (h : SUS I R m P n sq k c l) (hn : ¬ cOn m P k) : SUS I R m P n sq (k + 1) c l :=
  ⟨h.1, by have := h.2.1; omega, fun i hi => ⟨by have := (h.2.2.1 i hi).1; omega, (h.2.2.1 i hi).2⟩, h.2.2.2.1, fun s hs hc => by
    by_cases e : s = k
    · rw [e] at hc; exact absurd hc hn
    · exact h.2.2.2.2 s (by omega) hc⟩
theorem SUS.ys {I : aI} {R : aR} {m : aI} {P : Nat → Int64} {n k c : Nat} {sq l : Nat → Nat} (h : SUS I R m P n sq k c l) (hk : k < 30) (hn : cOn m P k) : SUS (a_u (a_u (a_u I 17 c (iBit (nI k))) 18 c (tBoth m k)) 8 10 (nI (c + 1))) (a_u R 16 c (some (sq k))) m P n sq (k + 1) (c + 1) (fun i => if i = c then k else l i) := by
  refine ⟨a_u_self, by have := h.2.1; omega, fun i hi => ?_, fun i j hij hj => ?_, fun s hs hc => ?_⟩
  · by_cases e : i = c
    · simp only [e, if_true]
      exact ⟨by omega, hn, a_u_self, by rw [a_u_row (by decide), a_u_row (by decide), a_u_self], by rw [a_u_row (by decide), a_u_self]⟩
    · obtain ⟨h1, h2, h3, h4, h5⟩ := h.2.2.1 i (by omega)
      simp only [e, if_false]
      exact ⟨by omega, h2, by rw [a_u_ne (fun q => e q.2)]; exact h3, by rw [a_u_row (by decide), a_u_row (by decide), a_u_ne (fun q => e q.2)]; exact h4, by rw [a_u_row (by decide), a_u_ne (fun q => e q.2)]; exact h5⟩
  · have e : i ≠ c := by omega
    simp only [e, if_false]
    by_cases f : j = c
    · simp only [f, if_true]; exact (h.2.2.1 i (by omega)).1
    · simp only [f, if_false]; exact h.2.2.2.1 i j hij (by omega)
  · by_cases e : s = k
    · exact ⟨c, by omega, by simp only [if_true]; exact e.symm⟩
    · obtain ⟨i, h1, h2⟩ := h.2.2.2.2 s (by omega) hc
      refine ⟨i, by omega, ?_⟩
      have f : i ≠ c := by omega
      simp only [f, if_false]; exact h2
abbrev SUF (I I2 : aI) : Prop := ∀ a p, a ≠ 17 → a ≠ 18 → ¬ (a = 8 ∧ p = 10) → I2 a p = I a p
theorem a_refs_no16 : ∀ q ∈ a_refs, q.1 ≠ 16 := by decide +kernel
theorem join_iff {m : aI} {n a b : Nat} (hS : SW m n) (ha : a < n) (hb : b < n) (h : tBoth m a &&& tBoth m b = 0) : ∀ f, tch m a f → ¬ tch m b f := fun f u v => by
  have h10 : f < 10 := by
    rcases u with e | ⟨p, e⟩
    · rw [e]; exact (hS.fd a ha).2
    · rw [e]; exact hS.k56 a ha (isPr_n hS ha p)
  have q := congrArg (fun x => bt x f) h
  simp only [b_and, b_0] at q
  rw [bt_both (hS.fd a ha).2 (fun p => hS.k56 a ha (isPr_n hS ha p)) (by omega), bt_both (hS.fd b hb).2 (fun p => hS.k56 b hb (isPr_n hS hb p)) (by omega)] at q
  have u2 : (decide (f = iN m 46 a) || (decide (isPr m a) && decide (f = iN m 47 a))) = true := by simp only [Bool.or_eq_true, Bool.and_eq_true, decide_eq_true_eq]; exact u
  have v2 : (decide (f = iN m 46 b) || (decide (isPr m b) && decide (f = iN m 47 b))) = true := by simp only [Bool.or_eq_true, Bool.and_eq_true, decide_eq_true_eq]; exact v
  rw [u2, v2] at q; cases q
set_option maxRecDepth 100000 in
theorem m_X10_isJoined {T : List aT} {I : aI} {J : aJ} {R : aR} (hT : aPT T) (hR : aPR R) {i j : Nat} (hi : i < 30) (hj : j < 30) : MX10_isJoined 0 0 [.ref 8, .int (nI i), .int (nI j)] T I J R (aPure (some (.int (bI (decide (I 18 i &&& I 18 j ≠ 0))))) T I J R) := by
  refine a_met (by decide +kernel) a_le (fun X hC hq => ?_)
  show AW X 0 0 0 [some (.ref 8), some (.int (nI i)), some (.int (nI j))] [] T I J R
  refine aw_aload_n hC dX10_isJoined_0 rfl ?_
  refine aw_getR hC dX10_isJoined_1 aF_X10_37 rfl (tg_8 hT) (pr_8_9 hR) ?_
  refine aw_iload_n hC dX10_isJoined_4 rfl ?_
  refine aw_iaload_k (j := i) hC dX10_isJoined_5 (tg_18 hT) (nI_clamp (by omega)) (vp_in_nI (by omega) (by decide)) ?_
  refine aw_aload_n hC dX10_isJoined_6 rfl ?_
  refine aw_getR hC dX10_isJoined_7 aF_X10_37 rfl (tg_8 hT) (pr_8_9 hR) ?_
  refine aw_iload_n hC dX10_isJoined_10 rfl ?_
  refine aw_iaload_k (j := j) hC dX10_isJoined_11 (tg_18 hT) (nI_clamp (by omega)) (vp_in_nI (by omega) (by decide)) ?_
  refine aw_iand hC dX10_isJoined_12 ?_
  refine aw_if_eq (tgt := 20) hC dX10_isJoined_13 (by decide) (fun h1 => ?_) (fun h1 => ?_)
  · show AW X 0 0 20 [some (.ref 8), some (.int (nI i)), some (.int (nI j))] [] T I J R
    refine aw_iconst (v := 0) hC dX10_isJoined_20 (by decide) ?_
    exact aw_zreturn hC hq rfl (Or.inl rfl) dX10_isJoined_21 a_le a_le (aPure_i (bI_no (not_not_intro (by assumption))))
  · show AW X 0 0 16 [some (.ref 8), some (.int (nI i)), some (.int (nI j))] [] T I J R
    refine aw_iconst (v := 1) hC dX10_isJoined_16 (by decide) ?_
    refine aw_goto (tgt := 21) hC dX10_isJoined_17 (by decide) ?_
    exact aw_zreturn hC hq rfl (Or.inr rfl) dX10_isJoined_21 a_le a_le (aPure_i (bI_yes (by assumption)))
abbrev chn (I : aI) (i j k : Nat) : Prop := if I 18 i &&& I 18 j ≠ 0 then I 18 i &&& I 18 k ≠ 0 ∨ I 18 j &&& I 18 k ≠ 0 else I 18 i &&& I 18 k ≠ 0 ∧ I 18 j &&& I 18 k ≠ 0
set_option maxRecDepth 100000 in
theorem m_X10_isChain {T : List aT} {I : aI} {J : aJ} {R : aR} (hT : aPT T) (hR : aPR R) {i j k : Nat} (hi : i < 30) (hj : j < 30) (hk : k < 30) : MX10_isChain 0 0 [.ref 8, .int (nI i), .int (nI j), .int (nI k)] T I J R (aPure (some (.int (bI (decide (chn I i j k))))) T I J R) := by
  refine a_met (by decide +kernel) a_le (fun X hC hq => ?_)
  show AW X 0 0 0 [some (.ref 8), some (.int (nI i)), some (.int (nI j)), some (.int (nI k))] [] T I J R
  refine aw_aload_n hC dX10_isChain_0 rfl ?_
  refine aw_iload_n hC dX10_isChain_1 rfl ?_
  refine aw_iload_n hC dX10_isChain_2 rfl ?_
  refine kX10_187 hC rfl (m_X10_isJoined (I := I) hT hR (i := i) (j := j) (by omega) (by omega)) dX10_isChain_3 (tg_8 hT) rfl a_le a_le a_le a_le a_le rfl aPure_x (aPure_k ?_)
  show AW X 0 0 6 [some (.ref 8), some (.int (nI i)), some (.int (nI j)), some (.int (nI k))] [.int (bI (decide (I 18 i &&& I 18 j ≠ 0)))] T I J R
  refine aw_if_eq (tgt := 33) hC dX10_isChain_6 (by decide) (fun h1 => ?_) (fun h1 => ?_)
  · show AW X 0 0 33 [some (.ref 8), some (.int (nI i)), some (.int (nI j)), some (.int (nI k))] [] T I J R
    refine aw_aload_n hC dX10_isChain_33 rfl ?_
    refine aw_iload_n hC dX10_isChain_34 rfl ?_
    refine aw_iload_n hC dX10_isChain_35 rfl ?_
    refine kX10_187 hC rfl (m_X10_isJoined (I := I) hT hR (i := i) (j := k) (by omega) (by omega)) dX10_isChain_36 (tg_8 hT) rfl a_le a_le a_le a_le a_le rfl aPure_x (aPure_k ?_)
    show AW X 0 0 39 [some (.ref 8), some (.int (nI i)), some (.int (nI j)), some (.int (nI k))] [.int (bI (decide (I 18 i &&& I 18 k ≠ 0)))] T I J R
    refine aw_if_eq (tgt := 55) hC dX10_isChain_39 (by decide) (fun h2 => ?_) (fun h2 => ?_)
    · show AW X 0 0 55 [some (.ref 8), some (.int (nI i)), some (.int (nI j)), some (.int (nI k))] [] T I J R
      refine aw_iconst (v := 0) hC dX10_isChain_55 (by decide) ?_
      exact aw_zreturn hC hq rfl (Or.inl rfl) dX10_isChain_56 a_le a_le (aPure_i (bI_no (by clear hC hq; simp only [bI_n0, bI_e0, decide_eq_true_eq, decide_eq_false_iff_not, Classical.not_not, ne_eq] at *; simp_all [chn])))
    · show AW X 0 0 42 [some (.ref 8), some (.int (nI i)), some (.int (nI j)), some (.int (nI k))] [] T I J R
      refine aw_aload_n hC dX10_isChain_42 rfl ?_
      refine aw_iload_n hC dX10_isChain_43 rfl ?_
      refine aw_iload_n hC dX10_isChain_44 rfl ?_
      refine kX10_187 hC rfl (m_X10_isJoined (I := I) hT hR (i := j) (j := k) (by omega) (by omega)) dX10_isChain_45 (tg_8 hT) rfl a_le a_le a_le a_le a_le rfl aPure_x (aPure_k ?_)
      show AW X 0 0 48 [some (.ref 8), some (.int (nI i)), some (.int (nI j)), some (.int (nI k))] [.int (bI (decide (I 18 j &&& I 18 k ≠ 0)))] T I J R
      refine aw_if_eq (tgt := 55) hC dX10_isChain_48 (by decide) (fun h3 => ?_) (fun h3 => ?_)
      · show AW X 0 0 55 [some (.ref 8), some (.int (nI i)), some (.int (nI j)), some (.int (nI k))] [] T I J R
        refine aw_iconst (v := 0) hC dX10_isChain_55 (by decide) ?_
        exact aw_zreturn hC hq rfl (Or.inl rfl) dX10_isChain_56 a_le a_le (aPure_i (bI_no (by clear hC hq; simp only [bI_n0, bI_e0, decide_eq_true_eq, decide_eq_false_iff_not, Classical.not_not, ne_eq] at *; simp_all [chn])))
      · show AW X 0 0 51 [some (.ref 8), some (.int (nI i)), some (.int (nI j)), some (.int (nI k))] [] T I J R
        refine aw_iconst (v := 1) hC dX10_isChain_51 (by decide) ?_
        refine aw_goto (tgt := 56) hC dX10_isChain_52 (by decide) ?_
        exact aw_zreturn hC hq rfl (Or.inr rfl) dX10_isChain_56 a_le a_le (aPure_i (bI_yes (by clear hC hq; simp only [bI_n0, bI_e0, decide_eq_true_eq, decide_eq_false_iff_not, Classical.not_not, ne_eq] at *; simp_all [chn])))
  · show AW X 0 0 9 [some (.ref 8), some (.int (nI i)), some (.int (nI j)), some (.int (nI k))] [] T I J R
    refine aw_aload_n hC dX10_isChain_9 rfl ?_
    refine aw_iload_n hC dX10_isChain_10 rfl ?_
    refine aw_iload_n hC dX10_isChain_11 rfl ?_
    refine kX10_187 hC rfl (m_X10_isJoined (I := I) hT hR (i := i) (j := k) (by omega) (by omega)) dX10_isChain_12 (tg_8 hT) rfl a_le a_le a_le a_le a_le rfl aPure_x (aPure_k ?_)
    show AW X 0 0 15 [some (.ref 8), some (.int (nI i)), some (.int (nI j)), some (.int (nI k))] [.int (bI (decide (I 18 i &&& I 18 k ≠ 0)))] T I J R
    refine aw_if_ne (tgt := 27) hC dX10_isChain_15 (by decide) (fun h4 => ?_) (fun h4 => ?_)
    · show AW X 0 0 27 [some (.ref 8), some (.int (nI i)), some (.int (nI j)), some (.int (nI k))] [] T I J R
      refine aw_iconst (v := 1) hC dX10_isChain_27 (by decide) ?_
      refine aw_goto (tgt := 32) hC dX10_isChain_28 (by decide) ?_
      exact aw_zreturn hC hq rfl (Or.inr rfl) dX10_isChain_32 a_le a_le (aPure_i (bI_yes (by clear hC hq; simp only [bI_n0, bI_e0, decide_eq_true_eq, decide_eq_false_iff_not, Classical.not_not, ne_eq] at *; simp_all [chn])))
    · show AW X 0 0 18 [some (.ref 8), some (.int (nI i)), some (.int (nI j)), some (.int (nI k))] [] T I J R
      refine aw_aload_n hC dX10_isChain_18 rfl ?_
      refine aw_iload_n hC dX10_isChain_19 rfl ?_
      refine aw_iload_n hC dX10_isChain_20 rfl ?_
      refine kX10_187 hC rfl (m_X10_isJoined (I := I) hT hR (i := j) (j := k) (by omega) (by omega)) dX10_isChain_21 (tg_8 hT) rfl a_le a_le a_le a_le a_le rfl aPure_x (aPure_k ?_)
      show AW X 0 0 24 [some (.ref 8), some (.int (nI i)), some (.int (nI j)), some (.int (nI k))] [.int (bI (decide (I 18 j &&& I 18 k ≠ 0)))] T I J R
      refine aw_if_eq (tgt := 31) hC dX10_isChain_24 (by decide) (fun h5 => ?_) (fun h5 => ?_)
      · show AW X 0 0 31 [some (.ref 8), some (.int (nI i)), some (.int (nI j)), some (.int (nI k))] [] T I J R
        refine aw_iconst (v := 0) hC dX10_isChain_31 (by decide) ?_
        exact aw_zreturn hC hq rfl (Or.inl rfl) dX10_isChain_32 a_le a_le (aPure_i (bI_no (by clear hC hq; simp only [bI_n0, bI_e0, decide_eq_true_eq, decide_eq_false_iff_not, Classical.not_not, ne_eq] at *; simp_all [chn])))
      · show AW X 0 0 27 [some (.ref 8), some (.int (nI i)), some (.int (nI j)), some (.int (nI k))] [] T I J R
        refine aw_iconst (v := 1) hC dX10_isChain_27 (by decide) ?_
        refine aw_goto (tgt := 32) hC dX10_isChain_28 (by decide) ?_
        exact aw_zreturn hC hq rfl (Or.inr rfl) dX10_isChain_32 a_le a_le (aPure_i (bI_yes (by clear hC hq; simp only [bI_n0, bI_e0, decide_eq_true_eq, decide_eq_false_iff_not, Classical.not_not, ne_eq] at *; simp_all [chn])))
set_option maxRecDepth 100000 in
theorem m_X10_isClash {T : List aT} {I : aI} {J : aJ} {R : aR} (hT : aPT T) (hR : aPR R) {m : aI} {n : Nat} {sq : Nat → Nat} (hSt : CSt T I R m n sq) (hS : SW m n) {c : Nat} {l : Nat → Nat} (hl : ∀ i, i < c → l i < n ∧ R 16 i = some (sq (l i))) (hz : ∀ j, 10 ≤ j → J 15 j = 0) {i j k : Nat} (hi : i < c) (hj : j < c) (hk : k < c) (hc30 : c ≤ n) : MX10_isClash 0 0 [.ref 8, .int (nI i), .int (nI j), .int (nI k)] T I J R (aRelV (fun v9 I2 J2 => I2 = I ∧ ∃ S, J2 = a_ur J 15 S ∧ FixA m n (q3 (l i) (l j) (l k)) full S ∧ v9 = some (.int (bI (anyB (fun j => decide (S j = 0)) 10)))) T R) := by
  refine a_met (by decide +kernel) a_le (fun X hC hq => ?_)
  show AW X 0 0 0 [some (.ref 8), some (.int (nI i)), some (.int (nI j)), some (.int (nI k)), none, none] [] T I J R
  have hb15 : HSet T R 14 15 := ⟨tg_14 hT, pr_14_0 hR, tg_15 hT⟩
  have hn9 := hS.n30
  refine aw_aload_n hC dX10_isClash_0 rfl ?_
  refine aw_getR hC dX10_isClash_1 aF_X10_25 rfl (tg_8 hT) (pr_8_6 hR) ?_
  refine kX10_53 hC rfl (m_X7_fill (J := J) hb15) dX10_isClash_4 (tg_14 hT) rfl a_le a_le a_le a_le a_le rfl aPure_x (aPure_k ?_)
  show AW X 0 0 7 [some (.ref 8), some (.int (nI i)), some (.int (nI j)), some (.int (nI k)), none, none] [] T I (a_fill J 15 10 (fun _ => -1)) R
  refine aw_iconst (v := 1) hC dX10_isClash_7 (by decide) ?_
  refine aw_istore (L2 := [some (.ref 8), some (.int (nI i)), some (.int (nI j)), some (.int (nI k)), some (.int 1), none]) hC dX10_isClash_8 (by decide) rfl ?_
  refine aw_iconst (v := 0) hC dX10_isClash_10 (by decide) ?_
  refine aw_istore (L2 := [some (.ref 8), some (.int (nI i)), some (.int (nI j)), some (.int (nI k)), some (.int 1), some (.int 0)]) hC dX10_isClash_11 (by decide) rfl ?_
  rw [fill_10 hz]
  have loopW : ∀ c (r : Nat) (S1 : Nat → Int64), sumC S1 10 ≤ c → r + sumC S1 10 ≤ 640 → SLe S1 full → (∀ T, SLe T full → (∀ s, s < n → q3 (l i) (l j) (l k) s = true → nBy m s T = T) → SLe T S1) → AW X 0 0 13 [some (.ref 8), some (.int (nI i)), some (.int (nI j)), some (.int (nI k)), some (.int 1), some (.int (nI r))] [] T I (a_ur J 15 S1) R := by
    refine upN (fun c ihW => ?_)
    intro r S1 hc hr9 hS1 hgr
    have hn9 := hS.n30
    refine aw_iload hC dX10_isClash_13 rfl ?_
    refine aw_if_eq (tgt := 74) hC dX10_isClash_15 (by decide) (fun h1 => absurd h1 (by decide)) (fun _ => ?_)
    show AW X 0 0 18 [some (.ref 8), some (.int (nI i)), some (.int (nI j)), some (.int (nI k)), some (.int 1), some (.int (nI r))] [] T I (a_ur J 15 S1) R
    refine aw_iload hC dX10_isClash_18 rfl ?_
    refine aw_ldc (v := 1000000) hC dX10_isClash_20 gK_X10_113 ?_
    refine aw_icmp_ge (tgt := 74) hC dX10_isClash_22 (by decide) (fun h2 => ?_) (fun h2 => ?_)
    · show AW X 0 0 74 [some (.ref 8), some (.int (nI i)), some (.int (nI j)), some (.int (nI k)), some (.int 1), some (.int (nI r))] [] T I (a_ur J 15 S1) R
      have h2n : 1000000 ≤ r := (nI_leI (a := 1000000) (b := r) (by omega) (by omega)).mp h2
      refine aw_aload_n hC dX10_isClash_74 rfl ?_
      refine aw_getR hC dX10_isClash_75 aF_X10_25 rfl (tg_8 hT) (pr_8_6 hR) ?_
      refine kX10_74 hC rfl (m_X7_hasEmpty (J := a_ur J 15 S1) hb15) dX10_isClash_78 (tg_14 hT) rfl a_le a_le a_le a_le a_le rfl aPure_x (aPure_k ?_)
      show AW X 0 0 81 [some (.ref 8), some (.int (nI i)), some (.int (nI j)), some (.int (nI k)), some (.int 1), some (.int (nI r))] [.int (bI (anyB (fun j => decide ((a_ur J 15 S1) 15 j = 0)) 10))] T I (a_ur J 15 S1) R
      rw [show (a_ur J 15 S1) 15 = S1 from by rw [a_ur_self]]
      exact aw_zreturn hC hq rfl (bI_01 _) dX10_isClash_81 a_le a_le (by exfalso; omega)
    · show AW X 0 0 25 [some (.ref 8), some (.int (nI i)), some (.int (nI j)), some (.int (nI k)), some (.int 1), some (.int (nI r))] [] T I (a_ur J 15 S1) R
      have h2n : ¬ 1000000 ≤ r := fun q9 => h2 ((nI_leI (a := 1000000) (b := r) (by omega) (by omega)).mpr q9)
      refine aw_aload_n hC dX10_isClash_25 rfl ?_
      refine aw_getR hC dX10_isClash_26 aF_X10_25 rfl (tg_8 hT) (pr_8_6 hR) ?_
      refine aw_aload_n hC dX10_isClash_29 rfl ?_
      refine aw_getR hC dX10_isClash_30 aF_X10_30 rfl (tg_8 hT) (pr_8_7 hR) ?_
      refine aw_iload_n hC dX10_isClash_33 rfl ?_
      refine aw_aaloadR_k (j := i) hC dX10_isClash_34 (tg_16 hT) (nI_clamp (by omega)) (vp_in_nI (by omega) (by decide)) (hl i hi).2 ?_
      refine kX10_118 hC rfl (m_X7_narrow (J := a_ur J 15 S1) hSt hS hb15 (s := (l i)) (hl _ (by omega)).1) dX10_isClash_35 (tg_14 hT) rfl a_le a_le a_le a_le a_le rfl aPure_x (aPure_k ?_)
      rw [show a_ur (a_ur J 15 S1) 15 (nBy m (l i) ((a_ur J 15 S1) 15)) = a_ur J 15 (nBy m (l i) S1) from by rw [a_ur_2, a_ur_self]]
      show AW X 0 0 38 [some (.ref 8), some (.int (nI i)), some (.int (nI j)), some (.int (nI k)), some (.int 1), some (.int (nI r))] [.int (bI (nCh m (l i) ((a_ur J 15 S1) 15)))] T I (a_ur J 15 (nBy m (l i) S1)) R
      rw [show ((a_ur J 15 S1) 15) = S1 from a_ur_self]
      refine aw_aload_n hC dX10_isClash_38 rfl ?_
      refine aw_getR hC dX10_isClash_39 aF_X10_25 rfl (tg_8 hT) (pr_8_6 hR) ?_
      refine aw_aload_n hC dX10_isClash_42 rfl ?_
      refine aw_getR hC dX10_isClash_43 aF_X10_30 rfl (tg_8 hT) (pr_8_7 hR) ?_
      refine aw_iload_n hC dX10_isClash_46 rfl ?_
      refine aw_aaloadR_k (j := j) hC dX10_isClash_47 (tg_16 hT) (nI_clamp (by omega)) (vp_in_nI (by omega) (by decide)) (hl j hj).2 ?_
      refine kX10_118 hC rfl (m_X7_narrow (J := a_ur J 15 (nBy m (l i) S1)) hSt hS hb15 (s := (l j)) (hl _ (by omega)).1) dX10_isClash_48 (tg_14 hT) rfl a_le a_le a_le a_le a_le rfl aPure_x (aPure_k ?_)
      rw [show a_ur (a_ur J 15 (nBy m (l i) S1)) 15 (nBy m (l j) ((a_ur J 15 (nBy m (l i) S1)) 15)) = a_ur J 15 (nBy m (l j) (nBy m (l i) S1)) from by rw [a_ur_2, a_ur_self]]
      show AW X 0 0 51 [some (.ref 8), some (.int (nI i)), some (.int (nI j)), some (.int (nI k)), some (.int 1), some (.int (nI r))] [.int (bI (nCh m (l j) ((a_ur J 15 (nBy m (l i) S1)) 15))), .int (bI (nCh m (l i) S1))] T I (a_ur J 15 (nBy m (l j) (nBy m (l i) S1))) R
      rw [show ((a_ur J 15 (nBy m (l i) S1)) 15) = nBy m (l i) S1 from a_ur_self]
      refine aw_ior hC dX10_isClash_51 ?_
      refine aw_aload_n hC dX10_isClash_52 rfl ?_
      refine aw_getR hC dX10_isClash_53 aF_X10_25 rfl (tg_8 hT) (pr_8_6 hR) ?_
      refine aw_aload_n hC dX10_isClash_56 rfl ?_
      refine aw_getR hC dX10_isClash_57 aF_X10_30 rfl (tg_8 hT) (pr_8_7 hR) ?_
      refine aw_iload_n hC dX10_isClash_60 rfl ?_
      refine aw_aaloadR_k (j := k) hC dX10_isClash_61 (tg_16 hT) (nI_clamp (by omega)) (vp_in_nI (by omega) (by decide)) (hl k hk).2 ?_
      refine kX10_118 hC rfl (m_X7_narrow (J := a_ur J 15 (nBy m (l j) (nBy m (l i) S1))) hSt hS hb15 (s := (l k)) (hl _ (by omega)).1) dX10_isClash_62 (tg_14 hT) rfl a_le a_le a_le a_le a_le rfl aPure_x (aPure_k ?_)
      rw [show a_ur (a_ur J 15 (nBy m (l j) (nBy m (l i) S1))) 15 (nBy m (l k) ((a_ur J 15 (nBy m (l j) (nBy m (l i) S1))) 15)) = a_ur J 15 (nBy m (l k) (nBy m (l j) (nBy m (l i) S1))) from by rw [a_ur_2, a_ur_self]]
      show AW X 0 0 65 [some (.ref 8), some (.int (nI i)), some (.int (nI j)), some (.int (nI k)), some (.int 1), some (.int (nI r))] [.int (bI (nCh m (l k) ((a_ur J 15 (nBy m (l j) (nBy m (l i) S1))) 15))), .int ((bI (nCh m (l i) S1)) ||| (bI (nCh m (l j) (nBy m (l i) S1))))] T I (a_ur J 15 (nBy m (l k) (nBy m (l j) (nBy m (l i) S1)))) R
      rw [show ((a_ur J 15 (nBy m (l j) (nBy m (l i) S1))) 15) = nBy m (l j) (nBy m (l i) S1) from a_ur_self]
      refine aw_ior hC dX10_isClash_65 ?_
      refine aw_istore (L2 := [some (.ref 8), some (.int (nI i)), some (.int (nI j)), some (.int (nI k)), some (.int (((bI (nCh m (l i) S1)) ||| (bI (nCh m (l j) (nBy m (l i) S1)))) ||| (bI (nCh m (l k) (nBy m (l j) (nBy m (l i) S1)))))), some (.int (nI r))]) hC dX10_isClash_66 (by decide) rfl ?_
      refine aw_iinc (v := nI (r + 1)) (L2 := [some (.ref 8), some (.int (nI i)), some (.int (nI j)), some (.int (nI k)), some (.int (((bI (nCh m (l i) S1)) ||| (bI (nCh m (l j) (nBy m (l i) S1)))) ||| (bI (nCh m (l k) (nBy m (l j) (nBy m (l i) S1)))))), some (.int (nI (r + 1)))]) hC dX10_isClash_68 rfl (nI_inc _) (by decide) rfl ?_
      refine aw_goto (tgt := 13) hC dX10_isClash_71 (by decide) ?_
      rw [show ((bI (nCh m (l i) S1)) ||| (bI (nCh m (l j) (nBy m (l i) S1)))) ||| (bI (nCh m (l k) (nBy m (l j) (nBy m (l i) S1)))) = bI ((nCh m (l i) S1 || nCh m (l j) (nBy m (l i) S1)) || nCh m (l k) (nBy m (l j) (nBy m (l i) S1))) from by rw [bI_or, bI_or]]
      cases e9 : ((nCh m (l i) S1 || nCh m (l j) (nBy m (l i) S1)) || nCh m (l k) (nBy m (l j) (nBy m (l i) S1))) with
      | false =>
        obtain ⟨f1, f2, f3⟩ := n3_f e9
        rw [f1, f2, f3]
        show AW X 0 0 13 [some (.ref 8), some (.int (nI i)), some (.int (nI j)), some (.int (nI k)), some (.int 0), some (.int (nI (r + 1)))] [] T I (a_ur J 15 S1) R
        refine aw_iload hC dX10_isClash_13 rfl ?_
        refine aw_if_eq (tgt := 74) hC dX10_isClash_15 (by decide) (fun _ => ?_) (fun h3 => absurd h3 (by decide))
        show AW X 0 0 74 [some (.ref 8), some (.int (nI i)), some (.int (nI j)), some (.int (nI k)), some (.int 0), some (.int (nI (r + 1)))] [] T I (a_ur J 15 S1) R
        refine aw_aload_n hC dX10_isClash_74 rfl ?_
        refine aw_getR hC dX10_isClash_75 aF_X10_25 rfl (tg_8 hT) (pr_8_6 hR) ?_
        refine kX10_74 hC rfl (m_X7_hasEmpty (J := a_ur J 15 S1) hb15) dX10_isClash_78 (tg_14 hT) rfl a_le a_le a_le a_le a_le rfl aPure_x (aPure_k ?_)
        show AW X 0 0 81 [some (.ref 8), some (.int (nI i)), some (.int (nI j)), some (.int (nI k)), some (.int 0), some (.int (nI (r + 1)))] [.int (bI (anyB (fun j => decide ((a_ur J 15 S1) 15 j = 0)) 10))] T I (a_ur J 15 S1) R
        rw [show (a_ur J 15 S1) 15 = S1 from by rw [a_ur_self]]
        exact aw_zreturn hC hq rfl (bI_01 _) dX10_isClash_81 a_le a_le ⟨_, rfl, rfl, rfl, rfl, S1, rfl, ⟨hS1, fun s hs hq9 => by rcases q3_iff.mp hq9 with e | e | e <;> rw [e] <;> assumption, hgr⟩, rfl⟩
      | true =>
        have hlt := n3_t hS (hl i hi).1 (hl j hj).1 (hl k hk).1 e9
        exact ihW _ (by omega) (r + 1) _ (Nat.le_refl _) (by omega) (SLe_t (nBy_le _ _ _) (SLe_t (nBy_le _ _ _) (SLe_t (nBy_le _ _ _) hS1))) (fun T hT g => n3_g (hgr T hT g) (g _ (hl i hi).1 (q3_iff.mpr (Or.inl rfl))) (g _ (hl j hj).1 (q3_iff.mpr (Or.inr (Or.inl rfl)))) (g _ (hl k hk).1 (q3_iff.mpr (Or.inr (Or.inr rfl)))))
  exact loopW 640 0 full (sumC_640 _) (by have := sumC_640 full; omega) (SLe_r _) (fun T hT _ => hT)
