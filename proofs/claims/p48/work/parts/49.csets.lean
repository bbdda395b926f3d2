theorem xb_shl {x : Int64} {k j : Nat} (hk : k < 64) (hj : j < 64) : xb (x <<< ((nI k).toInt64 &&& 63)) j = (decide (k ≤ j) && xb x (j - k)) := by
  unfold xb
  rw [show (x <<< ((nI k).toInt64 &&& 63)).toBitVec = x.toBitVec <<< (((nI k).toInt64 &&& 63).toBitVec.smod 64) from Int64.toBitVec_shiftLeft .., wb_c k hk, wb_tb, wb_sm k hk, BitVec.shiftLeft_eq', BitVec.toNat_ofNat, Nat.mod_eq_of_lt (by omega), BitVec.getLsbD_shiftLeft]
  by_cases e : j < k
  · simp [hj, e, Nat.not_le.mpr e]
  · simp [hj, e, Nat.not_lt.mp e]
theorem rng_cls {a b : Nat} (ha : a < 64) (hb : b < 64) : ((-1 : Int64) <<< ((nI a).toInt64 &&& 63)) &&& (((-1 : Int64).toUInt64 >>> ((nI (63 - b)).toInt64.toUInt64 &&& Int64.toUInt64 63)).toInt64) = sRng a (nI b) := xb_ext fun j hj => by
  rw [xb_and, xb_shl ha hj, xb_ushr (by omega), xb_rng, nI_toInt (by omega), xb_m1 (by omega)]
  by_cases c : a ≤ j
  · by_cases d : j ≤ b
    · rw [xb_m1 (by omega)]; simp [hj, c]; omega
    · rw [xb_hi (by omega)]; simp; omega
  · simp [c]
theorem gr_pos {x : Int64} (h : x ≠ 0) : 0 < sGreat x ∧ sGreat x ≤ 64 ∧ xb x (sGreat x - 1) = true ∧ ∀ j, sGreat x ≤ j → j < 64 → xb x j = false := by
  have g : ∀ k, k ≤ 64 → (sGr x k = 0 ∧ ∀ j, j < k → xb x j = false) ∨ (0 < sGr x k ∧ sGr x k ≤ k ∧ xb x (sGr x k - 1) = true ∧ ∀ j, sGr x k ≤ j → j < k → xb x j = false) := fun k => by
    induction k with
    | zero => intro _; exact Or.inl ⟨rfl, fun j hj => absurd hj (by omega)⟩
    | succ k ih =>
      intro hk
      simp only [sGr]
      by_cases e : xb x k = true
      · rw [if_pos e]; exact Or.inr ⟨by omega, by omega, by simpa using e, fun j h1 h2 => absurd h1 (by omega)⟩
      · rw [if_neg e]
        rcases ih (by omega) with ⟨q1, q2⟩ | ⟨q1, q2, q3, q4⟩
        · exact Or.inl ⟨q1, fun j hj => by by_cases c : j = k
                                           · rw [c]; simpa using e
                                           · exact q2 j (by omega)⟩
        · exact Or.inr ⟨q1, by omega, q3, fun j h1 h2 => by by_cases c : j = k
                                                            · rw [c]; simpa using e
                                                            · exact q4 j h1 (by omega)⟩
  rcases g 64 (Nat.le_refl _) with ⟨_, q⟩ | q
  · exact absurd (xb_zero_iff.mpr q) h
  · exact q
theorem sGreat_0 : sGreat 0 = 0 := sGreat_eq (by omega) (fun j _ _ => xb_0 j) (Or.inl rfl)
theorem below_cls {x : Int64} (h : x ≠ 0) : ((((-1 : Int64).toUInt64 >>> ((nI (64 - sGreat x)).toInt64.toUInt64 &&& Int64.toUInt64 63)).toInt64).toUInt64 >>> (((1 : Int32)).toInt64.toUInt64 &&& Int64.toUInt64 63)).toInt64 = sBelow x := by
  obtain ⟨a, b, c, d⟩ := gr_pos h
  unfold sBelow
  refine xb_ext fun j hj => ?_
  rw [xb_rng, gr_val, show ((1 : Int32)) = nI 1 from rfl, xb_ushr (by omega), xb_ushr (by omega)]
  by_cases q : 64 - sGreat x + (1 + j) < 64
  · rw [xb_m1 q]
    simp only [hj, decide_true, Bool.true_and, Nat.zero_le]
    exact (decide_eq_true (by omega)).symm
  · rw [xb_hi (by omega)]
    simp only [hj, decide_true, Bool.true_and, Nat.zero_le]
    exact (decide_eq_false (by omega)).symm
theorem sBelow_0 : (0 : Int64) = sBelow 0 := by decide +kernel
theorem above_cls {x : Int64} (h : x ≠ 0) : ((-1 : Int64) <<< ((nI (sLeast x)).toInt64 &&& 63)) <<< (((1 : Int32)).toInt64 &&& 63) = sAbove x := by
  have l := sLeast_le x h
  unfold sAbove; rw [if_neg h]
  refine xb_ext fun j hj => ?_
  rw [xb_rng, show ((1 : Int32)) = nI 1 from rfl, xb_shl (by omega) hj, show (63 : Int32).toInt = 63 from rfl]
  by_cases c : 1 ≤ j
  · rw [xb_shl l (by omega)]
    by_cases d : sLeast x ≤ j - 1
    · rw [xb_m1 (by omega)]; simp [c, d, hj]; omega
    · simp [d]; omega
  · simp [c]; omega
theorem sLeast_0 : sLeast 0 = 64 := sLeast_eq (fun j _ => xb_0 j) (Or.inl rfl)
noncomputable def nCh (I : aI) (s : Nat) (S : Nat → Int64) : Bool := @decide (nBy I s S ≠ S) (Classical.propDecidable _)
theorem nCh_iff {I : aI} {s : Nat} {S : Nat → Int64} : nCh I s S = true ↔ nBy I s S ≠ S := by unfold nCh; exact @decide_eq_true_iff _ (Classical.propDecidable _)
theorem sUpd_eq {S : Nat → Int64} {f : Nat} {v : Int64} : sUpd S f v = S ↔ S f &&& v = S f := by
  constructor
  · intro h; have := congrFun h f; unfold sUpd at this; rw [if_pos rfl] at this; exact this
  · intro h; funext j; unfold sUpd; split
    · next e => rw [e, h]
    · rfl
theorem nCh_1 {I : aI} {s f : Nat} {S : Nat → Int64} {v : Int64} (h : nBy I s S = sUpd S f v) : bI (decide (S f &&& v ≠ S f)) = bI (nCh I s S) := by
  congr 1
  exact Bool.eq_iff_iff.mpr (by rw [nCh_iff, h, decide_eq_true_iff, Ne, Ne, sUpd_eq])
theorem nCh_2 {I : aI} {s f g : Nat} {S : Nat → Int64} {v w : Int64} (h : nBy I s S = sUpd (sUpd S f v) g w) : bI (decide (S f &&& v ≠ S f)) ||| bI (decide (sUpd S f v g &&& w ≠ sUpd S f v g)) = bI (nCh I s S) := by
  rw [bI_or]
  congr 1
  refine Bool.eq_iff_iff.mpr ?_
  rw [nCh_iff, h, Bool.or_eq_true, decide_eq_true_iff, decide_eq_true_iff]
  constructor
  · intro q e
    have l1 := sUpd_le (sUpd S f v) g w
    have l2 := sUpd_le S f v
    rw [e] at l1
    have e1 : sUpd S f v = S := SLe_as l2 l1
    rcases q with q | q
    · exact q (sUpd_eq.mp e1)
    · rw [e1] at e; rw [e1] at q; exact q (sUpd_eq.mp e)
  · intro q
    apply Classical.byContradiction; intro g9
    have a1 : S f &&& v = S f := Decidable.not_not.mp fun z => g9 (Or.inl z)
    have a2 : sUpd S f v g &&& w = sUpd S f v g := Decidable.not_not.mp fun z => g9 (Or.inr z)
    exact q ((sUpd_eq.mpr a2).trans (sUpd_eq.mpr a1))
set_option maxRecDepth 100000 in
theorem m_X7_range {T : List aT} {I : aI} {J : aJ} {R : aR} {a b : Nat} (ha : a < 64) (hb : b < 64) : MX7_range 0 0 [.int (nI a), .int (nI b)] T I J R (aPure (some (.long (sRng a (nI b)))) T I J R) := by
  refine a_met (by decide +kernel) a_le (fun X hC hq => ?_)
  show AW X 0 0 0 [some (.int (nI a)), some (.int (nI b))] [] T I J R
  refine aw_ldc2 (v := (-1)) hC dX7_range_0 gK_X7_15 ?_
  refine aw_iload_n hC dX7_range_3 rfl ?_
  refine aw_lshl hC dX7_range_4 ?_
  refine aw_ldc2 (v := (-1)) hC dX7_range_5 gK_X7_15 ?_
  refine aw_bipush (v := 63) hC dX7_range_8 (by decide) ?_
  refine aw_iload_n hC dX7_range_10 rfl ?_
  refine aw_isub hC dX7_range_11 ?_
  rw [show 63 - (nI b) = nI (63 - b) from pk_sub (a := 63) (b := b) (by omega)]
  refine aw_lushr hC dX7_range_12 ?_
  refine aw_land hC dX7_range_13 ?_
  exact aw_lreturn hC hq rfl dX7_range_14 a_le a_le (aPure_l (rng_cls ha hb))
set_option maxRecDepth 100000 in
theorem m_X7_least {T : List aT} {I : aI} {J : aJ} {R : aR} (x : Int64) : MX7_least 0 0 [.long x] T I J R (aPure (some (.int (nI (sLeast x)))) T I J R) := by
  refine a_met (by decide +kernel) a_le (fun X hC hq => ?_)
  show AW X 0 0 0 [some (.long x), none] [] T I J R
  refine aw_lload_n hC dX7_least_0 rfl ?_
  refine kX7_17 hC rfl (m_J13_numberOfTrailingZeros_95d88 x) dX7_least_1 rfl a_le a_le a_le a_le a_le rfl aPure_x (aPure_k ?_)
  show AW X 0 0 4 [some (.long x), none] [.int (nI (sLeast x))] T I J R
  exact aw_ireturn hC hq rfl dX7_least_4 a_le a_le (aPure_i (by rfl))
set_option maxRecDepth 100000 in
theorem m_X7_greatest {T : List aT} {I : aI} {J : aJ} {R : aR} (x : Int64) (hx : x ≠ 0) : MX7_greatest 0 0 [.long x] T I J R (aPure (some (.int (nI (sGreat x - 1)))) T I J R) := by
  refine a_met (by decide +kernel) a_le (fun X hC hq => ?_)
  show AW X 0 0 0 [some (.long x), none] [] T I J R
  have hg9 := gr_pos hx
  refine aw_bipush (v := 63) hC dX7_greatest_0 (by decide) ?_
  refine aw_lload_n hC dX7_greatest_2 rfl ?_
  refine kX7_23 hC rfl (m_J13_numberOfLeadingZeros_95d88 x) dX7_greatest_3 rfl a_le a_le a_le a_le a_le rfl aPure_x (aPure_k ?_)
  show AW X 0 0 6 [some (.long x), none] [.int (nI (64 - sGreat x)), .int 63] T I J R
  refine aw_isub hC dX7_greatest_6 ?_
  rw [show 63 - (nI (64 - sGreat x)) = nI (63 - (64 - sGreat x)) from pk_sub (a := 63) (b := (64 - sGreat x)) (by omega)]
  exact aw_ireturn hC hq rfl dX7_greatest_7 a_le a_le (aPure_i (congrArg nI (by omega)))
set_option maxRecDepth 100000 in
theorem m_X7_below {T : List aT} {I : aI} {J : aJ} {R : aR} (x : Int64) : MX7_below 0 0 [.long x] T I J R (aPure (some (.long (sBelow x))) T I J R) := by
  refine a_met (by decide +kernel) a_le (fun X hC hq => ?_)
  show AW X 0 0 0 [some (.long x), none] [] T I J R
  refine aw_lload_n hC dX7_below_0 rfl ?_
  refine aw_lconst (v := 0) hC dX7_below_1 (by decide) ?_
  refine aw_lcmp hC dX7_below_2 ?_
  refine aw_if_ne (tgt := 10) hC dX7_below_3 (by decide) (fun h1 => ?_) (fun h1 => ?_)
  · show AW X 0 0 10 [some (.long x), none] [] T I J R
    have hx0 : x ≠ 0 := fun q => absurd ((lgc0 x 0).mpr q) (by assumption)
    refine aw_ldc2 (v := (-1)) hC dX7_below_10 gK_X7_15 ?_
    refine aw_lload_n hC dX7_below_13 rfl ?_
    refine kX7_23 hC rfl (m_J13_numberOfLeadingZeros_95d88 x) dX7_below_14 rfl a_le a_le a_le a_le a_le rfl aPure_x (aPure_k ?_)
    show AW X 0 0 17 [some (.long x), none] [.int (nI (64 - sGreat x)), .long (-1)] T I J R
    refine aw_lushr hC dX7_below_17 ?_
    refine aw_iconst (v := 1) hC dX7_below_18 (by decide) ?_
    refine aw_lushr hC dX7_below_19 ?_
    exact aw_lreturn hC hq rfl dX7_below_20 a_le a_le (aPure_l (below_cls hx0))
  · show AW X 0 0 6 [some (.long x), none] [] T I J R
    refine aw_lconst (v := 0) hC dX7_below_6 (by decide) ?_
    refine aw_goto (tgt := 20) hC dX7_below_7 (by decide) ?_
    exact aw_lreturn hC hq rfl dX7_below_20 a_le a_le (aPure_l (by rw [(lgc0 x 0).mp (by assumption)]; exact sBelow_0))
set_option maxRecDepth 100000 in
theorem m_X7_above {T : List aT} {I : aI} {J : aJ} {R : aR} (x : Int64) : MX7_above 0 0 [.long x] T I J R (aPure (some (.long (sAbove x))) T I J R) := by
  refine a_met (by decide +kernel) a_le (fun X hC hq => ?_)
  show AW X 0 0 0 [some (.long x), none] [] T I J R
  refine aw_lload_n hC dX7_above_0 rfl ?_
  refine aw_lconst (v := 0) hC dX7_above_1 (by decide) ?_
  refine aw_lcmp hC dX7_above_2 ?_
  refine aw_if_ne (tgt := 10) hC dX7_above_3 (by decide) (fun h1 => ?_) (fun h1 => ?_)
  · show AW X 0 0 10 [some (.long x), none] [] T I J R
    have hx0 : x ≠ 0 := fun q => absurd ((lgc0 x 0).mpr q) (by assumption)
    refine aw_ldc2 (v := (-1)) hC dX7_above_10 gK_X7_15 ?_
    refine aw_lload_n hC dX7_above_13 rfl ?_
    refine kX7_17 hC rfl (m_J13_numberOfTrailingZeros_95d88 x) dX7_above_14 rfl a_le a_le a_le a_le a_le rfl aPure_x (aPure_k ?_)
    show AW X 0 0 17 [some (.long x), none] [.int (nI (sLeast x)), .long (-1)] T I J R
    refine aw_lshl hC dX7_above_17 ?_
    refine aw_iconst (v := 1) hC dX7_above_18 (by decide) ?_
    refine aw_lshl hC dX7_above_19 ?_
    exact aw_lreturn hC hq rfl dX7_above_20 a_le a_le (aPure_l (above_cls hx0))
  · show AW X 0 0 6 [some (.long x), none] [] T I J R
    refine aw_lconst (v := 0) hC dX7_above_6 (by decide) ?_
    refine aw_goto (tgt := 20) hC dX7_above_7 (by decide) ?_
    exact aw_lreturn hC hq rfl dX7_above_20 a_le a_le (aPure_l (by unfold sAbove; rw [if_pos ((lgc0 x 0).mp (by assumption))]))
abbrev HSet (T : List aT) (R : aR) (b a : Nat) : Prop := T[b]? = some (.inr 7) ∧ R b 0 = some a ∧ T[a]? = some (.inl (.long, 10))
set_option maxRecDepth 100000 in
theorem m_X7_keep {T : List aT} {I : aI} {J : aJ} {R : aR} {b a : Nat} (hb : HSet T R b a) {f : Nat} (hf : f < 10) (x : Int64) : MX7_keep 0 0 [.ref b, .int (nI f), .long x] T I J R (aPure (some (.int (bI (decide (J a f &&& x ≠ J a f))))) T I (a_ur J a (sUpd (J a) f x)) R) := by
  refine a_met (by decide +kernel) a_le (fun X hC hq => ?_)
  show AW X 0 0 0 [some (.ref b), some (.int (nI f)), some (.long x), none, none, none] [] T I J R
  refine aw_aload_n hC dX7_keep_0 rfl ?_
  refine aw_getR hC dX7_keep_1 aF_X7_9 rfl hb.1 hb.2.1 ?_
  refine aw_iload_n hC dX7_keep_4 rfl ?_
  refine aw_laload_k (j := f) hC dX7_keep_5 hb.2.2 (nI_clamp (by omega)) (vp_in_nI (by omega) (by decide)) ?_
  refine aw_lstore (L2 := [some (.ref b), some (.int (nI f)), some (.long x), none, some (.long (J a f)), none]) hC dX7_keep_6 (by decide) rfl ?_
  refine aw_aload_n hC dX7_keep_8 rfl ?_
  refine aw_getR hC dX7_keep_9 aF_X7_9 rfl hb.1 hb.2.1 ?_
  refine aw_iload_n hC dX7_keep_12 rfl ?_
  refine aw_lload hC dX7_keep_13 rfl ?_
  refine aw_lload_n hC dX7_keep_15 rfl ?_
  refine aw_land hC dX7_keep_16 ?_
  refine aw_lastore_k (j := f) hC dX7_keep_17 hb.2.2 (nI_clamp (by omega)) (vp_in_nI (by omega) (by decide)) ?_
  refine aw_aload_n hC dX7_keep_18 rfl ?_
  refine aw_getR hC dX7_keep_19 aF_X7_9 rfl hb.1 hb.2.1 ?_
  refine aw_iload_n hC dX7_keep_22 rfl ?_
  refine aw_laload_k (j := f) hC dX7_keep_23 hb.2.2 (nI_clamp (by omega)) (vp_in_nI (by omega) (by decide)) ?_
  rw [a_u_self (f := J) (o := a) (k := f) (v := (J a f) &&& x)]
  refine aw_lload hC dX7_keep_24 rfl ?_
  refine aw_lcmp hC dX7_keep_26 ?_
  refine aw_if_eq (tgt := 34) hC dX7_keep_27 (by decide) (fun h1 => ?_) (fun h1 => ?_)
  · show AW X 0 0 34 [some (.ref b), some (.int (nI f)), some (.long x), none, some (.long (J a f)), none] [] T I (a_u J a f ((J a f) &&& x)) R
    refine aw_iconst (v := 0) hC dX7_keep_34 (by decide) ?_
    exact aw_zreturn hC hq rfl (Or.inl rfl) dX7_keep_35 a_le a_le (aPure_e (bI_no (not_not_intro ((lgc0 _ _).mp (by assumption)))) rfl a_u_ur rfl)
  · show AW X 0 0 30 [some (.ref b), some (.int (nI f)), some (.long x), none, some (.long (J a f)), none] [] T I (a_u J a f ((J a f) &&& x)) R
    refine aw_iconst (v := 1) hC dX7_keep_30 (by decide) ?_
    refine aw_goto (tgt := 35) hC dX7_keep_31 (by decide) ?_
    exact aw_zreturn hC hq rfl (Or.inr rfl) dX7_keep_35 a_le a_le (aPure_e (bI_yes (fun q => absurd ((lgc0 _ _).mpr q) (by assumption))) rfl a_u_ur rfl)
set_option maxRecDepth 100000 in
theorem m_X7_fill {T : List aT} {I : aI} {J : aJ} {R : aR} {b a : Nat} (hb : HSet T R b a) : MX7_fill 0 0 [.ref b] T I J R (aPure none T I (a_fill J a 10 (fun _ => -1)) R) := by
  refine a_met (by decide +kernel) a_le (fun X hC hq => ?_)
  show AW X 0 0 0 [some (.ref b)] [] T I J R
  refine aw_aload_n hC dX7_fill_0 rfl ?_
  refine aw_getR hC dX7_fill_1 aF_X7_9 rfl hb.1 hb.2.1 ?_
  refine aw_ldc2 (v := (-1)) hC dX7_fill_4 gK_X7_15 ?_
  refine kX7_26 hC rfl (m_J7_fill_d0a16 (n := 10) hb.2.2 (by omega) (-1)) dX7_fill_7 rfl a_le a_le a_le a_le a_le rfl aPure_x (aPure_k ?_)
  show AW X 0 0 10 [some (.ref b)] [] T I (a_fill J a 10 (fun _ => -1)) R
  exact aw_return hC hq rfl dX7_fill_10 a_le a_le aPure_v
theorem any_hit {p : Nat → Bool} {k n : Nat} (h : k < n) (hp : p k = true) : anyB p n = true := anyB_iff.mpr ⟨k, h, hp⟩
set_option maxRecDepth 100000 in
theorem m_X7_hasEmpty {T : List aT} {I : aI} {J : aJ} {R : aR} {b a : Nat} (hb : HSet T R b a) : MX7_hasEmpty 0 0 [.ref b] T I J R (aPure (some (.int (bI (anyB (fun j => decide (J a j = 0)) 10)))) T I J R) := by
  refine a_met (by decide +kernel) a_le (fun X hC hq => ?_)
  show AW X 0 0 0 [some (.ref b), none] [] T I J R
  refine aw_iconst (v := 0) hC dX7_hasEmpty_0 (by decide) ?_
  refine aw_istore_n (L2 := [some (.ref b), some (.int 0)]) hC dX7_hasEmpty_1 rfl (by decide) rfl ?_
  have loop : ∀ k, k ≤ 10 → anyB (fun j => decide (J a j = 0)) k = false → AW X 0 0 2 [some (.ref b), some (.int (nI k))] [] T I J R := by
    refine a_down 10 (fun k hkloop ihloop => ?_)
    intro hno
    refine aw_iload_n hC dX7_hasEmpty_2 rfl ?_
    refine aw_bipush (v := 10) hC dX7_hasEmpty_3 (by decide) ?_
    refine aw_icmp_ge (tgt := 27) hC dX7_hasEmpty_5 (by decide) (fun h1 => ?_) (fun h1 => ?_)
    · show AW X 0 0 27 [some (.ref b), some (.int (nI k))] [] T I J R
      have h1n : 10 ≤ k := (nI_leI (a := 10) (b := k) (by omega) (by omega)).mp h1
      refine aw_iconst (v := 0) hC dX7_hasEmpty_27 (by decide) ?_
      exact aw_zreturn hC hq rfl (Or.inl rfl) dX7_hasEmpty_28 a_le a_le (aPure_i (by rw [show k = 10 from by omega] at hno; rw [hno]; rfl))
    · show AW X 0 0 8 [some (.ref b), some (.int (nI k))] [] T I J R
      have h1n : ¬ 10 ≤ k := fun q9 => h1 ((nI_leI (a := 10) (b := k) (by omega) (by omega)).mpr q9)
      refine aw_aload_n hC dX7_hasEmpty_8 rfl ?_
      refine aw_getR hC dX7_hasEmpty_9 aF_X7_9 rfl hb.1 hb.2.1 ?_
      refine aw_iload_n hC dX7_hasEmpty_12 rfl ?_
      refine aw_laload_k (j := k) hC dX7_hasEmpty_13 hb.2.2 (nI_clamp (by omega)) (vp_in_nI (by omega) (by decide)) ?_
      refine aw_lconst (v := 0) hC dX7_hasEmpty_14 (by decide) ?_
      refine aw_lcmp hC dX7_hasEmpty_15 ?_
      refine aw_if_ne (tgt := 21) hC dX7_hasEmpty_16 (by decide) (fun h2 => ?_) (fun h2 => ?_)
      · show AW X 0 0 21 [some (.ref b), some (.int (nI k))] [] T I J R
        refine aw_iinc (v := nI (k + 1)) (L2 := [some (.ref b), some (.int (nI (k + 1)))]) hC dX7_hasEmpty_21 rfl (nI_inc _) (by decide) rfl ?_
        refine aw_goto (tgt := 2) hC dX7_hasEmpty_24 (by decide) ?_
        exact ihloop (by omega) (by rw [anyB, hno, decide_eq_false (fun q => absurd ((lgc0 _ _).mpr q) (by assumption))]; rfl)
      · show AW X 0 0 19 [some (.ref b), some (.int (nI k))] [] T I J R
        refine aw_iconst (v := 1) hC dX7_hasEmpty_19 (by decide) ?_
        exact aw_zreturn hC hq rfl (Or.inr rfl) dX7_hasEmpty_20 a_le a_le (aPure_i (by rw [any_hit (k := k) (by omega) (decide_eq_true ((lgc0 _ _).mp (by assumption)))]; rfl))
  exact loop 0 (Nat.zero_le _) rfl
set_option maxRecDepth 100000 in
theorem m_X7_hasNoneBut {T : List aT} {I : aI} {J : aJ} {R : aR} {b a : Nat} (hb : HSet T R b a) {f v : Nat} (hf : f < 10) (hv : v < 64) : MX7_hasNoneBut 0 0 [.ref b, .int (nI f), .int (nI v)] T I J R (aPure (some (.int (bI (decide (J a f &&& (sBit v ^^^ (-1)) = 0))))) T I J R) := by
  refine a_met (by decide +kernel) a_le (fun X hC hq => ?_)
  show AW X 0 0 0 [some (.ref b), some (.int (nI f)), some (.int (nI v))] [] T I J R
  refine aw_aload_n hC dX7_hasNoneBut_0 rfl ?_
  refine aw_getR hC dX7_hasNoneBut_1 aF_X7_9 rfl hb.1 hb.2.1 ?_
  refine aw_iload_n hC dX7_hasNoneBut_4 rfl ?_
  refine aw_laload_k (j := f) hC dX7_hasNoneBut_5 hb.2.2 (nI_clamp (by omega)) (vp_in_nI (by omega) (by decide)) ?_
  refine aw_lconst (v := 1) hC dX7_hasNoneBut_6 (by decide) ?_
  refine aw_iload_n hC dX7_hasNoneBut_7 rfl ?_
  refine aw_lshl hC dX7_hasNoneBut_8 ?_
  rw [show 1 <<< ((nI v).toInt64 &&& 63) = sBit v from sBit_shl (by omega)]
  refine aw_ldc2 (v := (-1)) hC dX7_hasNoneBut_9 gK_X7_15 ?_
  refine aw_lxor hC dX7_hasNoneBut_12 ?_
  refine aw_land hC dX7_hasNoneBut_13 ?_
  refine aw_lconst (v := 0) hC dX7_hasNoneBut_14 (by decide) ?_
  refine aw_lcmp hC dX7_hasNoneBut_15 ?_
  refine aw_if_ne (tgt := 23) hC dX7_hasNoneBut_16 (by decide) (fun h1 => ?_) (fun h1 => ?_)
  · show AW X 0 0 23 [some (.ref b), some (.int (nI f)), some (.int (nI v))] [] T I J R
    refine aw_iconst (v := 0) hC dX7_hasNoneBut_23 (by decide) ?_
    exact aw_zreturn hC hq rfl (Or.inl rfl) dX7_hasNoneBut_24 a_le a_le (aPure_i (bI_no (fun q => absurd ((lgc0 _ _).mpr q) (by assumption))))
  · show AW X 0 0 19 [some (.ref b), some (.int (nI f)), some (.int (nI v))] [] T I J R
    refine aw_iconst (v := 1) hC dX7_hasNoneBut_19 (by decide) ?_
    refine aw_goto (tgt := 24) hC dX7_hasNoneBut_20 (by decide) ?_
    exact aw_zreturn hC hq rfl (Or.inr rfl) dX7_hasNoneBut_24 a_le a_le (aPure_i (bI_yes ((lgc0 _ _).mp (by assumption))))
set_option maxRecDepth 100000 in
theorem m_X7_summary {T : List aT} {I : aI} {J : aJ} {R : aR} {b a : Nat} (hb : HSet T R b a) {f : Nat} (hf : f < 10) : MX7_summary 0 0 [.ref b, .int (nI f)] T I J R (aPure (some (.int (sSum (J a f)))) T I J R) := by
  refine a_met (by decide +kernel) a_le (fun X hC hq => ?_)
  show AW X 0 0 0 [some (.ref b), some (.int (nI f)), none, none] [] T I J R
  refine aw_aload_n hC dX7_summary_0 rfl ?_
  refine aw_getR hC dX7_summary_1 aF_X7_9 rfl hb.1 hb.2.1 ?_
  refine aw_iload_n hC dX7_summary_4 rfl ?_
  refine aw_laload_k (j := f) hC dX7_summary_5 hb.2.2 (nI_clamp (by omega)) (vp_in_nI (by omega) (by decide)) ?_
  refine aw_lstore_n (L2 := [some (.ref b), some (.int (nI f)), some (.long (J a f)), none]) hC dX7_summary_6 rfl (by decide) rfl ?_
  refine aw_lload_n hC dX7_summary_7 rfl ?_
  refine aw_lconst (v := 0) hC dX7_summary_8 (by decide) ?_
  refine aw_lcmp hC dX7_summary_9 ?_
  refine aw_if_ne (tgt := 17) hC dX7_summary_10 (by decide) (fun h1 => ?_) (fun h1 => ?_)
  · show AW X 0 0 17 [some (.ref b), some (.int (nI f)), some (.long (J a f)), none] [] T I J R
    have hx0 : J a f ≠ 0 := fun q => absurd ((lgc0 _ _).mpr q) (by assumption)
    have hg9 := gr_pos hx0
    refine aw_sipush (v := 10000) hC dX7_summary_17 (by decide) ?_
    refine aw_lload_n hC dX7_summary_20 rfl ?_
    refine kX7_38 hC rfl (m_J13_bitCount_95d88 (J a f)) dX7_summary_21 rfl a_le a_le a_le a_le a_le rfl aPure_x (aPure_k ?_)
    show AW X 0 0 24 [some (.ref b), some (.int (nI f)), some (.long (J a f)), none] [.int (nI (sCount (J a f))), .int 10000] T I J R
    refine aw_imul hC dX7_summary_24 ?_
    refine aw_bipush (v := 100) hC dX7_summary_25 (by decide) ?_
    refine aw_lload_n hC dX7_summary_27 rfl ?_
    refine kX7_41 hC rfl (m_X7_least (J a f)) dX7_summary_28 rfl a_le a_le a_le a_le a_le rfl aPure_x (aPure_k ?_)
    show AW X 0 0 31 [some (.ref b), some (.int (nI f)), some (.long (J a f)), none] [.int (nI (sLeast (J a f))), .int 100, .int (10000 * (nI (sCount (J a f))))] T I J R
    refine aw_imul hC dX7_summary_31 ?_
    refine aw_iadd hC dX7_summary_32 ?_
    refine aw_lload_n hC dX7_summary_33 rfl ?_
    refine kX7_44 hC rfl (m_X7_greatest (J a f) hx0) dX7_summary_34 rfl a_le a_le a_le a_le a_le rfl aPure_x (aPure_k ?_)
    show AW X 0 0 37 [some (.ref b), some (.int (nI f)), some (.long (J a f)), none] [.int (nI (sGreat (J a f) - 1)), .int ((10000 * (nI (sCount (J a f)))) + (100 * (nI (sLeast (J a f)))))] T I J R
    refine aw_iadd hC dX7_summary_37 ?_
    exact aw_ireturn hC hq rfl dX7_summary_38 a_le a_le (aPure_i (by unfold sSum; rw [if_neg hx0, show nI (sGreat (J a f)) + (-1) = nI (sGreat (J a f) - 1) from nI_decs (by omega)]))
  · show AW X 0 0 13 [some (.ref b), some (.int (nI f)), some (.long (J a f)), none] [] T I J R
    refine aw_iconst (v := 0) hC dX7_summary_13 (by decide) ?_
    refine aw_goto (tgt := 38) hC dX7_summary_14 (by decide) ?_
    exact aw_ireturn hC hq rfl dX7_summary_38 a_le a_le (aPure_i (by unfold sSum; rw [if_pos ((lgc0 _ _).mp (by assumption))]))
