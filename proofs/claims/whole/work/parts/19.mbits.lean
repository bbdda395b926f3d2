theorem least_a {x : Int64} {k : Nat} (hno : ∀ j, j < k → xb x j = false) (h1 : k ≤ 64) (h : 64 ≤ k) : nI k = nI (sLeast x) := by rw [sLeast_eq hno (Or.inl (by omega))]
theorem least_b {x : Int64} {k : Nat} (hno : ∀ j, j < k → xb x j = false) (h1 : k < 64) (h : ¬ lg_cmp ((x.toUInt64 >>> ((nI k).toInt64.toUInt64 &&& Int64.toUInt64 63)).toInt64 &&& 1) 0 = 0) : nI k = nI (sLeast x) := by
  rw [sLeast_eq hno (Or.inr ⟨h1, ?_⟩)]
  cases e : xb x k with
  | true => rfl
  | false => exact absurd ((lgc0 _ _).mpr ((xb_test h1).mpr e)) h
set_option maxRecDepth 100000 in
theorem m_X12_least {T : List aT} {I : aI} {J : aJ} {R : aR} (x : Int64) : MX12_least 0 0 [.long x] T I J R (aPure (some (.int (nI (sLeast x)))) T I J R) := by
  refine a_met (by decide +kernel) a_le (fun X hC hq => ?_)
  show AW X 0 0 0 [some (.long x), none, none] [] T I J R
  refine aw_iconst (v := 0) hC dX12_least_0 (by decide) ?_
  refine aw_istore_n (L2 := [some (.long x), none, some (.int 0)]) hC dX12_least_1 rfl (by decide) rfl ?_
  have loop : ∀ k, k ≤ 64 → (∀ j, j < k → xb x j = false) → AW X 0 0 2 [some (.long x), none, some (.int (nI k))] [] T I J R := by
    refine a_down 64 (fun k hkloop ihloop => ?_)
    intro hno
    refine aw_iload_n hC dX12_least_2 rfl ?_
    refine aw_bipush (v := 64) hC dX12_least_3 (by decide) ?_
    refine aw_icmp_ge (tgt := 24) hC dX12_least_5 (by decide) (fun h1 => ?_) (fun h1 => ?_)
    · show AW X 0 0 24 [some (.long x), none, some (.int (nI k))] [] T I J R
      have h1n : 64 ≤ k := (nI_leI (a := 64) (b := k) (by omega) (by omega)).mp h1
      refine aw_iload_n hC dX12_least_24 rfl ?_
      exact aw_ireturn hC hq rfl dX12_least_25 a_le a_le (aPure_i (by first | exact least_a hno (by omega) (by omega) | exact least_b hno (by omega) (by assumption)))
    · show AW X 0 0 8 [some (.long x), none, some (.int (nI k))] [] T I J R
      have h1n : ¬ 64 ≤ k := fun q9 => h1 ((nI_leI (a := 64) (b := k) (by omega) (by omega)).mpr q9)
      refine aw_lload_n hC dX12_least_8 rfl ?_
      refine aw_iload_n hC dX12_least_9 rfl ?_
      refine aw_lushr hC dX12_least_10 ?_
      refine aw_lconst (v := 1) hC dX12_least_11 (by decide) ?_
      refine aw_land hC dX12_least_12 ?_
      refine aw_lconst (v := 0) hC dX12_least_13 (by decide) ?_
      refine aw_lcmp hC dX12_least_14 ?_
      refine aw_if_ne (tgt := 24) hC dX12_least_15 (by decide) (fun h2 => ?_) (fun h2 => ?_)
      · show AW X 0 0 24 [some (.long x), none, some (.int (nI k))] [] T I J R
        refine aw_iload_n hC dX12_least_24 rfl ?_
        exact aw_ireturn hC hq rfl dX12_least_25 a_le a_le (aPure_i (by first | exact least_a hno (by omega) (by omega) | exact least_b hno (by omega) (by assumption)))
      · show AW X 0 0 18 [some (.long x), none, some (.int (nI k))] [] T I J R
        refine aw_iinc (v := nI (k + 1)) (L2 := [some (.long x), none, some (.int (nI (k + 1)))]) hC dX12_least_18 rfl (nI_inc _) (by decide) rfl ?_
        refine aw_goto (tgt := 2) hC dX12_least_21 (by decide) ?_
        exact ihloop (by omega) (lt_s hno ((xb_test (by omega)).mp ((lgc0 _ _).mp (by assumption))))
  exact loop 0 (Nat.zero_le _) (fun j hj => absurd hj (by omega))
set_option maxRecDepth 100000 in
theorem m_X12_count {T : List aT} {I : aI} {J : aJ} {R : aR} (x : Int64) : MX12_count 0 0 [.long x] T I J R (aPure (some (.int (nI (sCount x)))) T I J R) := by
  refine a_met (by decide +kernel) a_le (fun X hC hq => ?_)
  show AW X 0 0 0 [some (.long x), none, none, none] [] T I J R
  refine aw_iconst (v := 0) hC dX12_count_0 (by decide) ?_
  refine aw_istore_n (L2 := [some (.long x), none, some (.int 0), none]) hC dX12_count_1 rfl (by decide) rfl ?_
  refine aw_iconst (v := 0) hC dX12_count_2 (by decide) ?_
  refine aw_istore_n (L2 := [some (.long x), none, some (.int 0), some (.int 0)]) hC dX12_count_3 rfl (by decide) rfl ?_
  have loop : ∀ k, k ≤ 64 → AW X 0 0 4 [some (.long x), none, some (.int (nI (cntN x k))), some (.int (nI k))] [] T I J R := by
    refine a_down 64 (fun k hkloop ihloop => ?_)
    refine aw_iload_n hC dX12_count_4 rfl ?_
    refine aw_bipush (v := 64) hC dX12_count_5 (by decide) ?_
    refine aw_icmp_ge (tgt := 25) hC dX12_count_7 (by decide) (fun h1 => ?_) (fun h1 => ?_)
    · show AW X 0 0 25 [some (.long x), none, some (.int (nI (cntN x k))), some (.int (nI k))] [] T I J R
      have h1n : 64 ≤ k := (nI_leI (a := 64) (b := k) (by omega) (by omega)).mp h1
      refine aw_iload_n hC dX12_count_25 rfl ?_
      exact aw_ireturn hC hq rfl dX12_count_26 a_le a_le (aPure_i (by rw [sCount, show k = 64 from Nat.le_antisymm (by assumption) (by assumption)]))
    · show AW X 0 0 10 [some (.long x), none, some (.int (nI (cntN x k))), some (.int (nI k))] [] T I J R
      have h1n : ¬ 64 ≤ k := fun q9 => h1 ((nI_leI (a := 64) (b := k) (by omega) (by omega)).mpr q9)
      refine aw_iload_n hC dX12_count_10 rfl ?_
      refine aw_lload_n hC dX12_count_11 rfl ?_
      refine aw_iload_n hC dX12_count_12 rfl ?_
      refine aw_lushr hC dX12_count_13 ?_
      refine aw_lconst (v := 1) hC dX12_count_14 (by decide) ?_
      refine aw_land hC dX12_count_15 ?_
      refine aw_l2i hC dX12_count_16 ?_
      refine aw_iadd hC dX12_count_17 ?_
      refine aw_istore_n (L2 := [some (.long x), none, some (.int ((nI (cntN x k)) + ((((x.toUInt64 >>> ((nI k).toInt64.toUInt64 &&& Int64.toUInt64 63)).toInt64) &&& 1).toInt32))), some (.int (nI k))]) hC dX12_count_18 rfl (by decide) rfl ?_
      refine aw_iinc (v := nI (k + 1)) (L2 := [some (.long x), none, some (.int ((nI (cntN x k)) + ((((x.toUInt64 >>> ((nI k).toInt64.toUInt64 &&& Int64.toUInt64 63)).toInt64) &&& 1).toInt32))), some (.int (nI (k + 1)))]) hC dX12_count_19 rfl (nI_inc _) (by decide) rfl ?_
      refine aw_goto (tgt := 4) hC dX12_count_22 (by decide) ?_
      rw [show nI (cntN x k) + (((x.toUInt64 >>> ((nI k).toInt64.toUInt64 &&& Int64.toUInt64 63)).toInt64) &&& 1).toInt32 = nI (cntN x (k + 1)) from by rw [xb_low (by omega), cntN]; split <;> first | exact nI_1 _ | simp [nI]]
      exact ihloop (by omega)
  exact loop 0 (Nat.zero_le _)
