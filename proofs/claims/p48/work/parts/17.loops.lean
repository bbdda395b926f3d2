def hasIn (f : Nat → Int32) (n : Nat) (x : Int32) : Bool := (List.range n).any (fun j => f j == x)
theorem hasIn_iff {f : Nat → Int32} {n : Nat} {x : Int32} : hasIn f n x = true ↔ ∃ j, j < n ∧ f j = x := by
  simp [hasIn, List.any_eq_true]
theorem hasIn_no {f : Nat → Int32} {n : Nat} {x : Int32} (h : ∀ j, j < n → f j ≠ x) : hasIn f n x = false := by
  cases e : hasIn f n x with
  | false => rfl
  | true => obtain ⟨j, h1, h2⟩ := hasIn_iff.mp e; exact absurd h2 (h j h1)
theorem hasIn_yes {f : Nat → Int32} {n j : Nat} {x : Int32} (h : j < n) (h2 : f j = x) : hasIn f n x = true := hasIn_iff.mpr ⟨j, h, h2⟩
set_option maxRecDepth 100000 in
theorem m_X5_hasKey {T : List aT} {I : aI} {J : aJ} {R : aR} {g kk n : Nat} (hg : T[g]? = some (.inr 5)) (hk : R g 1 = some kk) (hkk : T[kk]? = some (.inl (.int, 8))) (hn : I g 2 = nI n) (hn8 : n ≤ 8) (x : Int32) : MX5_hasKey 0 0 [.ref g, .int x] T I J R (aPure (some (.int (bI (hasIn (I kk) n x)))) T I J R) := by
  refine a_met (by decide +kernel) a_le (fun X hC hq => ?_)
  show AW X 0 0 0 [some (.ref g), some (.int x), none] [] T I J R
  refine aw_iconst (v := 0) hC dX5_hasKey_0 (by decide) ?_
  refine aw_istore_n (L2 := [some (.ref g), some (.int x), some (.int 0)]) hC dX5_hasKey_1 rfl (by decide) rfl ?_
  have loop : ∀ k, k ≤ n → (∀ j, j < k → I kk j ≠ x) → AW X 0 0 2 [some (.ref g), some (.int x), some (.int (nI k))] [] T I J R := by
    refine a_down n (fun k hkloop ihloop => ?_)
    intro hno
    refine aw_iload_n hC dX5_hasKey_2 rfl ?_
    refine aw_aload_n hC dX5_hasKey_3 rfl ?_
    refine aw_getI hC dX5_hasKey_4 aF_X5_28 rfl (by assumption) ?_
    rw [hn]
    refine aw_icmp_ge (tgt := 28) hC dX5_hasKey_7 (by decide) (fun h1 => ?_) (fun h1 => ?_)
    · show AW X 0 0 28 [some (.ref g), some (.int x), some (.int (nI k))] [] T I J R
      have h1n : n ≤ k := (nI_leI (a := n) (b := k) (by omega) (by omega)).mp h1
      refine aw_iconst (v := 0) hC dX5_hasKey_28 (by decide) ?_
      exact aw_zreturn hC hq rfl (Or.inl rfl) dX5_hasKey_29 a_le a_le (aPure_i (by rw [hasIn_no (fun j hj => hno j (by omega))]; rfl))
    · show AW X 0 0 10 [some (.ref g), some (.int x), some (.int (nI k))] [] T I J R
      have h1n : ¬ n ≤ k := fun q9 => h1 ((nI_leI (a := n) (b := k) (by omega) (by omega)).mpr q9)
      refine aw_aload_n hC dX5_hasKey_10 rfl ?_
      refine aw_getR hC dX5_hasKey_11 aF_X5_9 rfl (by assumption) hk ?_
      refine aw_iload_n hC dX5_hasKey_14 rfl ?_
      refine aw_iaload_k (j := k) hC dX5_hasKey_15 (by assumption) (nI_clamp (by omega)) (vp_in_nI (by omega) (by decide)) ?_
      refine aw_iload_n hC dX5_hasKey_16 rfl ?_
      refine aw_icmp_ne (tgt := 22) hC dX5_hasKey_17 (by decide) (fun h2 => ?_) (fun h2 => ?_)
      · show AW X 0 0 22 [some (.ref g), some (.int x), some (.int (nI k))] [] T I J R
        refine aw_iinc (v := nI (k + 1)) (L2 := [some (.ref g), some (.int x), some (.int (nI (k + 1)))]) hC dX5_hasKey_22 rfl (nI_inc _) (by decide) rfl ?_
        refine aw_goto (tgt := 2) hC dX5_hasKey_25 (by decide) ?_
        exact ihloop (by omega) (lt_s hno (by assumption))
      · show AW X 0 0 20 [some (.ref g), some (.int x), some (.int (nI k))] [] T I J R
        refine aw_iconst (v := 1) hC dX5_hasKey_20 (by decide) ?_
        exact aw_zreturn hC hq rfl (Or.inr rfl) dX5_hasKey_21 a_le a_le (aPure_i (by first | rw [hasIn_yes (j := k) (by omega) (by assumption)]; rfl))
  exact loop 0 (Nat.zero_le _) (fun j hj => absurd hj (by omega))
