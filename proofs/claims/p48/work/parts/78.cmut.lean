abbrev kI0 (f : Nat → Int32) (p n : Nat) (x : Int32) : Nat → Int32 := fun j => if j = p then x else if p < j ∧ j ≤ n then f (j - 1) else f j
abbrev kD0 (f : Nat → Int32) (p n : Nat) : Nat → Int32 := fun j => if p ≤ j ∧ j + 1 < n then f (j + 1) else f j
set_option maxRecDepth 100000 in
theorem m_X5_putKey {T : List aT} {I : aI} {J : aJ} {R : aR} {q n p : Nat} (hqt : T[q]? = some (.inr 5)) (hrq : R q 1 = some (q + 1)) (ht1 : T[q + 1]? = some (.inl (.int, 8))) (hn : I q 2 = nI n) (hp : p ≤ n) (hn8 : n < 8) (x : Int32) : MX5_putKey 0 0 [.ref q, .int (nI p), .int x] T I J R (aPure none T (a_u (a_ur I (q + 1) (kI0 (I (q + 1)) p n x)) q 2 (nI (n + 1))) J R) := by
  refine a_met (by decide +kernel) a_le (fun X hC hq => ?_)
  show AW X 0 0 0 [some (.ref q), some (.int (nI p)), some (.int x), none] [] T I J R
  refine aw_aload_n hC dX5_putKey_0 rfl ?_
  refine aw_getI hC dX5_putKey_1 aF_X5_28 rfl hqt ?_
  rw [hn]
  refine aw_istore_n (L2 := [some (.ref q), some (.int (nI p)), some (.int x), some (.int (nI n))]) hC dX5_putKey_4 rfl (by decide) rfl ?_
  refine aw_setI (I2 := a_ur I (q + 1) (fun j => if n < j ∧ j ≤ n then I (q + 1) (j - 1) else I (q + 1) j)) (a_ur_id (fun j => by rw [if_neg (by omega)])).symm ?_
  have loop : ∀ k, p ≤ k → k ≤ n → AW X 0 0 5 [some (.ref q), some (.int (nI p)), some (.int x), some (.int (nI k))] [] T (a_ur I (q + 1) (fun j => if k < j ∧ j ≤ n then I (q + 1) (j - 1) else I (q + 1) j)) J R := by
    refine upN (fun k ih => ?_)
    intro hk1 hk2
    refine aw_iload_n hC dX5_putKey_5 rfl ?_
    refine aw_iload_n hC dX5_putKey_6 rfl ?_
    refine aw_icmp_le (tgt := 30) hC dX5_putKey_7 (by decide) (fun h1 => ?_) (fun h1 => ?_)
    · show AW X 0 0 30 [some (.ref q), some (.int (nI p)), some (.int x), some (.int (nI k))] [] T (a_ur I (q + 1) (fun j => if k < j ∧ j ≤ n then I (q + 1) (j - 1) else I (q + 1) j)) J R
      have h1n : k ≤ p := (nI_leI (a := k) (b := p) (by omega) (by omega)).mp h1
      refine aw_aload_n hC dX5_putKey_30 rfl ?_
      refine aw_getR hC dX5_putKey_31 aF_X5_9 rfl hqt hrq ?_
      refine aw_iload_n hC dX5_putKey_34 rfl ?_
      refine aw_iload_n hC dX5_putKey_35 rfl ?_
      refine aw_iastore_k (j := p) hC dX5_putKey_36 ht1 (nI_clamp (by omega)) (vp_in_nI (by omega) (by decide)) ?_
      refine aw_aload_n hC dX5_putKey_37 rfl ?_
      refine aw_dup hC dX5_putKey_38 rfl ?_
      refine aw_getI hC dX5_putKey_39 aF_X5_28 rfl hqt ?_
      rw [a_u_ne (f := a_ur I (q + 1) (fun j => if k < j ∧ j ≤ n then I (q + 1) (j - 1) else I (q + 1) j)) (o := (q + 1)) (k := p) (a := q) (b := 2) (v := x) (fun q9 => absurd q9.1 (show q ≠ q + 1 by omega))]
      rw [a_ur_ne (f := I) (o := (q + 1)) (a := q) (g := fun j => if k < j ∧ j ≤ n then I (q + 1) (j - 1) else I (q + 1) j) (show q ≠ q + 1 by omega)]
      rw [hn]
      refine aw_iconst (v := 1) hC dX5_putKey_42 (by decide) ?_
      refine aw_iadd hC dX5_putKey_43 ?_
      rw [show (nI n) + 1 = nI (n + 1) from nI_add n 1]
      refine aw_putI hC dX5_putKey_44 aF_X5_28 rfl rfl hqt ?_
      exact aw_return hC hq rfl dX5_putKey_47 a_le a_le (aPure_ev (by have e9 : k = p := (by omega); subst e9; rw [a_ur_put]) rfl rfl)
    · show AW X 0 0 10 [some (.ref q), some (.int (nI p)), some (.int x), some (.int (nI k))] [] T (a_ur I (q + 1) (fun j => if k < j ∧ j ≤ n then I (q + 1) (j - 1) else I (q + 1) j)) J R
      have h1n : ¬ k ≤ p := fun q9 => h1 ((nI_leI (a := k) (b := p) (by omega) (by omega)).mpr q9)
      refine aw_aload_n hC dX5_putKey_10 rfl ?_
      refine aw_getR hC dX5_putKey_11 aF_X5_9 rfl hqt hrq ?_
      refine aw_iload_n hC dX5_putKey_14 rfl ?_
      refine aw_aload_n hC dX5_putKey_15 rfl ?_
      refine aw_getR hC dX5_putKey_16 aF_X5_9 rfl hqt hrq ?_
      refine aw_iload_n hC dX5_putKey_19 rfl ?_
      refine aw_iconst (v := 1) hC dX5_putKey_20 (by decide) ?_
      refine aw_isub hC dX5_putKey_21 ?_
      rw [show (nI k) - 1 = nI (k - 1) from pk_sub (a := k) (b := 1) (by omega)]
      refine aw_iaload_k (j := (k - 1)) hC dX5_putKey_22 ht1 (nI_clamp (by omega)) (vp_in_nI (by omega) (by decide)) ?_
      rw [a_ur_self (f := I) (o := (q + 1)) (g := fun j => if k < j ∧ j ≤ n then I (q + 1) (j - 1) else I (q + 1) j)]
      refine aw_iastore_k (j := k) hC dX5_putKey_23 ht1 (nI_clamp (by omega)) (vp_in_nI (by omega) (by decide)) ?_
      refine aw_iinc (v := nI (k - 1)) (L2 := [some (.ref q), some (.int (nI p)), some (.int x), some (.int (nI (k - 1)))]) hC dX5_putKey_24 rfl (nI_decs (by omega)) (by decide) rfl ?_
      refine aw_goto (tgt := 5) hC dX5_putKey_27 (by decide) ?_
      rw [show a_u (a_ur I (q + 1) (fun j => if k < j ∧ j ≤ n then I (q + 1) (j - 1) else I (q + 1) j)) (q + 1) k ((fun j => if k < j ∧ j ≤ n then I (q + 1) (j - 1) else I (q + 1) j) (k - 1)) = a_ur I (q + 1) (fun j => if (k - 1) < j ∧ j ≤ n then I (q + 1) (j - 1) else I (q + 1) j) from by rw [a_ur_put]; exact a_ur_ext (fun j => by clear hC hq; (try dsimp only); grind)]
      exact ih (k - 1) (by omega) (by omega) (by omega)
  exact loop _ hp (Nat.le_refl _)
set_option maxRecDepth 100000 in
theorem m_X5_takeKey {T : List aT} {I : aI} {J : aJ} {R : aR} {q n p : Nat} (hqt : T[q]? = some (.inr 5)) (hrq : R q 1 = some (q + 1)) (ht1 : T[q + 1]? = some (.inl (.int, 8))) (hn : I q 2 = nI n) (hp : p < n) (hn8 : n ≤ 8) : MX5_takeKey 0 0 [.ref q, .int (nI p)] T I J R (aPure (some (.int (I (q + 1) p))) T (a_ur (a_u I q 2 (nI (n - 1))) (q + 1) (kD0 (I (q + 1)) p n)) J R) := by
  refine a_met (by decide +kernel) a_le (fun X hC hq => ?_)
  show AW X 0 0 0 [some (.ref q), some (.int (nI p)), none, none] [] T I J R
  refine aw_aload_n hC dX5_takeKey_0 rfl ?_
  refine aw_getR hC dX5_takeKey_1 aF_X5_9 rfl hqt hrq ?_
  refine aw_iload_n hC dX5_takeKey_4 rfl ?_
  refine aw_iaload_k (j := p) hC dX5_takeKey_5 ht1 (nI_clamp (by omega)) (vp_in_nI (by omega) (by decide)) ?_
  refine aw_istore_n (L2 := [some (.ref q), some (.int (nI p)), some (.int (I (q + 1) p)), none]) hC dX5_takeKey_6 rfl (by decide) rfl ?_
  refine aw_aload_n hC dX5_takeKey_7 rfl ?_
  refine aw_dup hC dX5_takeKey_8 rfl ?_
  refine aw_getI hC dX5_takeKey_9 aF_X5_28 rfl hqt ?_
  rw [hn]
  refine aw_iconst (v := 1) hC dX5_takeKey_12 (by decide) ?_
  refine aw_isub hC dX5_takeKey_13 ?_
  rw [show (nI n) - 1 = nI (n - 1) from pk_sub (a := n) (b := 1) (by omega)]
  refine aw_putI hC dX5_takeKey_14 aF_X5_28 rfl rfl hqt ?_
  refine aw_iload_n hC dX5_takeKey_17 rfl ?_
  refine aw_istore_n (L2 := [some (.ref q), some (.int (nI p)), some (.int (I (q + 1) p)), some (.int (nI p))]) hC dX5_takeKey_18 rfl (by decide) rfl ?_
  refine aw_setI (I2 := a_ur (a_u I q 2 (nI (n - 1))) (q + 1) (fun j => if p ≤ j ∧ j < p then I (q + 1) (j + 1) else I (q + 1) j)) (a_ur_id (fun j => by rw [if_neg (by omega), a_u_row (show q + 1 ≠ q by omega)])).symm ?_
  have loop : ∀ k, k ≤ n - 1 → p ≤ k → AW X 0 0 19 [some (.ref q), some (.int (nI p)), some (.int (I (q + 1) p)), some (.int (nI k))] [] T (a_ur (a_u I q 2 (nI (n - 1))) (q + 1) (fun j => if p ≤ j ∧ j < k then I (q + 1) (j + 1) else I (q + 1) j)) J R := by
    refine a_down (n - 1) (fun k hk_k ih_k => ?_)
    intro hpk
    refine aw_iload_n hC dX5_takeKey_19 rfl ?_
    refine aw_aload_n hC dX5_takeKey_20 rfl ?_
    refine aw_getI hC dX5_takeKey_21 aF_X5_28 rfl hqt ?_
    rw [a_ur_ne (f := a_u I q 2 (nI (n - 1))) (o := (q + 1)) (a := q) (g := fun j => if p ≤ j ∧ j < k then I (q + 1) (j + 1) else I (q + 1) j) (show q ≠ q + 1 by omega)]
    rw [a_u_self (f := I) (o := q) (k := 2) (v := nI (n - 1))]
    refine aw_icmp_ge (tgt := 47) hC dX5_takeKey_24 (by decide) (fun h1 => ?_) (fun h1 => ?_)
    · show AW X 0 0 47 [some (.ref q), some (.int (nI p)), some (.int (I (q + 1) p)), some (.int (nI k))] [] T (a_ur (a_u I q 2 (nI (n - 1))) (q + 1) (fun j => if p ≤ j ∧ j < k then I (q + 1) (j + 1) else I (q + 1) j)) J R
      have h1n : (n - 1) ≤ k := (nI_leI (a := (n - 1)) (b := k) (by omega) (by omega)).mp h1
      refine aw_iload_n hC dX5_takeKey_47 rfl ?_
      exact aw_ireturn hC hq rfl dX5_takeKey_48 a_le a_le (aPure_e rfl (a_ur_ext (fun j => by clear hC hq; (try dsimp only); grind)) rfl rfl)
    · show AW X 0 0 27 [some (.ref q), some (.int (nI p)), some (.int (I (q + 1) p)), some (.int (nI k))] [] T (a_ur (a_u I q 2 (nI (n - 1))) (q + 1) (fun j => if p ≤ j ∧ j < k then I (q + 1) (j + 1) else I (q + 1) j)) J R
      have h1n : ¬ (n - 1) ≤ k := fun q9 => h1 ((nI_leI (a := (n - 1)) (b := k) (by omega) (by omega)).mpr q9)
      refine aw_aload_n hC dX5_takeKey_27 rfl ?_
      refine aw_getR hC dX5_takeKey_28 aF_X5_9 rfl hqt hrq ?_
      refine aw_iload_n hC dX5_takeKey_31 rfl ?_
      refine aw_aload_n hC dX5_takeKey_32 rfl ?_
      refine aw_getR hC dX5_takeKey_33 aF_X5_9 rfl hqt hrq ?_
      refine aw_iload_n hC dX5_takeKey_36 rfl ?_
      refine aw_iconst (v := 1) hC dX5_takeKey_37 (by decide) ?_
      refine aw_iadd hC dX5_takeKey_38 ?_
      rw [show (nI k) + 1 = nI (k + 1) from nI_add k 1]
      refine aw_iaload_k (j := (k + 1)) hC dX5_takeKey_39 ht1 (nI_clamp (by omega)) (vp_in_nI (by omega) (by decide)) ?_
      rw [a_ur_self (f := a_u I q 2 (nI (n - 1))) (o := (q + 1)) (g := fun j => if p ≤ j ∧ j < k then I (q + 1) (j + 1) else I (q + 1) j)]
      refine aw_iastore_k (j := k) hC dX5_takeKey_40 ht1 (nI_clamp (by omega)) (vp_in_nI (by omega) (by decide)) ?_
      refine aw_iinc (v := nI (k + 1)) (L2 := [some (.ref q), some (.int (nI p)), some (.int (I (q + 1) p)), some (.int (nI (k + 1)))]) hC dX5_takeKey_41 rfl (nI_inc _) (by decide) rfl ?_
      refine aw_goto (tgt := 19) hC dX5_takeKey_44 (by decide) ?_
      rw [show a_u (a_ur (a_u I q 2 (nI (n - 1))) (q + 1) (fun j => if p ≤ j ∧ j < k then I (q + 1) (j + 1) else I (q + 1) j)) (q + 1) k ((fun j => if p ≤ j ∧ j < k then I (q + 1) (j + 1) else I (q + 1) j) (k + 1)) = a_ur (a_u I q 2 (nI (n - 1))) (q + 1) (fun j => if p ≤ j ∧ j < (k + 1) then I (q + 1) (j + 1) else I (q + 1) j) from by rw [a_ur_put]; exact a_ur_ext (fun j => by clear hC hq; (try dsimp only); grind)]
      exact ih_k (by omega) (by omega)
  exact loop p (by omega) (Nat.le_refl _)
set_option maxRecDepth 100000 in
theorem m_X3_turnRow {T : List aT} {I : aI} {J : aJ} {R : aR} {a N k : Nat} (ha : T[a]? = some (.inl (.int, N))) (hk : k + 2 < N) (hN : N ≤ 192) : MX3_turnRow 0 0 [.ref a, .int (nI k)] T I J R (aPure none T (a_ur I a (chgR (I a) k)) J R) := by
  refine a_met (by decide +kernel) a_le (fun X hC hq => ?_)
  show AW X 0 0 0 [some (.ref a), some (.int (nI k)), none] [] T I J R
  refine aw_aload_n hC dX3_turnRow_0 rfl ?_
  refine aw_iload_n hC dX3_turnRow_1 rfl ?_
  refine aw_iaload_k (j := k) hC dX3_turnRow_2 ha (nI_clamp (by omega)) (vp_in_nI (by omega) (by omega)) ?_
  refine aw_istore_n (L2 := [some (.ref a), some (.int (nI k)), some (.int (I a k))]) hC dX3_turnRow_3 rfl (by decide) rfl ?_
  refine aw_aload_n hC dX3_turnRow_4 rfl ?_
  refine aw_iload_n hC dX3_turnRow_5 rfl ?_
  refine aw_iconst (v := 2) hC dX3_turnRow_6 (by decide) ?_
  refine aw_aload_n hC dX3_turnRow_7 rfl ?_
  refine aw_iload_n hC dX3_turnRow_8 rfl ?_
  refine aw_iconst (v := 1) hC dX3_turnRow_9 (by decide) ?_
  refine aw_iadd hC dX3_turnRow_10 ?_
  rw [show (nI k) + 1 = nI (k + 1) from nI_add k 1]
  refine aw_iaload_k (j := (k + 1)) hC dX3_turnRow_11 ha (nI_clamp (by omega)) (vp_in_nI (by omega) (by omega)) ?_
  refine aw_imul hC dX3_turnRow_12 ?_
  refine aw_iastore_k (j := k) hC dX3_turnRow_13 ha (nI_clamp (by omega)) (vp_in_nI (by omega) (by omega)) ?_
  refine aw_aload_n hC dX3_turnRow_14 rfl ?_
  refine aw_iload_n hC dX3_turnRow_15 rfl ?_
  refine aw_iconst (v := 1) hC dX3_turnRow_16 (by decide) ?_
  refine aw_iadd hC dX3_turnRow_17 ?_
  rw [show (nI k) + 1 = nI (k + 1) from nI_add k 1]
  refine aw_iconst (v := 2) hC dX3_turnRow_18 (by decide) ?_
  refine aw_iload_n hC dX3_turnRow_19 rfl ?_
  refine aw_imul hC dX3_turnRow_20 ?_
  refine aw_iastore_k (j := (k + 1)) hC dX3_turnRow_21 ha (nI_clamp (by omega)) (vp_in_nI (by omega) (by omega)) ?_
  refine aw_aload_n hC dX3_turnRow_22 rfl ?_
  refine aw_iload_n hC dX3_turnRow_23 rfl ?_
  refine aw_iconst (v := 2) hC dX3_turnRow_24 (by decide) ?_
  refine aw_iadd hC dX3_turnRow_25 ?_
  rw [show (nI k) + 2 = nI (k + 2) from nI_add k 2]
  refine aw_iconst (v := 2) hC dX3_turnRow_26 (by decide) ?_
  refine aw_aload_n hC dX3_turnRow_27 rfl ?_
  refine aw_iload_n hC dX3_turnRow_28 rfl ?_
  refine aw_iconst (v := 2) hC dX3_turnRow_29 (by decide) ?_
  refine aw_iadd hC dX3_turnRow_30 ?_
  rw [show (nI k) + 2 = nI (k + 2) from nI_add k 2]
  refine aw_iaload_k (j := (k + 2)) hC dX3_turnRow_31 ha (nI_clamp (by omega)) (vp_in_nI (by omega) (by omega)) ?_
  refine aw_imul hC dX3_turnRow_32 ?_
  refine aw_iastore_k (j := (k + 2)) hC dX3_turnRow_33 ha (nI_clamp (by omega)) (vp_in_nI (by omega) (by omega)) ?_
  exact aw_return hC hq rfl dX3_turnRow_34 a_le a_le (aPure_ev chg_lem rfl rfl)
set_option maxRecDepth 100000 in
theorem m_X4_addResource {T : List aT} {I : aI} {J : aJ} {R : aR} (hT : aPT T) (hR : aPR R) {r : Nat} (hr : I 19 6 = nI r) (hr9 : r < 60) (t : Int32) : MX4_addResource 0 0 [.ref 19, .int t] T I J R (aPure (some (.int (nI r))) T (a_u (a_u I 22 r t) 19 6 (nI (r + 1))) J R) := by
  refine a_met (by decide +kernel) a_le (fun X hC hq => ?_)
  show AW X 0 0 0 [some (.ref 19), some (.int t)] [] T I J R
  refine aw_aload_n hC dX4_addResource_0 rfl ?_
  refine aw_getR hC dX4_addResource_1 aF_X4_23 rfl (tg_19 hT) (pr_19_3 hR) ?_
  refine aw_aload_n hC dX4_addResource_4 rfl ?_
  refine aw_getI hC dX4_addResource_5 aF_X4_77 rfl (tg_19 hT) ?_
  rw [hr]
  refine aw_iload_n hC dX4_addResource_8 rfl ?_
  refine aw_iastore_k (j := r) hC dX4_addResource_9 (tg_22 hT) (nI_clamp (by omega)) (vp_in_nI (by omega) (by decide)) ?_
  refine aw_aload_n hC dX4_addResource_10 rfl ?_
  refine aw_dup hC dX4_addResource_11 rfl ?_
  refine aw_getI hC dX4_addResource_12 aF_X4_77 rfl (tg_19 hT) ?_
  rw [a_u_ne (f := I) (o := 22) (k := r) (a := 19) (b := 6) (v := t) (fun q => absurd q.1 (by decide))]
  rw [hr]
  refine aw_iconst (v := 1) hC dX4_addResource_15 (by decide) ?_
  refine aw_iadd hC dX4_addResource_16 ?_
  rw [show (nI r) + 1 = nI (r + 1) from nI_add r 1]
  refine aw_putI hC dX4_addResource_17 aF_X4_77 rfl rfl (tg_19 hT) ?_
  refine aw_aload_n hC dX4_addResource_20 rfl ?_
  refine aw_getI hC dX4_addResource_21 aF_X4_77 rfl (tg_19 hT) ?_
  rw [a_u_self (f := a_u I 22 r t) (o := 19) (k := 6) (v := nI (r + 1))]
  refine aw_iconst (v := 1) hC dX4_addResource_24 (by decide) ?_
  refine aw_isub hC dX4_addResource_25 ?_
  rw [show (nI (r + 1)) - 1 = nI ((r + 1) - 1) from pk_sub (a := (r + 1)) (b := 1) (by omega)]
  exact aw_ireturn hC hq rfl dX4_addResource_26 a_le a_le (aPure_e rfl rfl rfl rfl)
set_option maxRecDepth 100000 in
theorem m_X4_isComputedSource {T : List aT} {I : aI} {J : aJ} {R : aR} (hT : aPT T) (hR : aPR R) {m : aI} {g : Nat} {gq : Nat → Nat} (hG : CGn T I R m g gq) (hg : GW m g) (hY : CTy I m) {s : Nat} (hs1 : 10 ≤ s) (hs2 : s < 22) (hsg : (s - 10) / 3 < g) : MX4_isComputedSource 0 0 [.ref 19, .int (nI s)] T I J R (aPure (some (.int (bI (decide (m 58 (3 * iN m 62 ((s - 10) / 3) + (s - 10) % 3) &&& 2 ≠ 0))))) T I J R) := by
  refine a_met (by decide +kernel) a_le (fun X hC hq => ?_)
  show AW X 0 0 0 [some (.ref 19), some (.int (nI s))] [] T I J R
  have hg4 := hg.g4
  have hty := hg.ty ((s - 10) / 3) (by omega)
  refine aw_aload_n hC dX4_isComputedSource_0 rfl ?_
  refine aw_iload_n hC dX4_isComputedSource_1 rfl ?_
  refine kX4_63 hC rfl (m_X4_generatorOfSource (nI s)) dX4_isComputedSource_2 rfl a_le a_le a_le a_le a_le rfl aPure_x (aPure_k ?_)
  show AW X 0 0 5 [some (.ref 19), some (.int (nI s))] [.int ((nI s - 10) / 3), .ref 19] T I J R
  rw [so_g s (by omega) (by omega)]
  refine kX4_67 hC rfl (m_X4_typeOfGenerator (I := I) hT hR hG hg (i := ((s - 10) / 3)) (by omega)) dX4_isComputedSource_5 (tg_19 hT) rfl a_le a_le a_le a_le a_le rfl aPure_x (aPure_k ?_)
  show AW X 0 0 8 [some (.ref 19), some (.int (nI s))] [.ref (27 + 2 * (iN m 62 ((s - 10) / 3)))] T I J R
  refine aw_iload_n hC dX4_isComputedSource_8 rfl ?_
  refine kX4_71 hC rfl (m_X4_attributeOfSource (nI s)) dX4_isComputedSource_9 rfl a_le a_le a_le a_le a_le rfl aPure_x (aPure_k ?_)
  show AW X 0 0 12 [some (.ref 19), some (.int (nI s))] [.int ((nI s - 10) - (nI s - 10) / 3 * 3), .ref (27 + 2 * (iN m 62 ((s - 10) / 3)))] T I J R
  rw [so_a s (by omega) (by omega)]
  refine aw_iconst (v := 2) hC dX4_isComputedSource_12 (by decide) ?_
  refine kX4_74 hC rfl (m_X9_is (I := I) hT hR hY (t := (iN m 62 ((s - 10) / 3))) (a := ((s - 10) % 3)) (by omega) (by omega) (2 : Int32)) dX4_isComputedSource_13 (ty_tg hT (by omega)) rfl a_le a_le a_le a_le a_le rfl aPure_x (aPure_k ?_)
  show AW X 0 0 16 [some (.ref 19), some (.int (nI s))] [.int (bI (decide (m 58 (3 * (iN m 62 ((s - 10) / 3)) + ((s - 10) % 3)) &&& (2 : Int32) ≠ 0)))] T I J R
  exact aw_zreturn hC hq rfl (bI_01 _) dX4_isComputedSource_16 a_le a_le (aPure_i (by rfl))
set_option maxRecDepth 100000 in
theorem m_X4_takeComputedValue {T : List aT} {I : aI} {J : aJ} {R : aR} (hT : aPT T) (hR : aPR R) {m : aI} {g : Nat} {gq : Nat → Nat} (hG : CGn T I R m g gq) (hg : GW m g) (hY : CTy I m) {x k : Nat} (hx : x < 16 * g) (hk : I 26 x = nI k) (hk9 : k < 300000) : MX4_takeComputedValue 0 0 [.ref 19, .int (nI x)] T I J R (aPure (some (.int (nI ((x + 7 * k) % 64) <<< (nI (iN m 61 (iN m 62 (x / 16))) &&& 31)))) T (a_u I 26 x (nI (k + 1))) J R) := by
  refine a_met (by decide +kernel) a_le (fun X hC hq => ?_)
  show AW X 0 0 0 [some (.ref 19), some (.int (nI x)), none] [] T I J R
  have hg4 := hg.g4
  have hty := hg.ty (x / 16) (by omega)
  refine aw_iload_n hC dX4_takeComputedValue_0 rfl ?_
  refine aw_bipush (v := 7) hC dX4_takeComputedValue_1 (by decide) ?_
  refine aw_aload_n hC dX4_takeComputedValue_3 rfl ?_
  refine aw_getR hC dX4_takeComputedValue_4 aF_X4_40 rfl (tg_19 hT) (pr_19_9 hR) ?_
  refine aw_iload_n hC dX4_takeComputedValue_7 rfl ?_
  refine aw_iaload_k (j := x) hC dX4_takeComputedValue_8 (tg_26 hT) (nI_clamp (by omega)) (vp_in_nI (by omega) (by decide)) ?_
  rw [hk]
  refine aw_imul hC dX4_takeComputedValue_9 ?_
  rw [show 7 * (nI k) = nI (7 * k) from pk_mul 7 k]
  refine aw_iadd hC dX4_takeComputedValue_10 ?_
  rw [show (nI x) + (nI (7 * k)) = nI (x + (7 * k)) from nI_add x (7 * k)]
  refine aw_bipush (v := 64) hC dX4_takeComputedValue_11 (by decide) ?_
  refine aw_irem hC dX4_takeComputedValue_13 (by decide) ?_
  rw [show (nI (x + (7 * k))) - (nI (x + (7 * k))) / 64 * 64 = nI ((x + (7 * k)) % 64) from pk_rem (a := (x + (7 * k))) (d := 64) (by omega) (by decide) (by decide)]
  refine aw_aload_n hC dX4_takeComputedValue_14 rfl ?_
  refine aw_iload_n hC dX4_takeComputedValue_15 rfl ?_
  refine kX4_87 hC rfl (m_X4_typeOf (I := I) hT hR hG hg (x := x) (by omega)) dX4_takeComputedValue_16 (tg_19 hT) rfl a_le a_le a_le a_le a_le rfl aPure_x (aPure_k ?_)
  show AW X 0 0 19 [some (.ref 19), some (.int (nI x)), none] [.ref (27 + 2 * (iN m 62 (x / 16))), .int (nI ((x + (7 * k)) % 64))] T I J R
  refine aw_getI hC dX4_takeComputedValue_19 aF_X4_93 rfl (ty_tg hT (hg.ty (x / 16) (by omega)).2) ?_
  rw [((hY.up (hg.ty (x / 16) (by omega)).2).trans (hg.up _ (hg.ty (x / 16) (by omega)).2).1)]
  refine aw_ishl hC dX4_takeComputedValue_22 ?_
  refine aw_istore_n (L2 := [some (.ref 19), some (.int (nI x)), some (.int ((nI ((x + (7 * k)) % 64)) <<< ((nI (iN m 61 (iN m 62 (x / 16)))) &&& 31)))]) hC dX4_takeComputedValue_23 rfl (by decide) rfl ?_
  refine aw_aload_n hC dX4_takeComputedValue_24 rfl ?_
  refine aw_getR hC dX4_takeComputedValue_25 aF_X4_40 rfl (tg_19 hT) (pr_19_9 hR) ?_
  refine aw_iload_n hC dX4_takeComputedValue_28 rfl ?_
  refine aw_dup2 hC dX4_takeComputedValue_29 rfl rfl ?_
  refine aw_iaload_k (j := x) hC dX4_takeComputedValue_30 (tg_26 hT) (nI_clamp (by omega)) (vp_in_nI (by omega) (by decide)) ?_
  rw [hk]
  refine aw_iconst (v := 1) hC dX4_takeComputedValue_31 (by decide) ?_
  refine aw_iadd hC dX4_takeComputedValue_32 ?_
  rw [show (nI k) + 1 = nI (k + 1) from nI_add k 1]
  refine aw_iastore_k (j := x) hC dX4_takeComputedValue_33 (tg_26 hT) (nI_clamp (by omega)) (vp_in_nI (by omega) (by decide)) ?_
  refine aw_iload_n hC dX4_takeComputedValue_34 rfl ?_
  exact aw_ireturn hC hq rfl dX4_takeComputedValue_35 a_le a_le (aPure_e rfl rfl rfl rfl)
