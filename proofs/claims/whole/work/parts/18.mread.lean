def anyB (p : Nat → Bool) : Nat → Bool
  | 0 => false
  | k + 1 => anyB p k || p k
theorem anyB_iff {p : Nat → Bool} : ∀ {n : Nat}, anyB p n = true ↔ ∃ k, k < n ∧ p k = true
  | 0 => by simp [anyB]
  | n + 1 => by
    rw [anyB, Bool.or_eq_true, anyB_iff]
    constructor
    · rintro (⟨k, h1, h2⟩ | h)
      · exact ⟨k, by omega, h2⟩
      · exact ⟨n, by omega, h⟩
    · rintro ⟨k, h1, h2⟩
      by_cases e : k = n
      · subst e; exact Or.inr h2
      · exact Or.inl ⟨k, by omega, h2⟩
theorem bI_or1 (b : Bool) : bI b ||| 1 = bI true := by cases b <;> rfl
theorem bI_or0 (b : Bool) : bI b ||| 0 = bI b := by cases b <;> rfl
theorem lgc0 (x z : Int64) : (lg_cmp x z = 0) ↔ x = z := lg_cmp_eq x z
set_option maxRecDepth 100000 in
theorem m_X12_isTold {T : List aT} {I : aI} {J : aJ} {R : aR} (hT : aPT T) (hR : aPR R) {n : Nat} (hn : I 44 0 = nI n) (hn30 : n ≤ 30) (its f : Int32) : MX12_isTold 0 0 [.ref 44, .int its, .int f] T I J R (aPure (some (.int (bI (anyB (fun j => decide (I 84 j ≠ 0) && decide (I 45 j = its) && (decide (f < 0) || decide (I 46 j = f))) n)))) T I J R) := by
  refine a_met (by decide +kernel) a_le (fun X hC hq => ?_)
  show AW X 0 0 0 [some (.ref 44), some (.int its), some (.int f), none, none] [] T I J R
  refine aw_iconst (v := 0) hC dX12_isTold_0 (by decide) ?_
  refine aw_istore_n (L2 := [some (.ref 44), some (.int its), some (.int f), some (.int 0), none]) hC dX12_isTold_1 rfl (by decide) rfl ?_
  refine aw_iconst (v := 0) hC dX12_isTold_2 (by decide) ?_
  refine aw_istore (L2 := [some (.ref 44), some (.int its), some (.int f), some (.int 0), some (.int 0)]) hC dX12_isTold_3 (by decide) rfl ?_
  have loop : ∀ k, k ≤ n → ∀ acc : Bool, acc = anyB (fun j => decide (I 84 j ≠ 0) && decide (I 45 j = its) && (decide (f < 0) || decide (I 46 j = f))) k → AW X 0 0 5 [some (.ref 44), some (.int its), some (.int f), some (.int (bI acc)), some (.int (nI k))] [] T I J R := by
    refine a_down n (fun k hkloop ihloop => ?_)
    intro acc hacc
    refine aw_iload hC dX12_isTold_5 rfl ?_
    refine aw_aload_n hC dX12_isTold_7 rfl ?_
    refine aw_getI hC dX12_isTold_8 aF_X12_183 rfl (tg_44 hT) ?_
    rw [hn]
    refine aw_icmp_ge (tgt := 64) hC dX12_isTold_11 (by decide) (fun h1 => ?_) (fun h1 => ?_)
    · show AW X 0 0 64 [some (.ref 44), some (.int its), some (.int f), some (.int (bI acc)), some (.int (nI k))] [] T I J R
      have h1n : n ≤ k := (nI_leI (a := n) (b := k) (by omega) (by omega)).mp h1
      refine aw_iload_n hC dX12_isTold_64 rfl ?_
      exact aw_zreturn hC hq rfl (bI_01 _) dX12_isTold_65 a_le a_le (aPure_i (by subst hacc; rw [show k = _ from Nat.le_antisymm (by assumption) (by assumption)]))
    · show AW X 0 0 14 [some (.ref 44), some (.int its), some (.int f), some (.int (bI acc)), some (.int (nI k))] [] T I J R
      have h1n : ¬ n ≤ k := fun q9 => h1 ((nI_leI (a := n) (b := k) (by omega) (by omega)).mpr q9)
      refine aw_iload_n hC dX12_isTold_14 rfl ?_
      refine aw_aload_n hC dX12_isTold_15 rfl ?_
      refine aw_getR hC dX12_isTold_16 aF_X12_135 rfl (tg_44 hT) (pr_44_49 hR) ?_
      refine aw_iload hC dX12_isTold_19 rfl ?_
      refine aw_baload_k (j := k) hC dX12_isTold_21 (tg_84 hT) (nI_clamp (by omega)) (vp_in_nI (by omega) (by decide)) ?_
      refine aw_if_eq (tgt := 55) hC dX12_isTold_22 (by decide) (fun h2 => ?_) (fun h2 => ?_)
      · show AW X 0 0 55 [some (.ref 44), some (.int its), some (.int f), some (.int (bI acc)), some (.int (nI k))] [.int (bI acc)] T I J R
        refine aw_iconst (v := 0) hC dX12_isTold_55 (by decide) ?_
        refine aw_ior hC dX12_isTold_56 ?_
        rw [bI_or0]
        refine aw_istore_n (L2 := [some (.ref 44), some (.int its), some (.int f), some (.int (bI acc)), some (.int (nI k))]) hC dX12_isTold_57 rfl (by decide) rfl ?_
        refine aw_iinc (v := nI (k + 1)) (L2 := [some (.ref 44), some (.int its), some (.int f), some (.int (bI acc)), some (.int (nI (k + 1)))]) hC dX12_isTold_58 rfl (nI_inc _) (by decide) rfl ?_
        refine aw_goto (tgt := 5) hC dX12_isTold_61 (by decide) ?_
        exact ihloop (by omega) acc (by simp only [anyB, ← hacc]; first | (simp_all [lgc0]; done) | (simp_all [lgc0]; intro h9; exfalso; simp only [i_lt, i_le] at *; omega))
      · show AW X 0 0 25 [some (.ref 44), some (.int its), some (.int f), some (.int (bI acc)), some (.int (nI k))] [.int (bI acc)] T I J R
        refine aw_aload_n hC dX12_isTold_25 rfl ?_
        refine aw_getR hC dX12_isTold_26 aF_X12_7 rfl (tg_44 hT) (pr_44_1 hR) ?_
        refine aw_iload hC dX12_isTold_29 rfl ?_
        refine aw_iaload_k (j := k) hC dX12_isTold_31 (tg_45 hT) (nI_clamp (by omega)) (vp_in_nI (by omega) (by decide)) ?_
        refine aw_iload_n hC dX12_isTold_32 rfl ?_
        refine aw_icmp_ne (tgt := 55) hC dX12_isTold_33 (by decide) (fun h3 => ?_) (fun h3 => ?_)
        · show AW X 0 0 55 [some (.ref 44), some (.int its), some (.int f), some (.int (bI acc)), some (.int (nI k))] [.int (bI acc)] T I J R
          refine aw_iconst (v := 0) hC dX12_isTold_55 (by decide) ?_
          refine aw_ior hC dX12_isTold_56 ?_
          rw [bI_or0]
          refine aw_istore_n (L2 := [some (.ref 44), some (.int its), some (.int f), some (.int (bI acc)), some (.int (nI k))]) hC dX12_isTold_57 rfl (by decide) rfl ?_
          refine aw_iinc (v := nI (k + 1)) (L2 := [some (.ref 44), some (.int its), some (.int f), some (.int (bI acc)), some (.int (nI (k + 1)))]) hC dX12_isTold_58 rfl (nI_inc _) (by decide) rfl ?_
          refine aw_goto (tgt := 5) hC dX12_isTold_61 (by decide) ?_
          exact ihloop (by omega) acc (by simp only [anyB, ← hacc]; first | (simp_all [lgc0]; done) | (simp_all [lgc0]; intro h9; exfalso; simp only [i_lt, i_le] at *; omega))
        · show AW X 0 0 36 [some (.ref 44), some (.int its), some (.int f), some (.int (bI acc)), some (.int (nI k))] [.int (bI acc)] T I J R
          refine aw_iload_n hC dX12_isTold_36 rfl ?_
          refine aw_if_lt (tgt := 51) hC dX12_isTold_37 (by decide) (fun h4 => ?_) (fun h4 => ?_)
          · show AW X 0 0 51 [some (.ref 44), some (.int its), some (.int f), some (.int (bI acc)), some (.int (nI k))] [.int (bI acc)] T I J R
            refine aw_iconst (v := 1) hC dX12_isTold_51 (by decide) ?_
            refine aw_goto (tgt := 56) hC dX12_isTold_52 (by decide) ?_
            refine aw_ior hC dX12_isTold_56 ?_
            rw [bI_or1]
            refine aw_istore_n (L2 := [some (.ref 44), some (.int its), some (.int f), some (.int (bI true)), some (.int (nI k))]) hC dX12_isTold_57 rfl (by decide) rfl ?_
            refine aw_iinc (v := nI (k + 1)) (L2 := [some (.ref 44), some (.int its), some (.int f), some (.int (bI true)), some (.int (nI (k + 1)))]) hC dX12_isTold_58 rfl (nI_inc _) (by decide) rfl ?_
            refine aw_goto (tgt := 5) hC dX12_isTold_61 (by decide) ?_
            exact ihloop (by omega) true (by simp only [anyB, ← hacc]; first | (simp_all [lgc0]; done) | (simp_all [lgc0]; intro h9; exfalso; simp only [i_lt, i_le] at *; omega))
          · show AW X 0 0 40 [some (.ref 44), some (.int its), some (.int f), some (.int (bI acc)), some (.int (nI k))] [.int (bI acc)] T I J R
            refine aw_aload_n hC dX12_isTold_40 rfl ?_
            refine aw_getR hC dX12_isTold_41 aF_X12_13 rfl (tg_44 hT) (pr_44_2 hR) ?_
            refine aw_iload hC dX12_isTold_44 rfl ?_
            refine aw_iaload_k (j := k) hC dX12_isTold_46 (tg_46 hT) (nI_clamp (by omega)) (vp_in_nI (by omega) (by decide)) ?_
            refine aw_iload_n hC dX12_isTold_47 rfl ?_
            refine aw_icmp_ne (tgt := 55) hC dX12_isTold_48 (by decide) (fun h5 => ?_) (fun h5 => ?_)
            · show AW X 0 0 55 [some (.ref 44), some (.int its), some (.int f), some (.int (bI acc)), some (.int (nI k))] [.int (bI acc)] T I J R
              refine aw_iconst (v := 0) hC dX12_isTold_55 (by decide) ?_
              refine aw_ior hC dX12_isTold_56 ?_
              rw [bI_or0]
              refine aw_istore_n (L2 := [some (.ref 44), some (.int its), some (.int f), some (.int (bI acc)), some (.int (nI k))]) hC dX12_isTold_57 rfl (by decide) rfl ?_
              refine aw_iinc (v := nI (k + 1)) (L2 := [some (.ref 44), some (.int its), some (.int f), some (.int (bI acc)), some (.int (nI (k + 1)))]) hC dX12_isTold_58 rfl (nI_inc _) (by decide) rfl ?_
              refine aw_goto (tgt := 5) hC dX12_isTold_61 (by decide) ?_
              exact ihloop (by omega) acc (by simp only [anyB, ← hacc]; first | (simp_all [lgc0]; done) | (simp_all [lgc0]; intro h9; exfalso; simp only [i_lt, i_le] at *; omega))
            · show AW X 0 0 51 [some (.ref 44), some (.int its), some (.int f), some (.int (bI acc)), some (.int (nI k))] [.int (bI acc)] T I J R
              refine aw_iconst (v := 1) hC dX12_isTold_51 (by decide) ?_
              refine aw_goto (tgt := 56) hC dX12_isTold_52 (by decide) ?_
              refine aw_ior hC dX12_isTold_56 ?_
              rw [bI_or1]
              refine aw_istore_n (L2 := [some (.ref 44), some (.int its), some (.int f), some (.int (bI true)), some (.int (nI k))]) hC dX12_isTold_57 rfl (by decide) rfl ?_
              refine aw_iinc (v := nI (k + 1)) (L2 := [some (.ref 44), some (.int its), some (.int f), some (.int (bI true)), some (.int (nI (k + 1)))]) hC dX12_isTold_58 rfl (nI_inc _) (by decide) rfl ?_
              refine aw_goto (tgt := 5) hC dX12_isTold_61 (by decide) ?_
              exact ihloop (by omega) true (by simp only [anyB, ← hacc]; first | (simp_all [lgc0]; done) | (simp_all [lgc0]; intro h9; exfalso; simp only [i_lt, i_le] at *; omega))
  exact loop 0 (Nat.zero_le _) false rfl
set_option maxRecDepth 100000 in
theorem m_X12_isHidden {T : List aT} {I : aI} {J : aJ} {R : aR} (hT : aPT T) (hR : aPR R) {n s : Nat} (hn : I 44 0 = nI n) (hn30 : n ≤ 30) (hs : s < n) (f : Int32) : MX12_isHidden 0 0 [.ref 44, .int f, .int (nI s)] T I J R (aPure (some (.int (bI (anyB (fun j => decide (I 84 j ≠ 0) && decide (I 45 j = 10) && decide (I 46 j = f) && (decide (I 49 j ≠ I 49 s) || decide (I 50 j ≠ I 50 s))) n)))) T I J R) := by
  refine a_met (by decide +kernel) a_le (fun X hC hq => ?_)
  show AW X 0 0 0 [some (.ref 44), some (.int f), some (.int (nI s)), none, none] [] T I J R
  refine aw_iconst (v := 0) hC dX12_isHidden_0 (by decide) ?_
  refine aw_istore_n (L2 := [some (.ref 44), some (.int f), some (.int (nI s)), some (.int 0), none]) hC dX12_isHidden_1 rfl (by decide) rfl ?_
  refine aw_iconst (v := 0) hC dX12_isHidden_2 (by decide) ?_
  refine aw_istore (L2 := [some (.ref 44), some (.int f), some (.int (nI s)), some (.int 0), some (.int 0)]) hC dX12_isHidden_3 (by decide) rfl ?_
  have loop : ∀ k, k ≤ n → ∀ acc : Bool, acc = anyB (fun j => decide (I 84 j ≠ 0) && decide (I 45 j = 10) && decide (I 46 j = f) && (decide (I 49 j ≠ I 49 s) || decide (I 50 j ≠ I 50 s))) k → AW X 0 0 5 [some (.ref 44), some (.int f), some (.int (nI s)), some (.int (bI acc)), some (.int (nI k))] [] T I J R := by
    refine a_down n (fun k hkloop ihloop => ?_)
    intro acc hacc
    refine aw_iload hC dX12_isHidden_5 rfl ?_
    refine aw_aload_n hC dX12_isHidden_7 rfl ?_
    refine aw_getI hC dX12_isHidden_8 aF_X12_183 rfl (tg_44 hT) ?_
    rw [hn]
    refine aw_icmp_ge (tgt := 93) hC dX12_isHidden_11 (by decide) (fun h1 => ?_) (fun h1 => ?_)
    · show AW X 0 0 93 [some (.ref 44), some (.int f), some (.int (nI s)), some (.int (bI acc)), some (.int (nI k))] [] T I J R
      have h1n : n ≤ k := (nI_leI (a := n) (b := k) (by omega) (by omega)).mp h1
      refine aw_iload_n hC dX12_isHidden_93 rfl ?_
      exact aw_zreturn hC hq rfl (bI_01 _) dX12_isHidden_94 a_le a_le (aPure_i (by subst hacc; rw [show k = _ from Nat.le_antisymm (by assumption) (by assumption)]))
    · show AW X 0 0 14 [some (.ref 44), some (.int f), some (.int (nI s)), some (.int (bI acc)), some (.int (nI k))] [] T I J R
      have h1n : ¬ n ≤ k := fun q9 => h1 ((nI_leI (a := n) (b := k) (by omega) (by omega)).mpr q9)
      refine aw_iload_n hC dX12_isHidden_14 rfl ?_
      refine aw_aload_n hC dX12_isHidden_15 rfl ?_
      refine aw_getR hC dX12_isHidden_16 aF_X12_135 rfl (tg_44 hT) (pr_44_49 hR) ?_
      refine aw_iload hC dX12_isHidden_19 rfl ?_
      refine aw_baload_k (j := k) hC dX12_isHidden_21 (tg_84 hT) (nI_clamp (by omega)) (vp_in_nI (by omega) (by decide)) ?_
      refine aw_if_eq (tgt := 84) hC dX12_isHidden_22 (by decide) (fun h2 => ?_) (fun h2 => ?_)
      · show AW X 0 0 84 [some (.ref 44), some (.int f), some (.int (nI s)), some (.int (bI acc)), some (.int (nI k))] [.int (bI acc)] T I J R
        refine aw_iconst (v := 0) hC dX12_isHidden_84 (by decide) ?_
        refine aw_ior hC dX12_isHidden_85 ?_
        rw [bI_or0]
        refine aw_istore_n (L2 := [some (.ref 44), some (.int f), some (.int (nI s)), some (.int (bI acc)), some (.int (nI k))]) hC dX12_isHidden_86 rfl (by decide) rfl ?_
        refine aw_iinc (v := nI (k + 1)) (L2 := [some (.ref 44), some (.int f), some (.int (nI s)), some (.int (bI acc)), some (.int (nI (k + 1)))]) hC dX12_isHidden_87 rfl (nI_inc _) (by decide) rfl ?_
        refine aw_goto (tgt := 5) hC dX12_isHidden_90 (by decide) ?_
        exact ihloop (by omega) acc (by simp only [anyB, ← hacc]; first | (simp_all [lgc0]; done) | (simp_all [lgc0]; intro h9; exfalso; simp only [i_lt, i_le] at *; omega))
      · show AW X 0 0 25 [some (.ref 44), some (.int f), some (.int (nI s)), some (.int (bI acc)), some (.int (nI k))] [.int (bI acc)] T I J R
        refine aw_aload_n hC dX12_isHidden_25 rfl ?_
        refine aw_getR hC dX12_isHidden_26 aF_X12_7 rfl (tg_44 hT) (pr_44_1 hR) ?_
        refine aw_iload hC dX12_isHidden_29 rfl ?_
        refine aw_iaload_k (j := k) hC dX12_isHidden_31 (tg_45 hT) (nI_clamp (by omega)) (vp_in_nI (by omega) (by decide)) ?_
        refine aw_bipush (v := 10) hC dX12_isHidden_32 (by decide) ?_
        refine aw_icmp_ne (tgt := 84) hC dX12_isHidden_34 (by decide) (fun h3 => ?_) (fun h3 => ?_)
        · show AW X 0 0 84 [some (.ref 44), some (.int f), some (.int (nI s)), some (.int (bI acc)), some (.int (nI k))] [.int (bI acc)] T I J R
          refine aw_iconst (v := 0) hC dX12_isHidden_84 (by decide) ?_
          refine aw_ior hC dX12_isHidden_85 ?_
          rw [bI_or0]
          refine aw_istore_n (L2 := [some (.ref 44), some (.int f), some (.int (nI s)), some (.int (bI acc)), some (.int (nI k))]) hC dX12_isHidden_86 rfl (by decide) rfl ?_
          refine aw_iinc (v := nI (k + 1)) (L2 := [some (.ref 44), some (.int f), some (.int (nI s)), some (.int (bI acc)), some (.int (nI (k + 1)))]) hC dX12_isHidden_87 rfl (nI_inc _) (by decide) rfl ?_
          refine aw_goto (tgt := 5) hC dX12_isHidden_90 (by decide) ?_
          exact ihloop (by omega) acc (by simp only [anyB, ← hacc]; first | (simp_all [lgc0]; done) | (simp_all [lgc0]; intro h9; exfalso; simp only [i_lt, i_le] at *; omega))
        · show AW X 0 0 37 [some (.ref 44), some (.int f), some (.int (nI s)), some (.int (bI acc)), some (.int (nI k))] [.int (bI acc)] T I J R
          refine aw_aload_n hC dX12_isHidden_37 rfl ?_
          refine aw_getR hC dX12_isHidden_38 aF_X12_13 rfl (tg_44 hT) (pr_44_2 hR) ?_
          refine aw_iload hC dX12_isHidden_41 rfl ?_
          refine aw_iaload_k (j := k) hC dX12_isHidden_43 (tg_46 hT) (nI_clamp (by omega)) (vp_in_nI (by omega) (by decide)) ?_
          refine aw_iload_n hC dX12_isHidden_44 rfl ?_
          refine aw_icmp_ne (tgt := 84) hC dX12_isHidden_45 (by decide) (fun h4 => ?_) (fun h4 => ?_)
          · show AW X 0 0 84 [some (.ref 44), some (.int f), some (.int (nI s)), some (.int (bI acc)), some (.int (nI k))] [.int (bI acc)] T I J R
            refine aw_iconst (v := 0) hC dX12_isHidden_84 (by decide) ?_
            refine aw_ior hC dX12_isHidden_85 ?_
            rw [bI_or0]
            refine aw_istore_n (L2 := [some (.ref 44), some (.int f), some (.int (nI s)), some (.int (bI acc)), some (.int (nI k))]) hC dX12_isHidden_86 rfl (by decide) rfl ?_
            refine aw_iinc (v := nI (k + 1)) (L2 := [some (.ref 44), some (.int f), some (.int (nI s)), some (.int (bI acc)), some (.int (nI (k + 1)))]) hC dX12_isHidden_87 rfl (nI_inc _) (by decide) rfl ?_
            refine aw_goto (tgt := 5) hC dX12_isHidden_90 (by decide) ?_
            exact ihloop (by omega) acc (by simp only [anyB, ← hacc]; first | (simp_all [lgc0]; done) | (simp_all [lgc0]; intro h9; exfalso; simp only [i_lt, i_le] at *; omega))
          · show AW X 0 0 48 [some (.ref 44), some (.int f), some (.int (nI s)), some (.int (bI acc)), some (.int (nI k))] [.int (bI acc)] T I J R
            refine aw_aload_n hC dX12_isHidden_48 rfl ?_
            refine aw_getR hC dX12_isHidden_49 aF_X12_22 rfl (tg_44 hT) (pr_44_5 hR) ?_
            refine aw_iload hC dX12_isHidden_52 rfl ?_
            refine aw_iaload_k (j := k) hC dX12_isHidden_54 (tg_49 hT) (nI_clamp (by omega)) (vp_in_nI (by omega) (by decide)) ?_
            refine aw_aload_n hC dX12_isHidden_55 rfl ?_
            refine aw_getR hC dX12_isHidden_56 aF_X12_22 rfl (tg_44 hT) (pr_44_5 hR) ?_
            refine aw_iload_n hC dX12_isHidden_59 rfl ?_
            refine aw_iaload_k (j := s) hC dX12_isHidden_60 (tg_49 hT) (nI_clamp (by omega)) (vp_in_nI (by omega) (by decide)) ?_
            refine aw_icmp_ne (tgt := 80) hC dX12_isHidden_61 (by decide) (fun h5 => ?_) (fun h5 => ?_)
            · show AW X 0 0 80 [some (.ref 44), some (.int f), some (.int (nI s)), some (.int (bI acc)), some (.int (nI k))] [.int (bI acc)] T I J R
              refine aw_iconst (v := 1) hC dX12_isHidden_80 (by decide) ?_
              refine aw_goto (tgt := 85) hC dX12_isHidden_81 (by decide) ?_
              refine aw_ior hC dX12_isHidden_85 ?_
              rw [bI_or1]
              refine aw_istore_n (L2 := [some (.ref 44), some (.int f), some (.int (nI s)), some (.int (bI true)), some (.int (nI k))]) hC dX12_isHidden_86 rfl (by decide) rfl ?_
              refine aw_iinc (v := nI (k + 1)) (L2 := [some (.ref 44), some (.int f), some (.int (nI s)), some (.int (bI true)), some (.int (nI (k + 1)))]) hC dX12_isHidden_87 rfl (nI_inc _) (by decide) rfl ?_
              refine aw_goto (tgt := 5) hC dX12_isHidden_90 (by decide) ?_
              exact ihloop (by omega) true (by simp only [anyB, ← hacc]; first | (simp_all [lgc0]; done) | (simp_all [lgc0]; intro h9; exfalso; simp only [i_lt, i_le] at *; omega))
            · show AW X 0 0 64 [some (.ref 44), some (.int f), some (.int (nI s)), some (.int (bI acc)), some (.int (nI k))] [.int (bI acc)] T I J R
              refine aw_aload_n hC dX12_isHidden_64 rfl ?_
              refine aw_getR hC dX12_isHidden_65 aF_X12_25 rfl (tg_44 hT) (pr_44_6 hR) ?_
              refine aw_iload hC dX12_isHidden_68 rfl ?_
              refine aw_iaload_k (j := k) hC dX12_isHidden_70 (tg_50 hT) (nI_clamp (by omega)) (vp_in_nI (by omega) (by decide)) ?_
              refine aw_aload_n hC dX12_isHidden_71 rfl ?_
              refine aw_getR hC dX12_isHidden_72 aF_X12_25 rfl (tg_44 hT) (pr_44_6 hR) ?_
              refine aw_iload_n hC dX12_isHidden_75 rfl ?_
              refine aw_iaload_k (j := s) hC dX12_isHidden_76 (tg_50 hT) (nI_clamp (by omega)) (vp_in_nI (by omega) (by decide)) ?_
              refine aw_icmp_eq (tgt := 84) hC dX12_isHidden_77 (by decide) (fun h6 => ?_) (fun h6 => ?_)
              · show AW X 0 0 84 [some (.ref 44), some (.int f), some (.int (nI s)), some (.int (bI acc)), some (.int (nI k))] [.int (bI acc)] T I J R
                refine aw_iconst (v := 0) hC dX12_isHidden_84 (by decide) ?_
                refine aw_ior hC dX12_isHidden_85 ?_
                rw [bI_or0]
                refine aw_istore_n (L2 := [some (.ref 44), some (.int f), some (.int (nI s)), some (.int (bI acc)), some (.int (nI k))]) hC dX12_isHidden_86 rfl (by decide) rfl ?_
                refine aw_iinc (v := nI (k + 1)) (L2 := [some (.ref 44), some (.int f), some (.int (nI s)), some (.int (bI acc)), some (.int (nI (k + 1)))]) hC dX12_isHidden_87 rfl (nI_inc _) (by decide) rfl ?_
                refine aw_goto (tgt := 5) hC dX12_isHidden_90 (by decide) ?_
                exact ihloop (by omega) acc (by simp only [anyB, ← hacc]; first | (simp_all [lgc0]; done) | (simp_all [lgc0]; intro h9; exfalso; simp only [i_lt, i_le] at *; omega))
              · show AW X 0 0 80 [some (.ref 44), some (.int f), some (.int (nI s)), some (.int (bI acc)), some (.int (nI k))] [.int (bI acc)] T I J R
                refine aw_iconst (v := 1) hC dX12_isHidden_80 (by decide) ?_
                refine aw_goto (tgt := 85) hC dX12_isHidden_81 (by decide) ?_
                refine aw_ior hC dX12_isHidden_85 ?_
                rw [bI_or1]
                refine aw_istore_n (L2 := [some (.ref 44), some (.int f), some (.int (nI s)), some (.int (bI true)), some (.int (nI k))]) hC dX12_isHidden_86 rfl (by decide) rfl ?_
                refine aw_iinc (v := nI (k + 1)) (L2 := [some (.ref 44), some (.int f), some (.int (nI s)), some (.int (bI true)), some (.int (nI (k + 1)))]) hC dX12_isHidden_87 rfl (nI_inc _) (by decide) rfl ?_
                refine aw_goto (tgt := 5) hC dX12_isHidden_90 (by decide) ?_
                exact ihloop (by omega) true (by simp only [anyB, ← hacc]; first | (simp_all [lgc0]; done) | (simp_all [lgc0]; intro h9; exfalso; simp only [i_lt, i_le] at *; omega))
  exact loop 0 (Nat.zero_le _) false rfl
set_option maxRecDepth 100000 in
theorem m_X12_isEmpty {T : List aT} {I : aI} {J : aJ} {R : aR} (hT : aPT T) (hR : aPR R) : MX12_isEmpty 0 0 [.ref 44] T I J R (aPure (some (.int (bI (anyB (fun j => decide (J 88 j = 0)) 10)))) T I J R) := by
  refine a_met (by decide +kernel) a_le (fun X hC hq => ?_)
  show AW X 0 0 0 [some (.ref 44), none, none] [] T I J R
  refine aw_iconst (v := 0) hC dX12_isEmpty_0 (by decide) ?_
  refine aw_istore_n (L2 := [some (.ref 44), some (.int 0), none]) hC dX12_isEmpty_1 rfl (by decide) rfl ?_
  refine aw_iconst (v := 0) hC dX12_isEmpty_2 (by decide) ?_
  refine aw_istore_n (L2 := [some (.ref 44), some (.int 0), some (.int 0)]) hC dX12_isEmpty_3 rfl (by decide) rfl ?_
  have loop : ∀ k, k ≤ 10 → ∀ acc : Bool, acc = anyB (fun j => decide (J 88 j = 0)) k → AW X 0 0 4 [some (.ref 44), some (.int (bI acc)), some (.int (nI k))] [] T I J R := by
    refine a_down 10 (fun k hkloop ihloop => ?_)
    intro acc hacc
    refine aw_iload_n hC dX12_isEmpty_4 rfl ?_
    refine aw_bipush (v := 10) hC dX12_isEmpty_5 (by decide) ?_
    refine aw_icmp_ge (tgt := 35) hC dX12_isEmpty_7 (by decide) (fun h1 => ?_) (fun h1 => ?_)
    · show AW X 0 0 35 [some (.ref 44), some (.int (bI acc)), some (.int (nI k))] [] T I J R
      have h1n : 10 ≤ k := (nI_leI (a := 10) (b := k) (by omega) (by omega)).mp h1
      refine aw_iload_n hC dX12_isEmpty_35 rfl ?_
      exact aw_zreturn hC hq rfl (bI_01 _) dX12_isEmpty_36 a_le a_le (aPure_i (by subst hacc; rw [show k = _ from Nat.le_antisymm (by assumption) (by assumption)]))
    · show AW X 0 0 10 [some (.ref 44), some (.int (bI acc)), some (.int (nI k))] [] T I J R
      have h1n : ¬ 10 ≤ k := fun q9 => h1 ((nI_leI (a := 10) (b := k) (by omega) (by omega)).mpr q9)
      refine aw_iload_n hC dX12_isEmpty_10 rfl ?_
      refine aw_aload_n hC dX12_isEmpty_11 rfl ?_
      refine aw_getR hC dX12_isEmpty_12 aF_X12_147 rfl (tg_44 hT) (pr_44_54 hR) ?_
      refine aw_iload_n hC dX12_isEmpty_15 rfl ?_
      refine aw_laload_k (j := k) hC dX12_isEmpty_16 (tg_88 hT) (nI_clamp (by omega)) (vp_in_nI (by omega) (by decide)) ?_
      refine aw_lconst (v := 0) hC dX12_isEmpty_17 (by decide) ?_
      refine aw_lcmp hC dX12_isEmpty_18 ?_
      refine aw_if_ne (tgt := 26) hC dX12_isEmpty_19 (by decide) (fun h2 => ?_) (fun h2 => ?_)
      · show AW X 0 0 26 [some (.ref 44), some (.int (bI acc)), some (.int (nI k))] [.int (bI acc)] T I J R
        refine aw_iconst (v := 0) hC dX12_isEmpty_26 (by decide) ?_
        refine aw_ior hC dX12_isEmpty_27 ?_
        rw [bI_or0]
        refine aw_istore_n (L2 := [some (.ref 44), some (.int (bI acc)), some (.int (nI k))]) hC dX12_isEmpty_28 rfl (by decide) rfl ?_
        refine aw_iinc (v := nI (k + 1)) (L2 := [some (.ref 44), some (.int (bI acc)), some (.int (nI (k + 1)))]) hC dX12_isEmpty_29 rfl (nI_inc _) (by decide) rfl ?_
        refine aw_goto (tgt := 4) hC dX12_isEmpty_32 (by decide) ?_
        exact ihloop (by omega) acc (by simp only [anyB, ← hacc]; first | (simp_all [lgc0]; done) | (simp_all [lgc0]; intro h9; exfalso; simp only [i_lt, i_le] at *; omega))
      · show AW X 0 0 22 [some (.ref 44), some (.int (bI acc)), some (.int (nI k))] [.int (bI acc)] T I J R
        refine aw_iconst (v := 1) hC dX12_isEmpty_22 (by decide) ?_
        refine aw_goto (tgt := 27) hC dX12_isEmpty_23 (by decide) ?_
        refine aw_ior hC dX12_isEmpty_27 ?_
        rw [bI_or1]
        refine aw_istore_n (L2 := [some (.ref 44), some (.int (bI true)), some (.int (nI k))]) hC dX12_isEmpty_28 rfl (by decide) rfl ?_
        refine aw_iinc (v := nI (k + 1)) (L2 := [some (.ref 44), some (.int (bI true)), some (.int (nI (k + 1)))]) hC dX12_isEmpty_29 rfl (nI_inc _) (by decide) rfl ?_
        refine aw_goto (tgt := 4) hC dX12_isEmpty_32 (by decide) ?_
        exact ihloop (by omega) true (by simp only [anyB, ← hacc]; first | (simp_all [lgc0]; done) | (simp_all [lgc0]; intro h9; exfalso; simp only [i_lt, i_le] at *; omega))
  exact loop 0 (Nat.zero_le _) false rfl
set_option maxRecDepth 100000 in
theorem m_X12_isTogether {T : List aT} {I : aI} {J : aJ} {R : aR} (hT : aPT T) (hR : aPR R) {s t : Nat} (hs : s < 30) (ht : t < 30) : MX12_isTogether 0 0 [.ref 44, .int (nI s), .int (nI t)] T I J R (aPure (some (.int (bI (decide (I 49 s = I 49 t ∧ I 50 s = I 50 t ∧ I 51 s = I 51 t))))) T I J R) := by
  refine a_met (by decide +kernel) a_le (fun X hC hq => ?_)
  show AW X 0 0 0 [some (.ref 44), some (.int (nI s)), some (.int (nI t))] [] T I J R
  refine aw_aload_n hC dX12_isTogether_0 rfl ?_
  refine aw_getR hC dX12_isTogether_1 aF_X12_22 rfl (tg_44 hT) (pr_44_5 hR) ?_
  refine aw_iload_n hC dX12_isTogether_4 rfl ?_
  refine aw_iaload_k (j := s) hC dX12_isTogether_5 (tg_49 hT) (nI_clamp (by omega)) (vp_in_nI (by omega) (by decide)) ?_
  refine aw_aload_n hC dX12_isTogether_6 rfl ?_
  refine aw_getR hC dX12_isTogether_7 aF_X12_22 rfl (tg_44 hT) (pr_44_5 hR) ?_
  refine aw_iload_n hC dX12_isTogether_10 rfl ?_
  refine aw_iaload_k (j := t) hC dX12_isTogether_11 (tg_49 hT) (nI_clamp (by omega)) (vp_in_nI (by omega) (by decide)) ?_
  refine aw_icmp_ne (tgt := 49) hC dX12_isTogether_12 (by decide) (fun h1 => ?_) (fun h1 => ?_)
  · show AW X 0 0 49 [some (.ref 44), some (.int (nI s)), some (.int (nI t))] [] T I J R
    refine aw_iconst (v := 0) hC dX12_isTogether_49 (by decide) ?_
    exact aw_zreturn hC hq rfl (Or.inl rfl) dX12_isTogether_50 a_le a_le (aPure_i (bI_no (by clear hC hq; (try simp only [bI_e0, bI_n0, decide_eq_false_iff_not, decide_eq_true_eq, Classical.not_not] at *); (simp only [i_lt, i_le, i_eq, Int32.reduceToInt] at *); omega)))
  · show AW X 0 0 15 [some (.ref 44), some (.int (nI s)), some (.int (nI t))] [] T I J R
    refine aw_aload_n hC dX12_isTogether_15 rfl ?_
    refine aw_getR hC dX12_isTogether_16 aF_X12_25 rfl (tg_44 hT) (pr_44_6 hR) ?_
    refine aw_iload_n hC dX12_isTogether_19 rfl ?_
    refine aw_iaload_k (j := s) hC dX12_isTogether_20 (tg_50 hT) (nI_clamp (by omega)) (vp_in_nI (by omega) (by decide)) ?_
    refine aw_aload_n hC dX12_isTogether_21 rfl ?_
    refine aw_getR hC dX12_isTogether_22 aF_X12_25 rfl (tg_44 hT) (pr_44_6 hR) ?_
    refine aw_iload_n hC dX12_isTogether_25 rfl ?_
    refine aw_iaload_k (j := t) hC dX12_isTogether_26 (tg_50 hT) (nI_clamp (by omega)) (vp_in_nI (by omega) (by decide)) ?_
    refine aw_icmp_ne (tgt := 49) hC dX12_isTogether_27 (by decide) (fun h2 => ?_) (fun h2 => ?_)
    · show AW X 0 0 49 [some (.ref 44), some (.int (nI s)), some (.int (nI t))] [] T I J R
      refine aw_iconst (v := 0) hC dX12_isTogether_49 (by decide) ?_
      exact aw_zreturn hC hq rfl (Or.inl rfl) dX12_isTogether_50 a_le a_le (aPure_i (bI_no (by clear hC hq; (try simp only [bI_e0, bI_n0, decide_eq_false_iff_not, decide_eq_true_eq, Classical.not_not] at *); (simp only [i_lt, i_le, i_eq, Int32.reduceToInt] at *); omega)))
    · show AW X 0 0 30 [some (.ref 44), some (.int (nI s)), some (.int (nI t))] [] T I J R
      refine aw_aload_n hC dX12_isTogether_30 rfl ?_
      refine aw_getR hC dX12_isTogether_31 aF_X12_28 rfl (tg_44 hT) (pr_44_7 hR) ?_
      refine aw_iload_n hC dX12_isTogether_34 rfl ?_
      refine aw_iaload_k (j := s) hC dX12_isTogether_35 (tg_51 hT) (nI_clamp (by omega)) (vp_in_nI (by omega) (by decide)) ?_
      refine aw_aload_n hC dX12_isTogether_36 rfl ?_
      refine aw_getR hC dX12_isTogether_37 aF_X12_28 rfl (tg_44 hT) (pr_44_7 hR) ?_
      refine aw_iload_n hC dX12_isTogether_40 rfl ?_
      refine aw_iaload_k (j := t) hC dX12_isTogether_41 (tg_51 hT) (nI_clamp (by omega)) (vp_in_nI (by omega) (by decide)) ?_
      refine aw_icmp_ne (tgt := 49) hC dX12_isTogether_42 (by decide) (fun h3 => ?_) (fun h3 => ?_)
      · show AW X 0 0 49 [some (.ref 44), some (.int (nI s)), some (.int (nI t))] [] T I J R
        refine aw_iconst (v := 0) hC dX12_isTogether_49 (by decide) ?_
        exact aw_zreturn hC hq rfl (Or.inl rfl) dX12_isTogether_50 a_le a_le (aPure_i (bI_no (by clear hC hq; (try simp only [bI_e0, bI_n0, decide_eq_false_iff_not, decide_eq_true_eq, Classical.not_not] at *); (simp only [i_lt, i_le, i_eq, Int32.reduceToInt] at *); omega)))
      · show AW X 0 0 45 [some (.ref 44), some (.int (nI s)), some (.int (nI t))] [] T I J R
        refine aw_iconst (v := 1) hC dX12_isTogether_45 (by decide) ?_
        refine aw_goto (tgt := 50) hC dX12_isTogether_46 (by decide) ?_
        exact aw_zreturn hC hq rfl (Or.inr rfl) dX12_isTogether_50 a_le a_le (aPure_i (bI_yes (by clear hC hq; (try simp only [bI_e0, bI_n0, decide_eq_false_iff_not, decide_eq_true_eq, Classical.not_not] at *); (simp only [i_lt, i_le, i_eq, Int32.reduceToInt] at *); omega)))
set_option maxRecDepth 100000 in
theorem m_X12_opens {T : List aT} {I : aI} {J : aJ} {R : aR} (hT : aPT T) (hR : aPR R) : MX12_opens 0 0 [.ref 44] T I J R (aPure none T I (a_fill J 88 10 (fun _ => -1)) R) := by
  refine a_met (by decide +kernel) a_le (fun X hC hq => ?_)
  show AW X 0 0 0 [some (.ref 44), none] [] T I J R
  refine aw_iconst (v := 0) hC dX12_opens_0 (by decide) ?_
  refine aw_istore_n (L2 := [some (.ref 44), some (.int 0)]) hC dX12_opens_1 rfl (by decide) rfl ?_
  rw [show J = a_fill J 88 0 (fun _ => -1) from a_fill_0.symm]
  have loop : ∀ k, k ≤ 10 → AW X 0 0 2 [some (.ref 44), some (.int (nI k))] [] T I (a_fill J 88 k (fun _ => -1)) R := by
    refine a_down 10 (fun k hkl ihl => ?_)
    refine aw_iload_n hC dX12_opens_2 rfl ?_
    refine aw_bipush (v := 10) hC dX12_opens_3 (by decide) ?_
    refine aw_icmp_ge (tgt := 23) hC dX12_opens_5 (by decide) (fun h1 => ?_) (fun h1 => ?_)
    · show AW X 0 0 23 [some (.ref 44), some (.int (nI k))] [] T I (a_fill J 88 k (fun _ => -1)) R
      have h1n : 10 ≤ k := (nI_leI (a := 10) (b := k) (by omega) (by omega)).mp h1
      exact aw_return hC hq rfl dX12_opens_23 a_le a_le (by rw [show k = _ from Nat.le_antisymm (by assumption) (by assumption)]; exact aPure_v)
    · show AW X 0 0 8 [some (.ref 44), some (.int (nI k))] [] T I (a_fill J 88 k (fun _ => -1)) R
      have h1n : ¬ 10 ≤ k := fun q9 => h1 ((nI_leI (a := 10) (b := k) (by omega) (by omega)).mpr q9)
      refine aw_aload_n hC dX12_opens_8 rfl ?_
      refine aw_getR hC dX12_opens_9 aF_X12_147 rfl (tg_44 hT) (pr_44_54 hR) ?_
      refine aw_iload_n hC dX12_opens_12 rfl ?_
      refine aw_ldc2 (v := (-1)) hC dX12_opens_13 gK_X12_222 ?_
      refine aw_lastore_k (j := k) hC dX12_opens_16 (tg_88 hT) (nI_clamp (by omega)) (vp_in_nI (by omega) (by decide)) ?_
      refine aw_iinc (v := nI (k + 1)) (L2 := [some (.ref 44), some (.int (nI (k + 1)))]) hC dX12_opens_17 rfl (nI_inc _) (by decide) rfl ?_
      refine aw_goto (tgt := 2) hC dX12_opens_20 (by decide) ?_
      rw [show a_u (a_fill J 88 k (fun _ => -1)) 88 k (-1) = a_fill J 88 (k + 1) (fun _ => -1) from by exact a_fill_succ (g := fun _ => -1)]
      exact ihl (by omega)
  exact loop 0 (Nat.zero_le _)
set_option maxRecDepth 100000 in
theorem m_X12_plains {T : List aT} {I : aI} {J : aJ} {R : aR} (hT : aPT T) (hR : aPR R) : MX12_plains 0 0 [.ref 44] T I J R (aPure none T I (a_fill J 88 10 (J 89)) R) := by
  refine a_met (by decide +kernel) a_le (fun X hC hq => ?_)
  show AW X 0 0 0 [some (.ref 44), none] [] T I J R
  refine aw_iconst (v := 0) hC dX12_plains_0 (by decide) ?_
  refine aw_istore_n (L2 := [some (.ref 44), some (.int 0)]) hC dX12_plains_1 rfl (by decide) rfl ?_
  rw [show J = a_fill J 88 0 (J 89) from a_fill_0.symm]
  have loop : ∀ k, k ≤ 10 → AW X 0 0 2 [some (.ref 44), some (.int (nI k))] [] T I (a_fill J 88 k (J 89)) R := by
    refine a_down 10 (fun k hkl ihl => ?_)
    refine aw_iload_n hC dX12_plains_2 rfl ?_
    refine aw_bipush (v := 10) hC dX12_plains_3 (by decide) ?_
    refine aw_icmp_ge (tgt := 26) hC dX12_plains_5 (by decide) (fun h1 => ?_) (fun h1 => ?_)
    · show AW X 0 0 26 [some (.ref 44), some (.int (nI k))] [] T I (a_fill J 88 k (J 89)) R
      have h1n : 10 ≤ k := (nI_leI (a := 10) (b := k) (by omega) (by omega)).mp h1
      exact aw_return hC hq rfl dX12_plains_26 a_le a_le (by rw [show k = _ from Nat.le_antisymm (by assumption) (by assumption)]; exact aPure_v)
    · show AW X 0 0 8 [some (.ref 44), some (.int (nI k))] [] T I (a_fill J 88 k (J 89)) R
      have h1n : ¬ 10 ≤ k := fun q9 => h1 ((nI_leI (a := 10) (b := k) (by omega) (by omega)).mpr q9)
      refine aw_aload_n hC dX12_plains_8 rfl ?_
      refine aw_getR hC dX12_plains_9 aF_X12_147 rfl (tg_44 hT) (pr_44_54 hR) ?_
      refine aw_iload_n hC dX12_plains_12 rfl ?_
      refine aw_aload_n hC dX12_plains_13 rfl ?_
      refine aw_getR hC dX12_plains_14 aF_X12_151 rfl (tg_44 hT) (pr_44_55 hR) ?_
      refine aw_iload_n hC dX12_plains_17 rfl ?_
      refine aw_laload_k (j := k) hC dX12_plains_18 (tg_89 hT) (nI_clamp (by omega)) (vp_in_nI (by omega) (by decide)) ?_
      refine aw_lastore_k (j := k) hC dX12_plains_19 (tg_88 hT) (nI_clamp (by omega)) (vp_in_nI (by omega) (by decide)) ?_
      refine aw_iinc (v := nI (k + 1)) (L2 := [some (.ref 44), some (.int (nI (k + 1)))]) hC dX12_plains_20 rfl (nI_inc _) (by decide) rfl ?_
      refine aw_goto (tgt := 2) hC dX12_plains_23 (by decide) ?_
      rw [show a_u (a_fill J 88 k (J 89)) 88 k ((a_fill J 88 k (J 89)) 89 k) = a_fill J 88 (k + 1) (J 89) from by rw [a_fill_ne (a := 89) (by decide)]; exact a_fill_succ (g := J 89)]
      exact ihl (by omega)
  exact loop 0 (Nat.zero_le _)
set_option maxRecDepth 100000 in
theorem m_X12_leaves {T : List aT} {I : aI} {J : aJ} {R : aR} (hT : aPT T) (hR : aPR R) (f : Int32) (hf : vp_in f 10) (x : Int64) : MX12_leaves 0 0 [.ref 44, .int f, .long x] T I J R (aPure none T I (a_u J 88 f.toNatClampNeg (J 88 f.toNatClampNeg &&& x)) R) := by
  refine a_met (by decide +kernel) a_le (fun X hC hq => ?_)
  show AW X 0 0 0 [some (.ref 44), some (.int f), some (.long x), none] [] T I J R
  refine aw_aload_n hC dX12_leaves_0 rfl ?_
  refine aw_getR hC dX12_leaves_1 aF_X12_147 rfl (tg_44 hT) (pr_44_54 hR) ?_
  refine aw_iload_n hC dX12_leaves_4 rfl ?_
  refine aw_dup2 hC dX12_leaves_5 rfl rfl ?_
  refine aw_laload_k (j := f.toNatClampNeg) hC dX12_leaves_6 (tg_88 hT) rfl hf ?_
  refine aw_lload_n hC dX12_leaves_7 rfl ?_
  refine aw_land hC dX12_leaves_8 ?_
  refine aw_lastore_k (j := f.toNatClampNeg) hC dX12_leaves_9 (tg_88 hT) rfl hf ?_
  exact aw_return hC hq rfl dX12_leaves_10 a_le a_le aPure_v
