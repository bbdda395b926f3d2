abbrev wrS (I : aI) (x r k : Nat) : Nat → Int32 := fun j => if 3 * x ≤ j ∧ j < 3 * x + k then I 67 (3 * r + (j - 3 * x)) else I 70 j
theorem wr_put {I : aI} {x r k : Nat} (j : Nat) : (if j = 3 * x + k then I 67 (3 * r + k) else wrS I x r k j) = wrS I x r (k + 1) j := by
  simp only [wrS]
  by_cases e : j = 3 * x + k
  · rw [if_pos e, if_pos (by omega), show 3 * r + (j - 3 * x) = 3 * r + k by omega]
  · rw [if_neg e]
    by_cases c : 3 * x ≤ j ∧ j < 3 * x + k
    · rw [if_pos c, if_pos (by omega)]
    · rw [if_neg c, if_neg (by omega)]
set_option maxRecDepth 100000 in
theorem m_X12_writes {T : List aT} {I : aI} {J : aJ} {R : aR} (hT : aPT T) (hR : aPR R) {x r : Nat} (hx : x < 64) (hr : r < 60) : MX12_writes 0 0 [.ref 44, .int (nI x), .int (nI r)] T I J R (aPure none T (a_ur (a_u (a_u (a_u I 69 x (nI (r + 1))) 71 x 0) 72 x 0) 70 (wrS I x r 3)) J R) := by
  refine a_met (by decide +kernel) a_le (fun X hC hq => ?_)
  show AW X 0 0 0 [some (.ref 44), some (.int (nI x)), some (.int (nI r)), none] [] T I J R
  refine aw_aload_n hC dX12_writes_0 rfl ?_
  refine aw_getR hC dX12_writes_1 aF_X12_83 rfl (tg_44 hT) (pr_44_29 hR) ?_
  refine aw_iload_n hC dX12_writes_4 rfl ?_
  refine aw_iload_n hC dX12_writes_5 rfl ?_
  refine aw_iconst (v := 1) hC dX12_writes_6 (by decide) ?_
  refine aw_iadd hC dX12_writes_7 ?_
  rw [show (nI r) + 1 = nI (r + 1) from nI_add r 1]
  refine aw_iastore_k (j := x) hC dX12_writes_8 (tg_69 hT) (nI_clamp (by omega)) (vp_in_nI (by omega) (by decide)) ?_
  refine aw_aload_n hC dX12_writes_9 rfl ?_
  refine aw_getR hC dX12_writes_10 aF_X12_89 rfl (tg_44 hT) (pr_44_31 hR) ?_
  refine aw_iload_n hC dX12_writes_13 rfl ?_
  refine aw_iconst (v := 0) hC dX12_writes_14 (by decide) ?_
  refine aw_bastore_k (j := x) hC dX12_writes_15 (tg_71 hT) (nI_clamp (by omega)) (vp_in_nI (by omega) (by decide)) (Or.inl rfl) ?_
  refine aw_aload_n hC dX12_writes_16 rfl ?_
  refine aw_getR hC dX12_writes_17 aF_X12_92 rfl (tg_44 hT) (pr_44_32 hR) ?_
  refine aw_iload_n hC dX12_writes_20 rfl ?_
  refine aw_iconst (v := 0) hC dX12_writes_21 (by decide) ?_
  refine aw_iastore_k (j := x) hC dX12_writes_22 (tg_72 hT) (nI_clamp (by omega)) (vp_in_nI (by omega) (by decide)) ?_
  refine aw_iconst (v := 0) hC dX12_writes_23 (by decide) ?_
  refine aw_istore_n (L2 := [some (.ref 44), some (.int (nI x)), some (.int (nI r)), some (.int 0)]) hC dX12_writes_24 rfl (by decide) rfl ?_
  rw [show a_u (a_u (a_u I 69 x (nI (r + 1))) 71 x 0) 72 x 0 = a_ur (a_u (a_u (a_u I 69 x (nI (r + 1))) 71 x 0) 72 x 0) 70 (wrS I x r 0) from (a_ur_id (fun j => by simp only [wrS]; rw [if_neg (by omega), a_u_ne (fun q => absurd q.1 (by decide)), a_u_ne (fun q => absurd q.1 (by decide)), a_u_ne (fun q => absurd q.1 (by decide))])).symm]
  have loop : ∀ k, k ≤ 3 → AW X 0 0 25 [some (.ref 44), some (.int (nI x)), some (.int (nI r)), some (.int (nI k))] [] T (a_ur (a_u (a_u (a_u I 69 x (nI (r + 1))) 71 x 0) 72 x 0) 70 (wrS I x r k)) J R := by
    refine a_down 3 (fun k hk ih => ?_)
    refine aw_iload_n hC dX12_writes_25 rfl ?_
    refine aw_iconst (v := 3) hC dX12_writes_26 (by decide) ?_
    refine aw_icmp_ge (tgt := 56) hC dX12_writes_27 (by decide) (fun h1 => ?_) (fun h1 => ?_)
    · show AW X 0 0 56 [some (.ref 44), some (.int (nI x)), some (.int (nI r)), some (.int (nI k))] [] T (a_ur (a_u (a_u (a_u I 69 x (nI (r + 1))) 71 x 0) 72 x 0) 70 (wrS I x r k)) J R
      have h1n : 3 ≤ k := (nI_leI (a := 3) (b := k) (by omega) (by omega)).mp h1
      exact aw_return hC hq rfl dX12_writes_56 a_le a_le (aPure_ev (by rw [show k = 3 from by omega]) rfl rfl)
    · show AW X 0 0 30 [some (.ref 44), some (.int (nI x)), some (.int (nI r)), some (.int (nI k))] [] T (a_ur (a_u (a_u (a_u I 69 x (nI (r + 1))) 71 x 0) 72 x 0) 70 (wrS I x r k)) J R
      have h1n : ¬ 3 ≤ k := fun q9 => h1 ((nI_leI (a := 3) (b := k) (by omega) (by omega)).mpr q9)
      refine aw_aload_n hC dX12_writes_30 rfl ?_
      refine aw_getR hC dX12_writes_31 aF_X12_86 rfl (tg_44 hT) (pr_44_30 hR) ?_
      refine aw_iconst (v := 3) hC dX12_writes_34 (by decide) ?_
      refine aw_iload_n hC dX12_writes_35 rfl ?_
      refine aw_imul hC dX12_writes_36 ?_
      rw [show 3 * (nI x) = nI (3 * x) from pk_mul 3 x]
      refine aw_iload_n hC dX12_writes_37 rfl ?_
      refine aw_iadd hC dX12_writes_38 ?_
      rw [show (nI (3 * x)) + (nI k) = nI ((3 * x) + k) from nI_add (3 * x) k]
      refine aw_aload_n hC dX12_writes_39 rfl ?_
      refine aw_getR hC dX12_writes_40 aF_X12_77 rfl (tg_44 hT) (pr_44_27 hR) ?_
      refine aw_iconst (v := 3) hC dX12_writes_43 (by decide) ?_
      refine aw_iload_n hC dX12_writes_44 rfl ?_
      refine aw_imul hC dX12_writes_45 ?_
      rw [show 3 * (nI r) = nI (3 * r) from pk_mul 3 r]
      refine aw_iload_n hC dX12_writes_46 rfl ?_
      refine aw_iadd hC dX12_writes_47 ?_
      rw [show (nI (3 * r)) + (nI k) = nI ((3 * r) + k) from nI_add (3 * r) k]
      refine aw_iaload_k (j := ((3 * r) + k)) hC dX12_writes_48 (tg_67 hT) (nI_clamp (by omega)) (vp_in_nI (by omega) (by decide)) ?_
      rw [a_ur_ne (f := a_u (a_u (a_u I 69 x (nI (r + 1))) 71 x 0) 72 x 0) (o := 70) (a := 67) (g := wrS I x r k) (by decide)]
      rw [a_u_ne (f := a_u (a_u I 69 x (nI (r + 1))) 71 x 0) (o := 72) (k := x) (a := 67) (b := ((3 * r) + k)) (v := 0) (fun q => absurd q.1 (by decide))]
      rw [a_u_ne (f := a_u I 69 x (nI (r + 1))) (o := 71) (k := x) (a := 67) (b := ((3 * r) + k)) (v := 0) (fun q => absurd q.1 (by decide))]
      rw [a_u_ne (f := I) (o := 69) (k := x) (a := 67) (b := ((3 * r) + k)) (v := nI (r + 1)) (fun q => absurd q.1 (by decide))]
      refine aw_iastore_k (j := ((3 * x) + k)) hC dX12_writes_49 (tg_70 hT) (nI_clamp (by omega)) (vp_in_nI (by omega) (by decide)) ?_
      rw [show a_u (a_ur (a_u (a_u (a_u I 69 x (nI (r + 1))) 71 x 0) 72 x 0) 70 (wrS I x r k)) 70 ((3 * x) + k) (I 67 ((3 * r) + k)) = a_ur (a_u (a_u (a_u I 69 x (nI (r + 1))) 71 x 0) 72 x 0) 70 (fun j => if j = ((3 * x) + k) then I 67 ((3 * r) + k) else (wrS I x r k) j) from by rw [a_ur_put]]
      refine aw_iinc (v := nI (k + 1)) (L2 := [some (.ref 44), some (.int (nI x)), some (.int (nI r)), some (.int (nI (k + 1)))]) hC dX12_writes_50 rfl (nI_inc _) (by decide) rfl ?_
      refine aw_goto (tgt := 25) hC dX12_writes_53 (by decide) ?_
      rw [show a_ur (a_u (a_u (a_u I 69 x (nI (r + 1))) 71 x 0) 72 x 0) 70 (fun j => if j = ((3 * x) + k) then I 67 ((3 * r) + k) else (wrS I x r k) j) = a_ur (a_u (a_u (a_u I 69 x (nI (r + 1))) 71 x 0) 72 x 0) 70 (wrS I x r (k + 1)) from a_ur_ext wr_put]
      exact ih (by omega)
  exact loop 0 (Nat.zero_le _)
set_option maxRecDepth 100000 in
theorem m_X12_lists {T : List aT} {I : aI} {J : aJ} {R : aR} (hT : aPT T) (hR : aPR R) {l a x : Nat} (hl : I 44 59 = nI l) (hl8 : l < 128) : MX12_lists 0 0 [.ref 44, .int (nI a), .int (nI x)] T I J R (aPure none T (a_u (a_u I 92 l (nI (100 * a + x))) 44 59 (nI (l + 1))) J R) := by
  refine a_met (by decide +kernel) a_le (fun X hC hq => ?_)
  show AW X 0 0 0 [some (.ref 44), some (.int (nI a)), some (.int (nI x))] [] T I J R
  refine aw_aload_n hC dX12_lists_0 rfl ?_
  refine aw_getR hC dX12_lists_1 aF_X12_160 rfl (tg_44 hT) (pr_44_60 hR) ?_
  refine aw_aload_n hC dX12_lists_4 rfl ?_
  refine aw_getI hC dX12_lists_5 aF_X12_361 rfl (tg_44 hT) ?_
  rw [hl]
  refine aw_bipush (v := 100) hC dX12_lists_8 (by decide) ?_
  refine aw_iload_n hC dX12_lists_10 rfl ?_
  refine aw_imul hC dX12_lists_11 ?_
  rw [show 100 * (nI a) = nI (100 * a) from pk_mul 100 a]
  refine aw_iload_n hC dX12_lists_12 rfl ?_
  refine aw_iadd hC dX12_lists_13 ?_
  rw [show (nI (100 * a)) + (nI x) = nI ((100 * a) + x) from nI_add (100 * a) x]
  refine aw_iastore_k (j := l) hC dX12_lists_14 (tg_92 hT) (nI_clamp (by omega)) (vp_in_nI (by omega) (by decide)) ?_
  refine aw_aload_n hC dX12_lists_15 rfl ?_
  refine aw_dup hC dX12_lists_16 rfl ?_
  refine aw_getI hC dX12_lists_17 aF_X12_361 rfl (tg_44 hT) ?_
  rw [a_u_ne (f := I) (o := 92) (k := l) (a := 44) (b := 59) (v := nI ((100 * a) + x)) (fun q => absurd q.1 (by decide))]
  rw [hl]
  refine aw_iconst (v := 1) hC dX12_lists_20 (by decide) ?_
  refine aw_iadd hC dX12_lists_21 ?_
  rw [show (nI l) + 1 = nI (l + 1) from nI_add l 1]
  refine aw_putI hC dX12_lists_22 aF_X12_361 rfl rfl (tg_44 hT) ?_
  exact aw_return hC hq rfl dX12_lists_25 a_le a_le (aPure_ev rfl rfl rfl)
/-- a source is a field, nothing, or an attribute of a generator -/
abbrev SOK (I : aI) : Prop := ∀ j, j < 12 → 10 ≤ I 65 j → I 65 j = nI (iN I 65 j) ∧ 10 ≤ iN I 65 j ∧ iN I 65 j < 22
abbrev B01 (I : aI) (a : Nat) : Prop := ∀ j, I a j = 0 ∨ I a j = 1
theorem b01_bI {x : Int32} (h : x = 0 ∨ x = 1) : x = bI (decide (x ≠ 0)) := by rcases h with rfl | rfl <;> decide
abbrev loS (I : aI) (x : Nat) : Nat → Bool := fun k => decide (10 ≤ I 65 (3 * (x / 16) + k)) && decide (I 81 (16 * ((iN I 65 (3 * (x / 16) + k) - 10) / 3) + x % 16) ≠ 0)
theorem lo_y {I : aI} {x k : Nat} {acc : Bool} (h1 : 10 ≤ I 65 (3 * (x / 16) + k)) (h2 : ¬ I 81 (16 * ((iN I 65 (3 * (x / 16) + k) - 10) / 3) + x % 16) = 0) (h : acc = (decide (I 81 x ≠ 0) || anyB (loS I x) k)) : true = (decide (I 81 x ≠ 0) || anyB (loS I x) (k + 1)) := by
  simp only [anyB, loS]; simp [h1, h2]
theorem lo_n {I : aI} {x k : Nat} {acc : Bool} (h1 : ¬ 10 ≤ I 65 (3 * (x / 16) + k) ∨ I 81 (16 * ((iN I 65 (3 * (x / 16) + k) - 10) / 3) + x % 16) = 0) (h : acc = (decide (I 81 x ≠ 0) || anyB (loS I x) k)) : acc = (decide (I 81 x ≠ 0) || anyB (loS I x) (k + 1)) := by
  have q : loS I x k = false := by simp only [loS]; rcases h1 with h1 | h1 <;> simp [h1]
  rw [anyB, q, Bool.or_false]; exact h
set_option maxRecDepth 100000 in
theorem m_X12_isLeftOut {T : List aT} {I : aI} {J : aJ} {R : aR} (hT : aPT T) (hR : aPR R) {x : Nat} (hx : x < 64) (hs65 : SOK I) (h81 : B01 I 81) : MX12_isLeftOut 0 0 [.ref 44, .int (nI x)] T I J R (aPure (some (.int (bI (decide (I 81 x ≠ 0) || anyB (loS I x) 3)))) T I J R) := by
  refine a_met (by decide +kernel) a_le (fun X hC hq => ?_)
  show AW X 0 0 0 [some (.ref 44), some (.int (nI x)), none, none, none] [] T I J R
  refine aw_aload_n hC dX12_isLeftOut_0 rfl ?_
  refine aw_getR hC dX12_isLeftOut_1 aF_X12_126 rfl (tg_44 hT) (pr_44_46 hR) ?_
  refine aw_iload_n hC dX12_isLeftOut_4 rfl ?_
  refine aw_baload_k (j := x) hC dX12_isLeftOut_5 (tg_81 hT) (nI_clamp (by omega)) (vp_in_nI (by omega) (by decide)) ?_
  rw [b01_bI (h81 x)]
  refine aw_istore_n (L2 := [some (.ref 44), some (.int (nI x)), some (.int (bI (decide (I 81 x ≠ 0)))), none, none]) hC dX12_isLeftOut_6 rfl (by decide) rfl ?_
  refine aw_iconst (v := 0) hC dX12_isLeftOut_7 (by decide) ?_
  refine aw_istore_n (L2 := [some (.ref 44), some (.int (nI x)), some (.int (bI (decide (I 81 x ≠ 0)))), some (.int 0), none]) hC dX12_isLeftOut_8 rfl (by decide) rfl ?_
  have loop : ∀ k, k ≤ 3 → ∀ acc : Bool, acc = (decide (I 81 x ≠ 0) || anyB (loS I x) k) → AW X 0 0 9 [some (.ref 44), some (.int (nI x)), some (.int (bI acc)), some (.int (nI k)), none] [] T I J R := by
    refine a_down 3 (fun k hk ih => ?_)
    intro acc hacc
    refine aw_iload_n hC dX12_isLeftOut_9 rfl ?_
    refine aw_iconst (v := 3) hC dX12_isLeftOut_10 (by decide) ?_
    refine aw_icmp_ge (tgt := 71) hC dX12_isLeftOut_11 (by decide) (fun h1 => ?_) (fun h1 => ?_)
    · show AW X 0 0 71 [some (.ref 44), some (.int (nI x)), some (.int (bI acc)), some (.int (nI k)), none] [] T I J R
      have h1n : 3 ≤ k := (nI_leI (a := 3) (b := k) (by omega) (by omega)).mp h1
      refine aw_iload_n hC dX12_isLeftOut_71 rfl ?_
      exact aw_zreturn hC hq rfl (bI_01 _) dX12_isLeftOut_72 a_le a_le (aPure_i (by rw [hacc, show k = 3 from by omega]))
    · show AW X 0 0 14 [some (.ref 44), some (.int (nI x)), some (.int (bI acc)), some (.int (nI k)), none] [] T I J R
      have h1n : ¬ 3 ≤ k := fun q9 => h1 ((nI_leI (a := 3) (b := k) (by omega) (by omega)).mpr q9)
      refine aw_aload_n hC dX12_isLeftOut_14 rfl ?_
      refine aw_getR hC dX12_isLeftOut_15 aF_X12_71 rfl (tg_44 hT) (pr_44_24 hR) ?_
      refine aw_iconst (v := 3) hC dX12_isLeftOut_18 (by decide) ?_
      refine aw_iload_n hC dX12_isLeftOut_19 rfl ?_
      refine aw_bipush (v := 16) hC dX12_isLeftOut_20 (by decide) ?_
      refine aw_idiv hC dX12_isLeftOut_22 (by decide) ?_
      rw [show (nI x) / 16 = nI (x / 16) from pk_div (a := x) (d := 16) (by omega) (by decide) (by decide)]
      refine aw_imul hC dX12_isLeftOut_23 ?_
      rw [show 3 * (nI (x / 16)) = nI (3 * (x / 16)) from pk_mul 3 (x / 16)]
      refine aw_iload_n hC dX12_isLeftOut_24 rfl ?_
      refine aw_iadd hC dX12_isLeftOut_25 ?_
      rw [show (nI (3 * (x / 16))) + (nI k) = nI ((3 * (x / 16)) + k) from nI_add (3 * (x / 16)) k]
      refine aw_iaload_k (j := ((3 * (x / 16)) + k)) hC dX12_isLeftOut_26 (tg_65 hT) (nI_clamp (by omega)) (vp_in_nI (by omega) (by decide)) ?_
      refine aw_istore (L2 := [some (.ref 44), some (.int (nI x)), some (.int (bI acc)), some (.int (nI k)), some (.int (I 65 ((3 * (x / 16)) + k)))]) hC dX12_isLeftOut_27 (by decide) rfl ?_
      refine aw_iload_n hC dX12_isLeftOut_29 rfl ?_
      refine aw_iload hC dX12_isLeftOut_30 rfl ?_
      refine aw_bipush (v := 10) hC dX12_isLeftOut_32 (by decide) ?_
      refine aw_icmp_lt (tgt := 62) hC dX12_isLeftOut_34 (by decide) (fun h2 => ?_) (fun h2 => ?_)
      · show AW X 0 0 62 [some (.ref 44), some (.int (nI x)), some (.int (bI acc)), some (.int (nI k)), some (.int (I 65 ((3 * (x / 16)) + k)))] [.int (bI acc)] T I J R
        refine aw_iconst (v := 0) hC dX12_isLeftOut_62 (by decide) ?_
        refine aw_ior hC dX12_isLeftOut_63 ?_
        rw [bI_or0]
        refine aw_istore_n (L2 := [some (.ref 44), some (.int (nI x)), some (.int (bI acc)), some (.int (nI k)), some (.int (I 65 ((3 * (x / 16)) + k)))]) hC dX12_isLeftOut_64 rfl (by decide) rfl ?_
        refine aw_iinc (v := nI (k + 1)) (L2 := [some (.ref 44), some (.int (nI x)), some (.int (bI acc)), some (.int (nI (k + 1))), some (.int (I 65 ((3 * (x / 16)) + k)))]) hC dX12_isLeftOut_65 rfl (nI_inc _) (by decide) rfl ?_
        refine aw_goto (tgt := 9) hC dX12_isLeftOut_68 (by decide) ?_
        refine aw_forget 4 (L2 := [some (.ref 44), some (.int (nI x)), some (.int (bI acc)), some (.int (nI (k + 1))), none]) rfl ?_
        exact ih (by omega) acc (lo_n (by first | exact Or.inl (Int32.not_le.mpr (by assumption)) | exact Or.inr (by assumption)) hacc)
      · show AW X 0 0 37 [some (.ref 44), some (.int (nI x)), some (.int (bI acc)), some (.int (nI k)), some (.int (I 65 ((3 * (x / 16)) + k)))] [.int (bI acc)] T I J R
        have hs10 : 10 ≤ I 65 ((3 * (x / 16)) + k) := (by first | assumption | exact Int32.not_lt.mp (by assumption))
        have hso := hs65 (3 * (x / 16) + k) (by omega) hs10
        rw [hso.1]
        refine aw_aload_n hC dX12_isLeftOut_37 rfl ?_
        refine aw_getR hC dX12_isLeftOut_38 aF_X12_126 rfl (tg_44 hT) (pr_44_46 hR) ?_
        refine aw_bipush (v := 16) hC dX12_isLeftOut_41 (by decide) ?_
        refine aw_iload hC dX12_isLeftOut_43 rfl ?_
        refine kX12_333 hC rfl (m_X12_sourceOfN (m := (iN I 65 (3 * (x / 16) + k))) (by omega) (by omega)) dX12_isLeftOut_45 rfl a_le a_le a_le a_le a_le rfl aPure_x (aPure_k ?_)
        show AW X 0 0 48 [some (.ref 44), some (.int (nI x)), some (.int (bI acc)), some (.int (nI k)), some (.int (nI (iN I 65 (3 * (x / 16) + k))))] [.int (nI (((iN I 65 (3 * (x / 16) + k)) - 10) / 3)), .int 16, .ref 81, .int (bI acc)] T I J R
        refine aw_imul hC dX12_isLeftOut_48 ?_
        rw [show 16 * (nI (((iN I 65 (3 * (x / 16) + k)) - 10) / 3)) = nI (16 * (((iN I 65 (3 * (x / 16) + k)) - 10) / 3)) from pk_mul 16 (((iN I 65 (3 * (x / 16) + k)) - 10) / 3)]
        refine aw_iload_n hC dX12_isLeftOut_49 rfl ?_
        refine aw_bipush (v := 16) hC dX12_isLeftOut_50 (by decide) ?_
        refine aw_irem hC dX12_isLeftOut_52 (by decide) ?_
        rw [show (nI x) - (nI x) / 16 * 16 = nI (x % 16) from pk_rem (a := x) (d := 16) (by omega) (by decide) (by decide)]
        refine aw_iadd hC dX12_isLeftOut_53 ?_
        rw [show (nI (16 * (((iN I 65 (3 * (x / 16) + k)) - 10) / 3))) + (nI (x % 16)) = nI ((16 * (((iN I 65 (3 * (x / 16) + k)) - 10) / 3)) + (x % 16)) from nI_add (16 * (((iN I 65 (3 * (x / 16) + k)) - 10) / 3)) (x % 16)]
        refine aw_baload_k (j := ((16 * (((iN I 65 (3 * (x / 16) + k)) - 10) / 3)) + (x % 16))) hC dX12_isLeftOut_54 (tg_81 hT) (nI_clamp (by omega)) (vp_in_nI (by omega) (by decide)) ?_
        refine aw_if_eq (tgt := 62) hC dX12_isLeftOut_55 (by decide) (fun h3 => ?_) (fun h3 => ?_)
        · show AW X 0 0 62 [some (.ref 44), some (.int (nI x)), some (.int (bI acc)), some (.int (nI k)), some (.int (nI (iN I 65 (3 * (x / 16) + k))))] [.int (bI acc)] T I J R
          refine aw_iconst (v := 0) hC dX12_isLeftOut_62 (by decide) ?_
          refine aw_ior hC dX12_isLeftOut_63 ?_
          rw [bI_or0]
          refine aw_istore_n (L2 := [some (.ref 44), some (.int (nI x)), some (.int (bI acc)), some (.int (nI k)), some (.int (nI (iN I 65 (3 * (x / 16) + k))))]) hC dX12_isLeftOut_64 rfl (by decide) rfl ?_
          refine aw_iinc (v := nI (k + 1)) (L2 := [some (.ref 44), some (.int (nI x)), some (.int (bI acc)), some (.int (nI (k + 1))), some (.int (nI (iN I 65 (3 * (x / 16) + k))))]) hC dX12_isLeftOut_65 rfl (nI_inc _) (by decide) rfl ?_
          refine aw_goto (tgt := 9) hC dX12_isLeftOut_68 (by decide) ?_
          refine aw_forget 4 (L2 := [some (.ref 44), some (.int (nI x)), some (.int (bI acc)), some (.int (nI (k + 1))), none]) rfl ?_
          exact ih (by omega) acc (lo_n (by first | exact Or.inl (Int32.not_le.mpr (by assumption)) | exact Or.inr (by assumption)) hacc)
        · show AW X 0 0 58 [some (.ref 44), some (.int (nI x)), some (.int (bI acc)), some (.int (nI k)), some (.int (nI (iN I 65 (3 * (x / 16) + k))))] [.int (bI acc)] T I J R
          refine aw_iconst (v := 1) hC dX12_isLeftOut_58 (by decide) ?_
          refine aw_goto (tgt := 63) hC dX12_isLeftOut_59 (by decide) ?_
          refine aw_ior hC dX12_isLeftOut_63 ?_
          rw [bI_or1]
          refine aw_istore_n (L2 := [some (.ref 44), some (.int (nI x)), some (.int (bI true)), some (.int (nI k)), some (.int (nI (iN I 65 (3 * (x / 16) + k))))]) hC dX12_isLeftOut_64 rfl (by decide) rfl ?_
          refine aw_iinc (v := nI (k + 1)) (L2 := [some (.ref 44), some (.int (nI x)), some (.int (bI true)), some (.int (nI (k + 1))), some (.int (nI (iN I 65 (3 * (x / 16) + k))))]) hC dX12_isLeftOut_65 rfl (nI_inc _) (by decide) rfl ?_
          refine aw_goto (tgt := 9) hC dX12_isLeftOut_68 (by decide) ?_
          refine aw_forget 4 (L2 := [some (.ref 44), some (.int (nI x)), some (.int (bI true)), some (.int (nI (k + 1))), none]) rfl ?_
          exact ih (by omega) true (lo_y hs10 (by assumption) hacc)
  exact loop 0 (Nat.zero_le _) _ (by rw [anyB, Bool.or_false])
