set_option maxRecDepth 100000 in
theorem m_X12_moveT2 {T : List aT} {I : aI} {J : aJ} {R : aR} (hT : aPT T) (hR : aPR R) {g : Nat} (hg : I 44 20 = nI g) (hg4 : g ≤ 4) {x y : Nat} (hx : x < 16 * g) (hy : y < 16 * g) (hm : canMv I x y) (h71 : B01 I 71) (hpe : I 69 x ≠ 0 → 0 < I 69 x) : MX12_move 0 0 [.ref 44, .int (nI x), .int (nI y)] T I J R (aPure (some (.int (I 44 35 + 1))) T (mvS I x y) J R) := by
  refine a_met (by decide +kernel) a_le (fun X hC hq => ?_)
  show AW X 0 0 0 [some (.ref 44), some (.int (nI x)), some (.int (nI y)), none] [] T I J R
  have h71x : I 71 x = 0 ∨ I 71 x = 1 := h71 x
  refine aw_aload_n hC dX12_move_0 rfl ?_
  refine aw_aload_n hC dX12_move_1 rfl ?_
  refine aw_iload_n hC dX12_move_2 rfl ?_
  refine kX12_374 hC rfl (m_X12_isName (I := I) (J := J) hT hR (nI x) (g := g) hg hg4) dX12_move_3 (tg_44 hT) rfl a_le a_le a_le a_le a_le rfl aPure_x (aPure_k ?_)
  show AW X 0 0 6 [some (.ref 44), some (.int (nI x)), some (.int (nI y)), none] [.int (bI (decide (0 ≤ (nI x) ∧ (nI x) < nI (16 * g)))), .ref 44] T I J R
  rw [show bI (decide (0 ≤ (nI x) ∧ (nI x) < nI (16 * g))) = 1 from bI_one (nI_btw hx (by omega))]
  refine aw_if_eq (tgt := 21) hC dX12_move_6 (by decide) (fun h1 => absurd h1 (by decide)) (fun _ => ?_)
  show AW X 0 0 9 [some (.ref 44), some (.int (nI x)), some (.int (nI y)), none] [.ref 44] T I J R
  refine aw_aload_n hC dX12_move_9 rfl ?_
  refine aw_iload_n hC dX12_move_10 rfl ?_
  refine kX12_374 hC rfl (m_X12_isName (I := I) (J := J) hT hR (nI y) (g := g) hg hg4) dX12_move_11 (tg_44 hT) rfl a_le a_le a_le a_le a_le rfl aPure_x (aPure_k ?_)
  show AW X 0 0 14 [some (.ref 44), some (.int (nI x)), some (.int (nI y)), none] [.int (bI (decide (0 ≤ (nI y) ∧ (nI y) < nI (16 * g)))), .ref 44] T I J R
  rw [show bI (decide (0 ≤ (nI y) ∧ (nI y) < nI (16 * g))) = 1 from bI_one (nI_btw hy (by omega))]
  refine aw_if_eq (tgt := 21) hC dX12_move_14 (by decide) (fun h2 => absurd h2 (by decide)) (fun _ => ?_)
  show AW X 0 0 17 [some (.ref 44), some (.int (nI x)), some (.int (nI y)), none] [.ref 44] T I J R
  refine aw_iconst (v := 0) hC dX12_move_17 (by decide) ?_
  refine aw_goto (tgt := 22) hC dX12_move_18 (by decide) ?_
  refine aw_putI hC dX12_move_22 aF_X12_166 rfl rfl (tg_44 hT) ?_
  refine aw_aload_n hC dX12_move_25 rfl ?_
  refine aw_getI hC dX12_move_26 aF_X12_166 rfl (tg_44 hT) ?_
  rw [a_u_self (f := I) (o := 44) (k := 61) (v := 0)]
  refine aw_if_le (tgt := 34) hC dX12_move_29 (by decide) (fun _ => ?_) (fun h3 => absurd h3 (by decide))
  show AW X 0 0 34 [some (.ref 44), some (.int (nI x)), some (.int (nI y)), none] [] T (a_u I 44 61 0) J R
  refine aw_aload_n hC dX12_move_34 rfl ?_
  refine aw_aload_n hC dX12_move_35 rfl ?_
  refine aw_getI hC dX12_move_36 aF_X12_123 rfl (tg_44 hT) ?_
  rw [a_u_ne (f := I) (o := 44) (k := 61) (a := 44) (b := 45) (v := 0) (fun q => absurd q.2 (by decide))]
  refine aw_if_ge (tgt := 81) hC dX12_move_39 (by decide) (fun h => absurd hm.1 (Int32.not_lt.mpr h)) (fun _ => ?_)
  show AW X 0 0 42 [some (.ref 44), some (.int (nI x)), some (.int (nI y)), none] [.ref 44] T (a_u I 44 61 0) J R
  refine aw_aload_n hC dX12_move_42 rfl ?_
  refine aw_getR hC dX12_move_43 aF_X12_83 rfl (tg_44 hT) (pr_44_29 hR) ?_
  refine aw_iload_n hC dX12_move_46 rfl ?_
  refine aw_iaload_k (j := x) hC dX12_move_47 (tg_69 hT) (nI_clamp (by omega)) (vp_in_nI (by omega) (by decide)) ?_
  rw [a_u_ne (f := I) (o := 44) (k := 61) (a := 69) (b := x) (v := 0) (fun q => absurd q.1 (by decide))]
  refine aw_if_eq (tgt := 81) hC dX12_move_48 (by decide) (fun h => absurd h hm.2.1) (fun _ => ?_)
  show AW X 0 0 51 [some (.ref 44), some (.int (nI x)), some (.int (nI y)), none] [.ref 44] T (a_u I 44 61 0) J R
  refine aw_aload_n hC dX12_move_51 rfl ?_
  refine aw_getR hC dX12_move_52 aF_X12_83 rfl (tg_44 hT) (pr_44_29 hR) ?_
  refine aw_iload_n hC dX12_move_55 rfl ?_
  refine aw_iaload_k (j := y) hC dX12_move_56 (tg_69 hT) (nI_clamp (by omega)) (vp_in_nI (by omega) (by decide)) ?_
  rw [a_u_ne (f := I) (o := 44) (k := 61) (a := 69) (b := y) (v := 0) (fun q => absurd q.1 (by decide))]
  refine aw_if_gt (tgt := 81) hC dX12_move_57 (by decide) (fun h => absurd h hm.2.2.1) (fun _ => ?_)
  show AW X 0 0 60 [some (.ref 44), some (.int (nI x)), some (.int (nI y)), none] [.ref 44] T (a_u I 44 61 0) J R
  refine aw_aload_n hC dX12_move_60 rfl ?_
  refine aw_getR hC dX12_move_61 aF_X12_62 rfl (tg_44 hT) (pr_44_21 hR) ?_
  refine aw_iload_n hC dX12_move_64 rfl ?_
  refine aw_bipush (v := 16) hC dX12_move_65 (by decide) ?_
  refine aw_idiv hC dX12_move_67 (by decide) ?_
  rw [show (nI x) / 16 = nI (x / 16) from pk_div (a := x) (d := 16) (by omega) (by decide) (by decide)]
  refine aw_iaload_k (j := (x / 16)) hC dX12_move_68 (tg_62 hT) (nI_clamp (by omega)) (vp_in_nI (by omega) (by decide)) ?_
  rw [a_u_ne (f := I) (o := 44) (k := 61) (a := 62) (b := (x / 16)) (v := 0) (fun q => absurd q.1 (by decide))]
  refine aw_aload_n hC dX12_move_69 rfl ?_
  refine aw_getR hC dX12_move_70 aF_X12_62 rfl (tg_44 hT) (pr_44_21 hR) ?_
  refine aw_iload_n hC dX12_move_73 rfl ?_
  refine aw_bipush (v := 16) hC dX12_move_74 (by decide) ?_
  refine aw_idiv hC dX12_move_76 (by decide) ?_
  rw [show (nI y) / 16 = nI (y / 16) from pk_div (a := y) (d := 16) (by omega) (by decide) (by decide)]
  refine aw_iaload_k (j := (y / 16)) hC dX12_move_77 (tg_62 hT) (nI_clamp (by omega)) (vp_in_nI (by omega) (by decide)) ?_
  rw [a_u_ne (f := I) (o := 44) (k := 61) (a := 62) (b := (y / 16)) (v := 0) (fun q => absurd q.1 (by decide))]
  refine aw_icmp_eq (tgt := 85) hC dX12_move_78 (by decide) (fun _ => ?_) (fun h => absurd hm.2.2.2 h)
  show AW X 0 0 85 [some (.ref 44), some (.int (nI x)), some (.int (nI y)), none] [.ref 44] T (a_u I 44 61 0) J R
  refine aw_iconst (v := 0) hC dX12_move_85 (by decide) ?_
  refine aw_putI hC dX12_move_86 aF_X12_166 rfl rfl (tg_44 hT) ?_
  rw [a_u_2]
  refine aw_aload_n hC dX12_move_89 rfl ?_
  refine aw_getI hC dX12_move_90 aF_X12_166 rfl (tg_44 hT) ?_
  rw [a_u_self (f := I) (o := 44) (k := 61) (v := 0)]
  refine aw_if_le (tgt := 98) hC dX12_move_93 (by decide) (fun _ => ?_) (fun h4 => absurd h4 (by decide))
  show AW X 0 0 98 [some (.ref 44), some (.int (nI x)), some (.int (nI y)), none] [] T (a_u I 44 61 0) J R
  refine aw_aload_n hC dX12_move_98 rfl ?_
  refine aw_getR hC dX12_move_99 aF_X12_83 rfl (tg_44 hT) (pr_44_29 hR) ?_
  refine aw_iload_n hC dX12_move_102 rfl ?_
  refine aw_aload_n hC dX12_move_103 rfl ?_
  refine aw_getR hC dX12_move_104 aF_X12_83 rfl (tg_44 hT) (pr_44_29 hR) ?_
  refine aw_iload_n hC dX12_move_107 rfl ?_
  refine aw_iaload_k (j := x) hC dX12_move_108 (tg_69 hT) (nI_clamp (by omega)) (vp_in_nI (by omega) (by decide)) ?_
  rw [a_u_ne (f := I) (o := 44) (k := 61) (a := 69) (b := x) (v := 0) (fun q => absurd q.1 (by decide))]
  refine aw_iastore_k (j := y) hC dX12_move_109 (tg_69 hT) (nI_clamp (by omega)) (vp_in_nI (by omega) (by decide)) ?_
  refine aw_aload_n hC dX12_move_110 rfl ?_
  refine aw_getR hC dX12_move_111 aF_X12_89 rfl (tg_44 hT) (pr_44_31 hR) ?_
  refine aw_iload_n hC dX12_move_114 rfl ?_
  refine aw_aload_n hC dX12_move_115 rfl ?_
  refine aw_getR hC dX12_move_116 aF_X12_89 rfl (tg_44 hT) (pr_44_31 hR) ?_
  refine aw_iload_n hC dX12_move_119 rfl ?_
  refine aw_baload_k (j := x) hC dX12_move_120 (tg_71 hT) (nI_clamp (by omega)) (vp_in_nI (by omega) (by decide)) ?_
  rw [a_u_ne (f := a_u I 44 61 0) (o := 69) (k := y) (a := 71) (b := x) (v := I 69 x) (fun q => absurd q.1 (by decide))]
  rw [a_u_ne (f := I) (o := 44) (k := 61) (a := 71) (b := x) (v := 0) (fun q => absurd q.1 (by decide))]
  refine aw_bastore_k (j := y) hC dX12_move_121 (tg_71 hT) (nI_clamp (by omega)) (vp_in_nI (by omega) (by decide)) (by first | assumption | exact bI_01 _) ?_
  refine aw_aload_n hC dX12_move_122 rfl ?_
  refine aw_getR hC dX12_move_123 aF_X12_92 rfl (tg_44 hT) (pr_44_32 hR) ?_
  refine aw_iload_n hC dX12_move_126 rfl ?_
  refine aw_aload_n hC dX12_move_127 rfl ?_
  refine aw_getR hC dX12_move_128 aF_X12_92 rfl (tg_44 hT) (pr_44_32 hR) ?_
  refine aw_iload_n hC dX12_move_131 rfl ?_
  refine aw_iaload_k (j := x) hC dX12_move_132 (tg_72 hT) (nI_clamp (by omega)) (vp_in_nI (by omega) (by decide)) ?_
  rw [a_u_ne (f := a_u (a_u I 44 61 0) 69 y (I 69 x)) (o := 71) (k := y) (a := 72) (b := x) (v := I 71 x) (fun q => absurd q.1 (by decide))]
  rw [a_u_ne (f := a_u I 44 61 0) (o := 69) (k := y) (a := 72) (b := x) (v := I 69 x) (fun q => absurd q.1 (by decide))]
  rw [a_u_ne (f := I) (o := 44) (k := 61) (a := 72) (b := x) (v := 0) (fun q => absurd q.1 (by decide))]
  refine aw_iastore_k (j := y) hC dX12_move_133 (tg_72 hT) (nI_clamp (by omega)) (vp_in_nI (by omega) (by decide)) ?_
  refine aw_iconst (v := 0) hC dX12_move_134 (by decide) ?_
  refine aw_istore_n (L2 := [some (.ref 44), some (.int (nI x)), some (.int (nI y)), some (.int 0)]) hC dX12_move_135 rfl (by decide) rfl ?_
  have hxy : x ≠ y := fun q => by subst q; exact hm.2.2.1 (hpe hm.2.1)
  rw [show a_u (a_u (a_u (a_u I 44 61 0) 69 y (I 69 x)) 71 y (I 71 x)) 72 y (I 72 x) = a_ur (a_ur (a_u (a_u (a_u (a_u I 44 61 0) 69 y (I 69 x)) 71 y (I 71 x)) 72 y (I 72 x)) 70 (mvR I 70 x y 0)) 73 (mvR I 73 x y 0) from by rw [a_ur_id (f := a_u (a_u (a_u (a_u I 44 61 0) 69 y (I 69 x)) 71 y (I 71 x)) 72 y (I 72 x)) (o := 70) (fun j => by simp only [mvR]; rw [if_neg (by omega), a_u_row (by decide), a_u_row (by decide), a_u_row (by decide), a_u_row (by decide)]), a_ur_id (f := a_u (a_u (a_u (a_u I 44 61 0) 69 y (I 69 x)) 71 y (I 71 x)) 72 y (I 72 x)) (o := 73) (fun j => by simp only [mvR]; rw [if_neg (by omega), a_u_row (by decide), a_u_row (by decide), a_u_row (by decide), a_u_row (by decide)])]]
  have loop : ∀ k, k ≤ 3 → AW X 0 0 136 [some (.ref 44), some (.int (nI x)), some (.int (nI y)), some (.int (nI k))] [] T (a_ur (a_ur (a_u (a_u (a_u (a_u I 44 61 0) 69 y (I 69 x)) 71 y (I 71 x)) 72 y (I 72 x)) 70 (mvR I 70 x y k)) 73 (mvR I 73 x y k)) J R := by
    refine a_down 3 (fun k hkl ih => ?_)
    refine aw_iload_n hC dX12_move_136 rfl ?_
    refine aw_iconst (v := 3) hC dX12_move_137 (by decide) ?_
    refine aw_icmp_ge (tgt := 187) hC dX12_move_138 (by decide) (fun h5 => ?_) (fun h5 => ?_)
    · show AW X 0 0 187 [some (.ref 44), some (.int (nI x)), some (.int (nI y)), some (.int (nI k))] [] T (a_ur (a_ur (a_u (a_u (a_u (a_u I 44 61 0) 69 y (I 69 x)) 71 y (I 71 x)) 72 y (I 72 x)) 70 (mvR I 70 x y k)) 73 (mvR I 73 x y k)) J R
      have h5n : 3 ≤ k := (nI_leI (a := 3) (b := k) (by omega) (by omega)).mp h5
      have e9 : k = 3 := by omega
      rw [e9]
      obtain ⟨I5, hI5⟩ : ∃ I5, I5 = a_ur (a_ur (a_u (a_u (a_u (a_u I 44 61 0) 69 y (I 69 x)) 71 y (I 71 x)) 72 y (I 72 x)) 70 (mvR I 70 x y 3)) 73 (mvR I 73 x y 3) := ⟨_, rfl⟩
      rw [← hI5]
      have hm35 : I5 44 35 = I 44 35 := by rw [hI5, a_ur_ne (by decide), a_ur_ne (by decide), a_u_row (by decide), a_u_row (by decide), a_u_row (by decide), a_u_ne (fun q => absurd q.2 (by decide))]
      refine aw_aload_n hC dX12_move_187 rfl ?_
      refine aw_getR hC dX12_move_188 aF_X12_83 rfl (tg_44 hT) (pr_44_29 hR) ?_
      refine aw_iload_n hC dX12_move_191 rfl ?_
      refine aw_iconst (v := 0) hC dX12_move_192 (by decide) ?_
      refine aw_iastore_k (j := x) hC dX12_move_193 (tg_69 hT) (nI_clamp (by omega)) (vp_in_nI (by omega) (by decide)) ?_
      refine aw_aload_n hC dX12_move_194 rfl ?_
      refine aw_dup hC dX12_move_195 rfl ?_
      refine aw_getI hC dX12_move_196 aF_X12_343 rfl (tg_44 hT) ?_
      rw [a_u_ne (f := I5) (o := 69) (k := x) (a := 44) (b := 35) (v := 0) (fun q => absurd q.1 (by decide))]
      rw [hm35]
      refine aw_iconst (v := 1) hC dX12_move_199 (by decide) ?_
      refine aw_iadd hC dX12_move_200 ?_
      refine aw_putI hC dX12_move_201 aF_X12_343 rfl rfl (tg_44 hT) ?_
      refine aw_aload_n hC dX12_move_204 rfl ?_
      refine aw_getI hC dX12_move_205 aF_X12_343 rfl (tg_44 hT) ?_
      rw [a_u_self (f := a_u I5 69 x 0) (o := 44) (k := 35) (v := (I 44 35) + 1)]
      exact aw_ireturn hC hq rfl dX12_move_208 a_le a_le (aPure_e rfl (by rw [hI5]) rfl rfl)
    · show AW X 0 0 141 [some (.ref 44), some (.int (nI x)), some (.int (nI y)), some (.int (nI k))] [] T (a_ur (a_ur (a_u (a_u (a_u (a_u I 44 61 0) 69 y (I 69 x)) 71 y (I 71 x)) 72 y (I 72 x)) 70 (mvR I 70 x y k)) 73 (mvR I 73 x y k)) J R
      have h5n : ¬ 3 ≤ k := fun q9 => h5 ((nI_leI (a := 3) (b := k) (by omega) (by omega)).mpr q9)
      refine aw_aload_n hC dX12_move_141 rfl ?_
      refine aw_getR hC dX12_move_142 aF_X12_86 rfl (tg_44 hT) (pr_44_30 hR) ?_
      refine aw_iconst (v := 3) hC dX12_move_145 (by decide) ?_
      refine aw_iload_n hC dX12_move_146 rfl ?_
      refine aw_imul hC dX12_move_147 ?_
      rw [show 3 * (nI y) = nI (3 * y) from pk_mul 3 y]
      refine aw_iload_n hC dX12_move_148 rfl ?_
      refine aw_iadd hC dX12_move_149 ?_
      rw [show (nI (3 * y)) + (nI k) = nI ((3 * y) + k) from nI_add (3 * y) k]
      refine aw_aload_n hC dX12_move_150 rfl ?_
      refine aw_getR hC dX12_move_151 aF_X12_86 rfl (tg_44 hT) (pr_44_30 hR) ?_
      refine aw_iconst (v := 3) hC dX12_move_154 (by decide) ?_
      refine aw_iload_n hC dX12_move_155 rfl ?_
      refine aw_imul hC dX12_move_156 ?_
      rw [show 3 * (nI x) = nI (3 * x) from pk_mul 3 x]
      refine aw_iload_n hC dX12_move_157 rfl ?_
      refine aw_iadd hC dX12_move_158 ?_
      rw [show (nI (3 * x)) + (nI k) = nI ((3 * x) + k) from nI_add (3 * x) k]
      refine aw_iaload_k (j := ((3 * x) + k)) hC dX12_move_159 (tg_70 hT) (nI_clamp (by omega)) (vp_in_nI (by omega) (by decide)) ?_
      rw [a_ur_ne (f := a_ur (a_u (a_u (a_u (a_u I 44 61 0) 69 y (I 69 x)) 71 y (I 71 x)) 72 y (I 72 x)) 70 (mvR I 70 x y k)) (o := 73) (a := 70) (g := mvR I 73 x y k) (by decide)]
      rw [a_ur_self (f := a_u (a_u (a_u (a_u I 44 61 0) 69 y (I 69 x)) 71 y (I 71 x)) 72 y (I 72 x)) (o := 70) (g := mvR I 70 x y k)]
      refine aw_iastore_k (j := ((3 * y) + k)) hC dX12_move_160 (tg_70 hT) (nI_clamp (by omega)) (vp_in_nI (by omega) (by decide)) ?_
      rw [show a_u (a_ur (a_ur (a_u (a_u (a_u (a_u I 44 61 0) 69 y (I 69 x)) 71 y (I 71 x)) 72 y (I 72 x)) 70 (mvR I 70 x y k)) 73 (mvR I 73 x y k)) 70 ((3 * y) + k) ((mvR I 70 x y k) ((3 * x) + k)) = a_ur (a_ur (a_u (a_u (a_u (a_u I 44 61 0) 69 y (I 69 x)) 71 y (I 71 x)) 72 y (I 72 x)) 70 (fun j => if j = ((3 * y) + k) then (mvR I 70 x y k) ((3 * x) + k) else (mvR I 70 x y k) j)) 73 (mvR I 73 x y k) from by rw [a_u_swap (by first | decide | omega), a_ur_put]]
      refine aw_aload_n hC dX12_move_161 rfl ?_
      refine aw_getR hC dX12_move_162 aF_X12_95 rfl (tg_44 hT) (pr_44_33 hR) ?_
      refine aw_iconst (v := 3) hC dX12_move_165 (by decide) ?_
      refine aw_iload_n hC dX12_move_166 rfl ?_
      refine aw_imul hC dX12_move_167 ?_
      rw [show 3 * (nI y) = nI (3 * y) from pk_mul 3 y]
      refine aw_iload_n hC dX12_move_168 rfl ?_
      refine aw_iadd hC dX12_move_169 ?_
      rw [show (nI (3 * y)) + (nI k) = nI ((3 * y) + k) from nI_add (3 * y) k]
      refine aw_aload_n hC dX12_move_170 rfl ?_
      refine aw_getR hC dX12_move_171 aF_X12_95 rfl (tg_44 hT) (pr_44_33 hR) ?_
      refine aw_iconst (v := 3) hC dX12_move_174 (by decide) ?_
      refine aw_iload_n hC dX12_move_175 rfl ?_
      refine aw_imul hC dX12_move_176 ?_
      rw [show 3 * (nI x) = nI (3 * x) from pk_mul 3 x]
      refine aw_iload_n hC dX12_move_177 rfl ?_
      refine aw_iadd hC dX12_move_178 ?_
      rw [show (nI (3 * x)) + (nI k) = nI ((3 * x) + k) from nI_add (3 * x) k]
      refine aw_iaload_k (j := ((3 * x) + k)) hC dX12_move_179 (tg_73 hT) (nI_clamp (by omega)) (vp_in_nI (by omega) (by decide)) ?_
      rw [a_ur_self (f := a_ur (a_u (a_u (a_u (a_u I 44 61 0) 69 y (I 69 x)) 71 y (I 71 x)) 72 y (I 72 x)) 70 (fun j => if j = ((3 * y) + k) then (mvR I 70 x y k) ((3 * x) + k) else (mvR I 70 x y k) j)) (o := 73) (g := mvR I 73 x y k)]
      refine aw_iastore_k (j := ((3 * y) + k)) hC dX12_move_180 (tg_73 hT) (nI_clamp (by omega)) (vp_in_nI (by omega) (by decide)) ?_
      rw [show a_u (a_ur (a_ur (a_u (a_u (a_u (a_u I 44 61 0) 69 y (I 69 x)) 71 y (I 71 x)) 72 y (I 72 x)) 70 (fun j => if j = ((3 * y) + k) then (mvR I 70 x y k) ((3 * x) + k) else (mvR I 70 x y k) j)) 73 (mvR I 73 x y k)) 73 ((3 * y) + k) ((mvR I 73 x y k) ((3 * x) + k)) = a_ur (a_ur (a_u (a_u (a_u (a_u I 44 61 0) 69 y (I 69 x)) 71 y (I 71 x)) 72 y (I 72 x)) 70 (fun j => if j = ((3 * y) + k) then (mvR I 70 x y k) ((3 * x) + k) else (mvR I 70 x y k) j)) 73 (fun j => if j = ((3 * y) + k) then (mvR I 73 x y k) ((3 * x) + k) else (mvR I 73 x y k) j) from by rw [a_ur_put]]
      refine aw_iinc (v := nI (k + 1)) (L2 := [some (.ref 44), some (.int (nI x)), some (.int (nI y)), some (.int (nI (k + 1)))]) hC dX12_move_181 rfl (nI_inc _) (by decide) rfl ?_
      refine aw_goto (tgt := 136) hC dX12_move_184 (by decide) ?_
      rw [show a_ur (a_ur (a_u (a_u (a_u (a_u I 44 61 0) 69 y (I 69 x)) 71 y (I 71 x)) 72 y (I 72 x)) 70 (fun j => if j = ((3 * y) + k) then (mvR I 70 x y k) ((3 * x) + k) else (mvR I 70 x y k) j)) 73 (fun j => if j = ((3 * y) + k) then (mvR I 73 x y k) ((3 * x) + k) else (mvR I 73 x y k) j) = a_ur (a_ur (a_u (a_u (a_u (a_u I 44 61 0) 69 y (I 69 x)) 71 y (I 71 x)) 72 y (I 72 x)) 70 (mvR I 70 x y (k + 1))) 73 (mvR I 73 x y (k + 1)) from a_ur_cg (a_ur_ext (mv_put hxy (by omega))) (mv_put hxy (by omega))]
      exact ih (by omega)
  exact loop 0 (Nat.zero_le _)
theorem i_nat_le {x : Int32} {b : Nat} (h1 : 0 ≤ x) (h2 : x ≤ nI b) (hb : b < 90000) : ∃ j, j ≤ b ∧ x = nI j := by
  have e : (nI b).toInt = b := i_nl b (by omega)
  have e2 : (nI (b + 1)).toInt = ((b + 1 : Nat) : Int) := i_nl _ (by omega)
  have h3 := (i_le _ _).mp h2
  rw [e] at h3
  have h5 : x < nI (b + 1) := (i_lt _ _).mpr (by rw [e2]; omega)
  obtain ⟨j, hj, zz1⟩ := i_nat h1 h5 rfl (by omega)
  exact ⟨j, by omega, zz1⟩
theorem i_le_sub1 {v : Int32} {b : Nat} (hb : b ≤ 1000) : v ≤ nI b - 1 ↔ v < nI b := by
  have e : (nI b).toInt = b := i_nl b (by omega)
  simp only [i_lt, i_le, i_sub1 e hb, e]; omega
theorem LEq.iNq {a b : aI} (h : LEq a b) {q : Nat} (h1 : 45 ≤ q ∧ q ≤ 82) : iN b q = iN a q := by unfold iN; rw [h.r h1]
theorem D_key {T : List aT} {I : aI} {J : aJ} {R : aR} (hT : aPT T) (hR : aPR R) {m : aI} {c n g r p k : Nat} (hm : MI m c n g r p k) (hL : LEq m I) (hZ : Zr J) (x y z : Int32) {kq : Nat} {vq : Int32} {mq : aI} (hs : (fun k v m2 => (((0 ≤ x ∧ x < nI g) ∧ (0 ≤ y ∧ y ≤ nI (iN m 63 x.toNatClampNeg)) ∧ (0 ≤ z ∧ z ≤ 15) ∧ hkB m x.toNatClampNeg z = false ∧ iN m 63 x.toNatClampNeg < 8) ∧ k = 0 ∧ v = nI (iN m 63 x.toNatClampNeg + 1) ∧ m2 = kyM m x.toNatClampNeg y.toNatClampNeg (iN m 63 x.toNatClampNeg) z) ∨ (((0 ≤ x ∧ x < nI g) ∧ (0 ≤ y ∧ y ≤ nI (iN m 63 x.toNatClampNeg)) ∧ (0 ≤ z ∧ z ≤ 15) ∧ ¬ (hkB m x.toNatClampNeg z = false ∧ iN m 63 x.toNatClampNeg < 8)) ∧ k = 3 ∧ m2 = m) ∨ (((0 ≤ x ∧ x < nI g) ∧ (0 ≤ y ∧ y ≤ nI (iN m 63 x.toNatClampNeg)) ∧ ¬ (0 ≤ z ∧ z ≤ 15)) ∧ k = 2 ∧ m2 = m) ∨ (¬ ((0 ≤ x ∧ x < nI g) ∧ (0 ≤ y ∧ y ≤ nI (iN m 63 x.toNatClampNeg))) ∧ k = 1 ∧ m2 = m)) kq vq mq) : MX12_key 0 0 [.ref 44, .int x, .int y, .int z] T I J R (DP kq vq mq T I J R) := by
  have hi := hm.cg hL
  have hg4 := hm.2.1.1.1.1
  have h63 := hm.2.1.1.1.2.2.2.2.2.1
  have e63 := hL.iNq (q := 63) (by decide)
  by_cases hx : 0 ≤ x ∧ x < nI g
  · obtain ⟨x1, hx1, zz1⟩ := i_nat hx.1 hx.2 rfl (by omega)
    subst zz1
    have b63 := h63 x1 (by omega)
    simp only [nI_clamp (show x1 < 2147483648 by omega)] at hs
    rcases hs with ⟨hc, hk, hv, hm2⟩ | ⟨hc, hk, hm2⟩ | ⟨hc, hk, hm2⟩ | ⟨hc, hk, hm2⟩
    · obtain ⟨y1, hy1, zz2⟩ := i_nat_le hc.2.1.1 hc.2.1.2 (by omega)
      subst zz2
      rw [nI_clamp (show y1 < 2147483648 by omega)] at hm2
      have q := m_X12_keyT (I := I) (J := J) hT hR hi.2.1.1.1.2.1 hi.2.1.1.1.1 hi.2.1.1.1.2.2.2.2.2.1 (a := x1) (p := y1) hx1 (by rw [e63]; exact hy1) (by rw [e63]; exact hc.2.2.2.2) z hc.2.2.1 (by rw [e63, hL.r (q := 64) (by decide)]; exact hc.2.2.2.1)
      rw [e63, hL.r (q := 64) (by decide)] at q
      subst hk hm2
      exact AMet.mono q (DP.i (by (repeat (first | rw [a_u_self] | rw [a_u_row (by decide)] | rw [a_ur_ne (by decide)] | rw [a_u_ne (fun z => absurd z.2 (by decide))])) <;> rfl) (fun _ => hv.symm) ((hL.s61.ur (fun _ => rfl) (by decide)).u rfl) (fun q hq => by repeat (first | rw [a_u_row (by omega)] | rw [a_ur_ne (by omega)])) hZ)
    · have q := m_X12_keyF2 (I := I) (J := J) hT hR hi.2.1.1.1.2.1 hi.2.1.1.1.1 hi.2.1.1.1.2.2.2.2.2.1 (a := x1) hx1 y z (by rw [e63, hL.r (q := 64) (by decide)]; exact fun w => hc.2.2.2 ⟨w.2.2.1, by have w1 := w.2.2.2; have w2 := b63.2; omega⟩)
      rw [e63, if_pos hc.2.1, if_pos hc.2.2.1] at q
      subst hm2
      exact AMet.mono q (DP.f (j := 3) hk (by decide) hL hZ)
    · have q := m_X12_keyF2 (I := I) (J := J) hT hR hi.2.1.1.1.2.1 hi.2.1.1.1.1 hi.2.1.1.1.2.2.2.2.2.1 (a := x1) hx1 y z (fun w => hc.2.2 w.2.1)
      rw [e63, if_pos hc.2.1, if_neg hc.2.2] at q
      subst hm2
      exact AMet.mono q (DP.f (j := 2) hk (by decide) hL hZ)
    · have hy : ¬ (0 ≤ y ∧ y ≤ nI (iN m 63 x1)) := fun w => hc ⟨hx, w⟩
      have q := m_X12_keyF2 (I := I) (J := J) hT hR hi.2.1.1.1.2.1 hi.2.1.1.1.1 hi.2.1.1.1.2.2.2.2.2.1 (a := x1) hx1 y z (by rw [e63]; exact fun w => hy w.1)
      rw [e63, if_neg hy] at q
      subst hm2
      exact AMet.mono q (DP.f (j := 1) hk (by decide) hL hZ)
  · rcases hs with ⟨hc, hk, hv, hm2⟩ | ⟨hc, hk, hm2⟩ | ⟨hc, hk, hm2⟩ | ⟨hc, hk, hm2⟩
    · exact absurd hc.1 hx
    · exact absurd hc.1 hx
    · exact absurd hc.1 hx
    · have q := m_X12_keyF1 (I := I) (J := J) hT hR hi.2.1.1.1.2.1 hi.2.1.1.1.1 x y z hx
      subst hm2
      exact AMet.mono q (DP.f (j := 1) hk (by decide) hL hZ)
theorem D_unkey {T : List aT} {I : aI} {J : aJ} {R : aR} (hT : aPT T) (hR : aPR R) {m : aI} {c n g r p k : Nat} (hm : MI m c n g r p k) (hL : LEq m I) (hZ : Zr J) (x y : Int32) {kq : Nat} {vq : Int32} {mq : aI} (hs : (fun k v m2 => (((0 ≤ x ∧ x < nI g) ∧ (0 ≤ y ∧ y < nI (iN m 63 x.toNatClampNeg))) ∧ k = 0 ∧ v = m 64 (8 * x.toNatClampNeg + y.toNatClampNeg) ∧ m2 = kdM m x.toNatClampNeg y.toNatClampNeg (iN m 63 x.toNatClampNeg)) ∨ (¬ ((0 ≤ x ∧ x < nI g) ∧ (0 ≤ y ∧ y < nI (iN m 63 x.toNatClampNeg))) ∧ k = 1 ∧ m2 = m)) kq vq mq) : MX12_unkey 0 0 [.ref 44, .int x, .int y] T I J R (DP kq vq mq T I J R) := by
  have hi := hm.cg hL
  have hg4 := hm.2.1.1.1.1
  have h63 := hm.2.1.1.1.2.2.2.2.2.1
  have e63 := hL.iNq (q := 63) (by decide)
  by_cases hx : 0 ≤ x ∧ x < nI g
  · obtain ⟨x1, hx1, zz1⟩ := i_nat hx.1 hx.2 rfl (by omega)
    subst zz1
    have b63 := h63 x1 (by omega)
    simp only [nI_clamp (show x1 < 2147483648 by omega)] at hs
    rcases hs with ⟨hc, hk, hv, hm2⟩ | ⟨hc, hk, hm2⟩
    · obtain ⟨y1, hy1, zz2⟩ := i_nat hc.2.1 hc.2.2 rfl (by omega)
      subst zz2
      rw [nI_clamp (show y1 < 2147483648 by omega)] at hm2 hv
      have q := m_X12_unkeyT (I := I) (J := J) hT hR hi.2.1.1.1.2.1 hi.2.1.1.1.1 hi.2.1.1.1.2.2.2.2.2.1 (a := x1) (p := y1) hx1 (by rw [e63]; exact hy1)
      rw [e63, hL.r (q := 64) (by decide), a_ur_u_sw (by decide)] at q
      subst hk hm2
      exact AMet.mono q (DP.i (by (repeat (first | rw [a_u_self] | rw [a_u_row (by decide)] | rw [a_ur_ne (by decide)] | rw [a_u_ne (fun z => absurd z.2 (by decide))])) <;> rfl) (fun _ => hv.symm) ((hL.s61.ur (fun _ => rfl) (by decide)).u rfl) (fun q hq => by repeat (first | rw [a_u_row (by omega)] | rw [a_ur_ne (by omega)])) hZ)
    · have q := m_X12_unkeyF2 (I := I) (J := J) hT hR hi.2.1.1.1.2.1 hi.2.1.1.1.1 hi.2.1.1.1.2.2.2.2.2.1 (a := x1) hx1 y (by rw [e63]; exact fun w => hc ⟨hx, w.1, (i_le_sub1 (by omega)).mp w.2⟩)
      subst hm2
      exact AMet.mono q (DP.f (j := 1) hk (by decide) hL hZ)
  · rcases hs with ⟨hc, hk, hv, hm2⟩ | ⟨hc, hk, hm2⟩
    · exact absurd hc.1 hx
    · have q := m_X12_unkeyF1 (I := I) (J := J) hT hR hi.2.1.1.1.2.1 hi.2.1.1.1.1 x y hx
      subst hm2
      exact AMet.mono q (DP.f (j := 1) hk (by decide) hL hZ)
theorem D_bind {T : List aT} {I : aI} {J : aJ} {R : aR} (hT : aPT T) (hR : aPR R) {m : aI} {c n g r p k : Nat} (hm : MI m c n g r p k) (hL : LEq m I) (hZ : Zr J) (x a s : Int32) {kq : Nat} {vq : Int32} {mq : aI} (hs : (fun k v m2 => ((((0 ≤ x ∧ x < nI g) ∧ (0 ≤ a ∧ a ≤ 2) ∧ (-1 ≤ s ∧ s ≤ nI (10 + 3 * x.toNatClampNeg - 1))) ∧ bdC m x.toNatClampNeg a.toNatClampNeg s) ∧ k = 0 ∧ v = m 65 (3 * x.toNatClampNeg + a.toNatClampNeg) ∧ m2 = a_u m 65 (3 * x.toNatClampNeg + a.toNatClampNeg) s) ∨ ((((0 ≤ x ∧ x < nI g) ∧ (0 ≤ a ∧ a ≤ 2) ∧ (-1 ≤ s ∧ s ≤ nI (10 + 3 * x.toNatClampNeg - 1))) ∧ ¬ bdC m x.toNatClampNeg a.toNatClampNeg s) ∧ k = 2 ∧ m2 = m) ∨ (¬ ((0 ≤ x ∧ x < nI g) ∧ (0 ≤ a ∧ a ≤ 2) ∧ (-1 ≤ s ∧ s ≤ nI (10 + 3 * x.toNatClampNeg - 1))) ∧ k = 1 ∧ m2 = m)) kq vq mq) : MX12_bind 0 0 [.ref 44, .int x, .int a, .int s] T I J R (DP kq vq mq T I J R) := by
  have hi := hm.cg hL
  have hg4 := hm.2.1.1.1.1
  have e62 := hL.iNq (q := 62) (by decide)
  by_cases hx : 0 ≤ x ∧ x < nI g
  · obtain ⟨x1, hx1, zz1⟩ := i_nat hx.1 hx.2 rfl (by omega)
    subst zz1
    simp only [nI_clamp (show x1 < 2147483648 by omega)] at hs
    by_cases hb : (0 ≤ a ∧ a ≤ 2) ∧ (-1 ≤ s ∧ s ≤ nI (9 + 3 * x1))
    · obtain ⟨a1, ha1, zz2⟩ := i_nat hb.1.1 (i_lt3 hb.1.2) (b := 3) rfl (by decide)
      subst zz2
      simp only [nI_clamp (show a1 < 2147483648 by omega)] at hs
      have hcc : (0 ≤ nI x1 ∧ nI x1 < nI g) ∧ (0 ≤ nI a1 ∧ nI a1 ≤ 2) ∧ (-1 ≤ s ∧ s ≤ nI (10 + 3 * x1 - 1)) := ⟨hx, hb.1, hb.2.1, by rw [show 10 + 3 * x1 - 1 = 9 + 3 * x1 by omega]; exact hb.2.2⟩
      by_cases h10 : s < 10
      · have q := m_X12_bindA (I := I) (J := J) hT hR hi.2.1.1.1.2.1 hi.2.1.1.1.1 hi.2.1.1.1.2.2.2.1 (a := x1) (b := a1) hx1 ha1 s ⟨hb.2.1, h10⟩ hb.2
        rw [e62, hL.r (q := 58) (by decide), hL.r (q := 65) (by decide)] at q
        rcases hs with ⟨hc, hk, hv, hm2⟩ | ⟨hc, hk, hm2⟩ | ⟨hc, hk, hm2⟩
        · rw [if_pos hc.2.1, if_pos hc.2.1] at q
          subst hk hm2
          exact AMet.mono q (DP.i (by (repeat (first | rw [a_u_self] | rw [a_u_row (by decide)] | rw [a_ur_ne (by decide)] | rw [a_u_ne (fun z => absurd z.2 (by decide))])) <;> rfl) (fun _ => hv.symm) (hL.s61.u rfl) (fun q hq => by repeat (first | rw [a_u_row (by omega)] | rw [a_ur_ne (by omega)])) hZ)
        · have hn : ¬ m 58 (3 * iN m 62 x1 + a1) &&& 2 = 0 := fun w => hc.2 ⟨w, Or.inl h10⟩
          rw [if_neg hn, if_neg hn] at q
          subst hm2
          exact AMet.mono q (DP.f (j := 2) hk (by decide) hL hZ)
        · exact absurd hcc hc
      · obtain ⟨s1, hs1, zz3⟩ := i_nat_le (x := s) (b := 9 + 3 * x1) (by simp only [i_lt, i_le, Int32.reduceToInt] at *; omega) hb.2.2 (by omega)
        subst zz3
        have h10n : 10 ≤ s1 := by
          apply Classical.byContradiction
          intro w
          exact h10 ((nI_ltI (a := s1) (b := 10) (by omega) (by omega)).mpr (by omega))
        have es : s1 = 10 + 3 * ((s1 - 10) / 3) + (s1 - 10) % 3 := by omega
        have q := m_X12_bindB (I := I) (J := J) hT hR hi.2.1.1.1.2.1 hi.2.1.1.1.1 hi.2.1.1.1.2.2.2.1 (a := x1) (b := a1) (h := (s1 - 10) / 3) (c := (s1 - 10) % 3) hx1 ha1 (by omega) (by omega)
        rw [← es, e62, hL.r (q := 58) (by decide), hL.r (q := 65) (by decide)] at q
        simp only [bdC, nI_clamp (show s1 < 2147483648 by omega)] at hs
        rcases hs with ⟨hc, hk, hv, hm2⟩ | ⟨hc, hk, hm2⟩ | ⟨hc, hk, hm2⟩
        · have hd := And.intro hc.2.1 (hc.2.2.resolve_left h10)
          rw [if_pos hd, if_pos hd] at q
          subst hk hm2
          exact AMet.mono q (DP.i (by (repeat (first | rw [a_u_self] | rw [a_u_row (by decide)] | rw [a_ur_ne (by decide)] | rw [a_u_ne (fun z => absurd z.2 (by decide))])) <;> rfl) (fun _ => hv.symm) (hL.s61.u rfl) (fun q hq => by repeat (first | rw [a_u_row (by omega)] | rw [a_ur_ne (by omega)])) hZ)
        · have hn : ¬ (m 58 (3 * iN m 62 x1 + a1) &&& 2 = 0 ∧ m 58 (3 * iN m 62 ((s1 - 10) / 3) + (s1 - 10) % 3) &&& 2 ≠ 0) := fun w => hc.2 ⟨w.1, Or.inr w.2⟩
          rw [if_neg hn, if_neg hn] at q
          subst hm2
          exact AMet.mono q (DP.f (j := 2) hk (by decide) hL hZ)
        · exact absurd hcc hc
    · have q := m_X12_bindF2 (I := I) (J := J) hT hR hi.2.1.1.1.2.1 hi.2.1.1.1.1 (a := x1) hx1 a s hb
      have hn : ∀ w : (0 ≤ nI x1 ∧ nI x1 < nI g) ∧ (0 ≤ a ∧ a ≤ 2) ∧ (-1 ≤ s ∧ s ≤ nI (10 + 3 * x1 - 1)), False := fun w => hb ⟨w.2.1, w.2.2.1, by rw [show 9 + 3 * x1 = 10 + 3 * x1 - 1 by omega]; exact w.2.2.2⟩
      rcases hs with ⟨hc, hk, hv, hm2⟩ | ⟨hc, hk, hm2⟩ | ⟨hc, hk, hm2⟩
      · exact (hn hc.1).elim
      · exact (hn hc.1).elim
      · subst hm2
        exact AMet.mono q (DP.f (j := 1) hk (by decide) hL hZ)
  · rcases hs with ⟨hc, hk, hv, hm2⟩ | ⟨hc, hk, hm2⟩ | ⟨hc, hk, hm2⟩
    · exact absurd hc.1.1 hx
    · exact absurd hc.1.1 hx
    · have q := m_X12_bindF1 (I := I) (J := J) hT hR hi.2.1.1.1.2.1 hi.2.1.1.1.1 x a s hx
      subst hm2
      exact AMet.mono q (DP.f (j := 1) hk (by decide) hL hZ)
theorem D_publish {T : List aT} {I : aI} {J : aJ} {R : aR} (hT : aPT T) (hR : aPR R) {m : aI} {c n g r p k : Nat} (hm : MI m c n g r p k) (hL : LEq m I) (hZ : Zr J) (x : Int32) {kq : Nat} {vq : Int32} {mq : aI} (hs : (fun k v m2 => (((0 ≤ x ∧ x ≤ 2) ∧ iN m 53 x.toNatClampNeg < 3) ∧ k = 0 ∧ v = nI (iN m 53 x.toNatClampNeg + 1) ∧ m2 = pbM m x.toNatClampNeg n) ∨ (((0 ≤ x ∧ x ≤ 2) ∧ ¬ iN m 53 x.toNatClampNeg < 3) ∧ k = 2 ∧ m2 = m) ∨ (¬ (0 ≤ x ∧ x ≤ 2) ∧ k = 1 ∧ m2 = m)) kq vq mq) : MX12_publish 0 0 [.ref 44, .int x] T I J R (DP kq vq mq T I J R) := by
  have hi := hm.cg hL
  have e53 := hL.iNq (q := 53) (by decide)
  by_cases hx : 0 ≤ x ∧ x ≤ 2
  · obtain ⟨x1, hx1, zz1⟩ := i_nat hx.1 (i_lt3 hx.2) (b := 3) rfl (by decide)
    subst zz1
    simp only [nI_clamp (show x1 < 2147483648 by omega)] at hs
    have b53 := hi.1.1.vv
    rcases hs with ⟨hc, hk, hv, hm2⟩ | ⟨hc, hk, hm2⟩ | ⟨hc, hk, hm2⟩
    · have q := m_X12_publishT (I := I) (J := J) hT hR (a := x1) hx1 b53 (by rw [e53]; exact hc.2) hi.1.1.2.1 hi.1.1.1
      rw [e53] at q
      subst hk hm2
      exact AMet.mono q (DP.i (by (repeat (first | rw [a_u_self] | rw [a_u_row (by decide)] | rw [a_ur_ne (by decide)] | rw [a_u_ne (fun z => absurd z.2 (by decide))])) <;> rfl) (fun _ => hv.symm) ((hL.s61.u rfl).ur (fun j => by show (if j < n ∧ m 50 j = nI x1 ∧ m 51 j = 0 then _ else m 51 j) = (if j < n ∧ I 50 j = nI x1 ∧ I 51 j = 0 then _ else I 51 j); rw [hL.r (q := 50) (by decide), hL.r (q := 51) (by decide)]) (by decide)) (fun q hq => by repeat (first | rw [a_u_row (by omega)] | rw [a_ur_ne (by omega)])) hZ)
    · have b9 := hm.1.1.vv x1 hx1
      have q := m_X12_publishF2 (I := I) (J := J) hT hR (a := x1) hx1 b53 (by rw [e53]; have := hc.2; omega)
      subst hm2
      exact AMet.mono q (DP.f (j := 2) hk (by decide) hL hZ)
    · exact absurd hx hc
  · rcases hs with ⟨hc, hk, hv, hm2⟩ | ⟨hc, hk, hm2⟩ | ⟨hc, hk, hm2⟩
    · exact absurd hc.1 hx
    · exact absurd hc.1 hx
    · have q := m_X12_publishF1 (I := I) (J := J) hT hR x hx
      subst hm2
      exact AMet.mono q (DP.f (j := 1) hk (by decide) hL hZ)
theorem D_move {T : List aT} {I : aI} {J : aJ} {R : aR} (hT : aPT T) (hR : aPR R) {m : aI} {c n g r p k : Nat} (hm : MI m c n g r p k) (hL : LEq m I) (hZ : Zr J) (x y : Int32) {kq : Nat} {vq : Int32} {mq : aI} (hs : (fun k v m2 => ((((0 ≤ x ∧ x < nI (16 * g)) ∧ (0 ≤ y ∧ y < nI (16 * g))) ∧ canMv m x.toNatClampNeg y.toNatClampNeg) ∧ k = 0 ∧ v = m 44 35 + 1 ∧ m2 = mvB m x.toNatClampNeg y.toNatClampNeg) ∨ ((((0 ≤ x ∧ x < nI (16 * g)) ∧ (0 ≤ y ∧ y < nI (16 * g))) ∧ ¬ canMv m x.toNatClampNeg y.toNatClampNeg) ∧ k = 2 ∧ m2 = m) ∨ (¬ ((0 ≤ x ∧ x < nI (16 * g)) ∧ (0 ≤ y ∧ y < nI (16 * g))) ∧ k = 1 ∧ m2 = m)) kq vq mq) : MX12_move 0 0 [.ref 44, .int x, .int y] T I J R (DP kq vq mq T I J R) := by
  have hi := hm.cg hL
  have hg4 := hm.2.1.1.1.1
  by_cases hx : (0 ≤ x ∧ x < nI (16 * g)) ∧ (0 ≤ y ∧ y < nI (16 * g))
  · obtain ⟨x1, hx1, zz1⟩ := i_nat hx.1.1 hx.1.2 rfl (by omega)
    obtain ⟨y1, hy1, zz2⟩ := i_nat hx.2.1 hx.2.2 rfl (by omega)
    subst zz1 zz2
    simp only [nI_clamp (show x1 < 2147483648 by omega), nI_clamp (show y1 < 2147483648 by omega)] at hs
    have ec : canMv I x1 y1 ↔ canMv m x1 y1 := by unfold canMv; rw [hL.f (q := 45) (by decide), hL.r (q := 62) (by decide), hL.r (q := 69) (by decide)]
    rcases hs with ⟨hc, hk, hv, hm2⟩ | ⟨hc, hk, hm2⟩ | ⟨hc, hk, hm2⟩
    · have q := m_X12_moveT2 (I := I) (J := J) hT hR hi.2.1.1.1.2.1 hi.2.1.1.1.1 (x := x1) (y := y1) hx1 hy1 (ec.mpr hc.2) hi.2.1.1.1.2.2.2.2.2.2 (fun w => hi.2.1.1.2.1.2.1 x1 (by omega) w)
      subst hk hm2
      exact AMet.mono q (DP.i (by (repeat (first | rw [a_u_self] | rw [a_u_row (by decide)] | rw [a_ur_ne (by decide)] | rw [a_u_ne (fun z => absurd z.2 (by decide))])) <;> rfl) (fun _ => (by rw [hv, hL.f (q := 35) (by decide)])) (by unfold mvB; exact (((((((hL.s61.u (by rw [hL.r (q := 69) (by decide)])).u (by rw [hL.r (q := 71) (by decide)])).u (by rw [hL.r (q := 72) (by decide)])).ur (fun j => by show (if _ then m 70 _ else m 70 j) = (if _ then I 70 _ else I 70 j); rw [hL.r (q := 70) (by decide)]) (by decide)).ur (fun j => by show (if _ then m 73 _ else m 73 j) = (if _ then I 73 _ else I 73 j); rw [hL.r (q := 73) (by decide)]) (by decide)).u rfl).u (by rw [hL.f (q := 35) (by decide)]))) (fun q hq => by unfold mvS; repeat (first | rw [a_u_row (by omega)] | rw [a_ur_ne (by omega)])) hZ)
    · have q := m_X12_moveF2 (I := I) (J := J) hT hR hi.2.1.1.1.2.1 hi.2.1.1.1.1 (x := x1) (y := y1) hx1 hy1 (fun w => hc.2 (ec.mp w))
      subst hm2
      exact AMet.mono q (DP.f (j := 2) hk (by decide) hL hZ)
    · exact absurd hx hc
  · rcases hs with ⟨hc, hk, hv, hm2⟩ | ⟨hc, hk, hm2⟩ | ⟨hc, hk, hm2⟩
    · exact absurd hc.1 hx
    · exact absurd hc.1 hx
    · have q := m_X12_moveF1 (I := I) (J := J) hT hR hi.2.1.1.1.2.1 hi.2.1.1.1.1 x y hx
      subst hm2
      exact AMet.mono q (DP.f (j := 1) hk (by decide) hL hZ)
theorem D_take {T : List aT} {I : aI} {J : aJ} {R : aR} (hT : aPT T) (hR : aPR R) {m : aI} {c n g r p k : Nat} (hm : MI m c n g r p k) (hL : LEq m I) (hZ : Zr J) (x y : Int32) {kq : Nat} {vq : Int32} {mq : aI} (hs : (fun k v m2 => ((((0 ≤ x ∧ x < nI (16 * g)) ∧ (0 ≤ y ∧ y < nI r)) ∧ canTk m x.toNatClampNeg y.toNatClampNeg) ∧ k = 0 ∧ v = m 44 35 + 1 ∧ m2 = tkM m x.toNatClampNeg y.toNatClampNeg) ∨ ((((0 ≤ x ∧ x < nI (16 * g)) ∧ (0 ≤ y ∧ y < nI r)) ∧ ¬ canTk m x.toNatClampNeg y.toNatClampNeg) ∧ k = 2 ∧ m2 = m) ∨ (¬ ((0 ≤ x ∧ x < nI (16 * g)) ∧ (0 ≤ y ∧ y < nI r)) ∧ k = 1 ∧ m2 = m)) kq vq mq) : MX12_take 0 0 [.ref 44, .int x, .int y] T I J R (DP kq vq mq T I J R) := by
  have hi := hm.cg hL
  have hg4 := hm.2.1.1.1.1
  by_cases hx : (0 ≤ x ∧ x < nI (16 * g)) ∧ (0 ≤ y ∧ y < nI r)
  · have hr60 := hm.2.2.2.2.2.2
    obtain ⟨x1, hx1, zz1⟩ := i_nat hx.1.1 hx.1.2 rfl (by omega)
    obtain ⟨y1, hy1, zz2⟩ := i_nat hx.2.1 hx.2.2 rfl (by omega)
    subst zz1 zz2
    simp only [nI_clamp (show x1 < 2147483648 by omega), nI_clamp (show y1 < 2147483648 by omega)] at hs
    have ec : canTk I x1 y1 ↔ canTk m x1 y1 := by unfold canTk tkB; rw [hL.f (q := 45) (by decide), hL.r (q := 62) (by decide), hL.r (q := 66) (by decide), hL.r (q := 68) (by decide), hL.r (q := 69) (by decide)]
    rcases hs with ⟨hc, hk, hv, hm2⟩ | ⟨hc, hk, hm2⟩ | ⟨hc, hk, hm2⟩
    · have q := m_X12_takeT (I := I) (J := J) hT hR hi.2.1.1.1 hi.2.2.2.2.2.1 hi.2.2.2.2.2.2 (x := x1) (y := y1) hx1 hy1 (ec.mpr hc.2)
      subst hk hm2
      have ew : ∀ j, wrS m x1 y1 3 j = wrS I x1 y1 3 j := fun j => by unfold wrS; rw [hL.r (q := 67) (by decide), hL.r (q := 70) (by decide)]
      have ew2 : ∀ j, wrS m x1 y1 3 j = wrS (a_u I 44 61 0) x1 y1 3 j := fun j => by unfold wrS; rw [a_u_row (by decide), a_u_row (by decide), hL.r (q := 67) (by decide), hL.r (q := 70) (by decide)]
      have et : ∀ j, tkR m x1 y1 3 j = tkR I x1 y1 3 j := fun j => by
        show (if _ ∧ m 58 (3 * iN m 62 (x1 / 16) + _) &&& 4 ≠ 0 then 0 else wrS m x1 y1 3 j) = (if _ ∧ I 58 (3 * iN I 62 (x1 / 16) + _) &&& 4 ≠ 0 then 0 else wrS I x1 y1 3 j)
        rw [ew j, hL.r (q := 58) (by decide), hL.iNq (q := 62) (by decide)]
      exact AMet.mono q (DP.i (by unfold tkS wrT; (repeat (first | rw [a_u_self] | rw [a_u_row (by decide)] | rw [a_ur_ne (by decide)] | rw [a_u_ne (fun z => absurd z.2 (by decide))])) <;> rfl) (fun _ => (by rw [hv, hL.f (q := 35) (by decide)])) (by unfold tkM tkE tkS wrT; exact ((((((hL.s61.u rfl).u rfl).u rfl).ur ew2 (by decide)).ur et (by decide)).u (by rw [hL.f (q := 35) (by decide)]))) (fun q hq => by unfold tkS wrT; repeat (first | rw [a_u_row (by omega)] | rw [a_ur_ne (by omega)])) hZ)
    · have q := m_X12_takeF2 (I := I) (J := J) hT hR hi.2.1.1.1.2.1 hi.2.1.1.1.1 hi.2.2.2.2.2.1 hi.2.2.2.2.2.2 (x := x1) (y := y1) hx1 hy1 (fun w => hc.2 (ec.mp w))
      subst hm2
      exact AMet.mono q (DP.f (j := 2) hk (by decide) hL hZ)
    · exact absurd hx hc
  · rcases hs with ⟨hc, hk, hv, hm2⟩ | ⟨hc, hk, hm2⟩ | ⟨hc, hk, hm2⟩
    · exact absurd hc.1 hx
    · exact absurd hc.1 hx
    · have q := m_X12_takeF1 (I := I) (J := J) hT hR hi.2.1.1.1.2.1 hi.2.1.1.1.1 hi.2.2.2.2.2.1 hi.2.2.2.2.2.2 x y hx
      subst hm2
      exact AMet.mono q (DP.f (j := 1) hk (by decide) hL hZ)
