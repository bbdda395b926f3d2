/-- what a source gives is put down for an attribute that has drifted -/
def rdD (I : aI) (v : Int32) (x k : Nat) : aI :=
  if I 60 (iN I 62 (x / 16)) = 0 then I
  else if 0 ≤ v ∧ sKept I x = true then a_u (a_u I 72 x (I 72 x ||| (1 <<< ((nI k) &&& 31)))) 73 (3 * x + k) v
  else a_u (a_u I 72 x (I 72 x &&& ((1 <<< ((nI k) &&& 31)) ^^^ (-1)))) 73 (3 * x + k) (I 73 (3 * x + k))
theorem rdD_0 {I : aI} {v : Int32} {x k : Nat} (h : I 60 (iN I 62 (x / 16)) = 0) : I = rdD I v x k := (if_pos h).symm
theorem rdD_y {I : aI} {v : Int32} {x k : Nat} (h : ¬ I 60 (iN I 62 (x / 16)) = 0) (h1 : 0 ≤ v) (h2 : sKept I x = true) : a_u (a_u I 72 x (I 72 x ||| (1 <<< ((nI k) &&& 31)))) 73 (3 * x + k) v = rdD I v x k := by unfold rdD; rw [if_neg h, if_pos ⟨h1, h2⟩]
theorem rdD_n {I : aI} {v : Int32} {x k : Nat} (h : ¬ I 60 (iN I 62 (x / 16)) = 0) (h1 : v < 0 ∨ sKept I x = false) : a_u (a_u I 72 x (I 72 x &&& ((1 <<< ((nI k) &&& 31)) ^^^ (-1)))) 73 (3 * x + k) (I 73 (3 * x + k)) = rdD I v x k := by
  unfold rdD; rw [if_neg h, if_neg (fun q => by rcases h1 with h1 | h1; exact absurd q.1 (Int32.not_le.mpr h1); rw [h1] at q; cases q.2)]
set_option maxRecDepth 100000 in
theorem m_X12_drifts {T : List aT} {I : aI} {J : aJ} {R : aR} (hT : aPT T) (hR : aPR R) {n g : Nat} (hS : SW I n) (hZ : Zr J) (hg : GW I g) {x k : Nat} (hx : x < 64) (hk : k < 3) (v : Int32) : MX12_drifts 0 0 [.ref 44, .int (nI x), .int (nI k), .int v] T I J R (aRelV (fun v9 I3 J2 => ∃ I2, CmR (a_u I 70 (3 * x + k) v) I2 J J2 n g ∧ v9 = none ∧ I3 = rdD I2 (sGives I2 J2 x k) x k) T R) := by
  refine a_met (by decide +kernel) a_le (fun X hC hq => ?_)
  show AW X 0 0 0 [some (.ref 44), some (.int (nI x)), some (.int (nI k)), some (.int v), none, none] [] T I J R
  refine aw_aload_n hC dX12_drifts_0 rfl ?_
  refine aw_getR hC dX12_drifts_1 aF_X12_86 rfl (tg_44 hT) (pr_44_30 hR) ?_
  refine aw_iconst (v := 3) hC dX12_drifts_4 (by decide) ?_
  refine aw_iload_n hC dX12_drifts_5 rfl ?_
  refine aw_imul hC dX12_drifts_6 ?_
  rw [show 3 * (nI x) = nI (3 * x) from pk_mul 3 x]
  refine aw_iload_n hC dX12_drifts_7 rfl ?_
  refine aw_iadd hC dX12_drifts_8 ?_
  rw [show (nI (3 * x)) + (nI k) = nI ((3 * x) + k) from nI_add (3 * x) k]
  refine aw_iload_n hC dX12_drifts_9 rfl ?_
  refine aw_iastore_k (j := ((3 * x) + k)) hC dX12_drifts_10 (tg_70 hT) (nI_clamp (by omega)) (vp_in_nI (by omega) (by decide)) ?_
  obtain ⟨I7, hI7⟩ : ∃ I7, I7 = a_u I 70 ((3 * x) + k) v := ⟨_, rfl⟩
  rw [← hI7]
  have hf7 : ∀ o, o ≠ 70 → I7 o = I o := fun o ho => by rw [hI7, a_u_row ho]
  have hS7 : SW I7 n := SW_cg (by rw [hf7 44 (by decide)]) (hf7 45 (by decide)) (hf7 46 (by decide)) (hf7 47 (by decide)) (hf7 48 (by decide)) (hf7 49 (by decide)) (hf7 50 (by decide)) (hf7 51 (by decide)) (hf7 53 (by decide)) hS
  have hg7 : GW I7 g := GW_cg (by rw [hf7 44 (by decide)]) (hf7 65 (by decide)) (hf7 62 (by decide)) (hf7 61 (by decide)) (hf7 63 (by decide)) (hf7 71 (by decide)) hg
  refine aw_aload_n hC dX12_drifts_11 rfl ?_
  refine kX12_364 hC rfl (m_X12_comparesAll (I := I7) (J := J) (n := n) (g := g) hT hR hS7 hZ hg7) dX12_drifts_12 (tg_44 hT) rfl a_le a_le a_le a_le a_le rfl aRel_x (aRel_k (fun I2 J2 hQ => ?_))
  have hCm : CmR _ _ _ _ n g := hQ
  have hg2 := hCm.gw hg7
  show AW X 0 0 15 [some (.ref 44), some (.int (nI x)), some (.int (nI k)), some (.int v), none, none] [] T I2 J2 R
  refine aw_aload_n hC dX12_drifts_15 rfl ?_
  refine aw_iload_n hC dX12_drifts_16 rfl ?_
  refine aw_iload_n hC dX12_drifts_17 rfl ?_
  refine kX12_346 hC rfl (m_X12_gives (I := I2) (J := J2) hT hR (x := x) (a := k) (by omega) (by omega) hg2.so.s2 hg2.ty hg2.up) dX12_drifts_18 (tg_44 hT) rfl a_le a_le a_le a_le a_le rfl aPure_x (aPure_k ?_)
  show AW X 0 0 21 [some (.ref 44), some (.int (nI x)), some (.int (nI k)), some (.int v), none, none] [.int (sGives I2 J2 x k)] T I2 J2 R
  refine aw_istore (L2 := [some (.ref 44), some (.int (nI x)), some (.int (nI k)), some (.int v), some (.int (sGives I2 J2 x k)), none]) hC dX12_drifts_21 (by decide) rfl ?_
  refine aw_aload_n hC dX12_drifts_23 rfl ?_
  refine aw_getR hC dX12_drifts_24 aF_X12_56 rfl (tg_44 hT) (pr_44_18 hR) ?_
  refine aw_aload_n hC dX12_drifts_27 rfl ?_
  refine aw_getR hC dX12_drifts_28 aF_X12_62 rfl (tg_44 hT) (pr_44_21 hR) ?_
  refine aw_iload_n hC dX12_drifts_31 rfl ?_
  refine aw_bipush (v := 16) hC dX12_drifts_32 (by decide) ?_
  refine aw_idiv hC dX12_drifts_34 (by decide) ?_
  rw [show (nI x) / 16 = nI (x / 16) from pk_div (a := x) (d := 16) (by omega) (by decide) (by decide)]
  refine aw_iaload_k (j := (x / 16)) hC dX12_drifts_35 (tg_62 hT) (nI_clamp (by omega)) (vp_in_nI (by omega) (by decide)) ?_
  have hb1 := hg2.ty (x / 16) (by omega)
  rw [hb1.1]
  refine aw_baload_k (j := (iN I2 62 (x / 16))) hC dX12_drifts_36 (tg_60 hT) (nI_clamp (by omega)) (vp_in_nI (by omega) (by decide)) ?_
  refine aw_if_eq (tgt := 126) hC dX12_drifts_37 (by decide) (fun h2 => ?_) (fun h2 => ?_)
  · show AW X 0 0 126 [some (.ref 44), some (.int (nI x)), some (.int (nI k)), some (.int v), some (.int (sGives I2 J2 x k)), none] [] T I2 J2 R
    exact aw_return hC hq rfl dX12_drifts_126 a_le a_le (by first | exact ⟨_, rfl, rfl, rfl, I2, by rw [← hI7]; exact hCm, rfl, rdD_0 (by assumption)⟩ | (exfalso; contradiction))
  · show AW X 0 0 40 [some (.ref 44), some (.int (nI x)), some (.int (nI k)), some (.int v), some (.int (sGives I2 J2 x k)), none] [] T I2 J2 R
    refine aw_iload hC dX12_drifts_40 rfl ?_
    refine aw_if_lt (tgt := 57) hC dX12_drifts_42 (by decide) (fun h3 => ?_) (fun h3 => ?_)
    · show AW X 0 0 57 [some (.ref 44), some (.int (nI x)), some (.int (nI k)), some (.int v), some (.int (sGives I2 J2 x k)), none] [] T I2 J2 R
      refine aw_iconst (v := 0) hC dX12_drifts_57 (by decide) ?_
      refine aw_istore (L2 := [some (.ref 44), some (.int (nI x)), some (.int (nI k)), some (.int v), some (.int (sGives I2 J2 x k)), some (.int 0)]) hC dX12_drifts_58 (by decide) rfl ?_
      refine aw_aload_n hC dX12_drifts_60 rfl ?_
      refine aw_getR hC dX12_drifts_61 aF_X12_92 rfl (tg_44 hT) (pr_44_32 hR) ?_
      refine aw_iload_n hC dX12_drifts_64 rfl ?_
      refine aw_iload hC dX12_drifts_65 rfl ?_
      refine aw_if_eq (tgt := 83) hC dX12_drifts_67 (by decide) (fun _ => ?_) (fun h4 => absurd h4 (by decide))
      show AW X 0 0 83 [some (.ref 44), some (.int (nI x)), some (.int (nI k)), some (.int v), some (.int (sGives I2 J2 x k)), some (.int 0)] [.int (nI x), .ref 72] T I2 J2 R
      refine aw_aload_n hC dX12_drifts_83 rfl ?_
      refine aw_getR hC dX12_drifts_84 aF_X12_92 rfl (tg_44 hT) (pr_44_32 hR) ?_
      refine aw_iload_n hC dX12_drifts_87 rfl ?_
      refine aw_iaload_k (j := x) hC dX12_drifts_88 (tg_72 hT) (nI_clamp (by omega)) (vp_in_nI (by omega) (by decide)) ?_
      refine aw_iconst (v := 1) hC dX12_drifts_89 (by decide) ?_
      refine aw_iload_n hC dX12_drifts_90 rfl ?_
      refine aw_ishl hC dX12_drifts_91 ?_
      refine aw_iconst (v := (-1)) hC dX12_drifts_92 (by decide) ?_
      refine aw_ixor hC dX12_drifts_93 ?_
      refine aw_iand hC dX12_drifts_94 ?_
      refine aw_iastore_k (j := x) hC dX12_drifts_95 (tg_72 hT) (nI_clamp (by omega)) (vp_in_nI (by omega) (by decide)) ?_
      refine aw_aload_n hC dX12_drifts_96 rfl ?_
      refine aw_getR hC dX12_drifts_97 aF_X12_95 rfl (tg_44 hT) (pr_44_33 hR) ?_
      refine aw_iconst (v := 3) hC dX12_drifts_100 (by decide) ?_
      refine aw_iload_n hC dX12_drifts_101 rfl ?_
      refine aw_imul hC dX12_drifts_102 ?_
      rw [show 3 * (nI x) = nI (3 * x) from pk_mul 3 x]
      refine aw_iload_n hC dX12_drifts_103 rfl ?_
      refine aw_iadd hC dX12_drifts_104 ?_
      rw [show (nI (3 * x)) + (nI k) = nI ((3 * x) + k) from nI_add (3 * x) k]
      refine aw_iload hC dX12_drifts_105 rfl ?_
      refine aw_if_eq (tgt := 115) hC dX12_drifts_107 (by decide) (fun _ => ?_) (fun h5 => absurd h5 (by decide))
      show AW X 0 0 115 [some (.ref 44), some (.int (nI x)), some (.int (nI k)), some (.int v), some (.int (sGives I2 J2 x k)), some (.int 0)] [.int (nI ((3 * x) + k)), .ref 73] T (a_u I2 72 x ((I2 72 x) &&& ((1 <<< ((nI k) &&& 31)) ^^^ (-1)))) J2 R
      refine aw_aload_n hC dX12_drifts_115 rfl ?_
      refine aw_getR hC dX12_drifts_116 aF_X12_95 rfl (tg_44 hT) (pr_44_33 hR) ?_
      refine aw_iconst (v := 3) hC dX12_drifts_119 (by decide) ?_
      refine aw_iload_n hC dX12_drifts_120 rfl ?_
      refine aw_imul hC dX12_drifts_121 ?_
      rw [show 3 * (nI x) = nI (3 * x) from pk_mul 3 x]
      refine aw_iload_n hC dX12_drifts_122 rfl ?_
      refine aw_iadd hC dX12_drifts_123 ?_
      rw [show (nI (3 * x)) + (nI k) = nI ((3 * x) + k) from nI_add (3 * x) k]
      refine aw_iaload_k (j := ((3 * x) + k)) hC dX12_drifts_124 (tg_73 hT) (nI_clamp (by omega)) (vp_in_nI (by omega) (by decide)) ?_
      rw [a_u_ne (f := I2) (o := 72) (k := x) (a := 73) (b := ((3 * x) + k)) (v := (I2 72 x) &&& ((1 <<< ((nI k) &&& 31)) ^^^ (-1))) (fun q => absurd q.1 (by decide))]
      refine aw_iastore_k (j := ((3 * x) + k)) hC dX12_drifts_125 (tg_73 hT) (nI_clamp (by omega)) (vp_in_nI (by omega) (by decide)) ?_
      exact aw_return hC hq rfl dX12_drifts_126 a_le a_le (by first | exact ⟨_, rfl, rfl, rfl, I2, by rw [← hI7]; exact hCm, rfl, rdD_n (by assumption) (by first | exact Or.inl (by assumption) | exact Or.inr (bI_e0.mp (by assumption)))⟩ | (exfalso; contradiction))
    · show AW X 0 0 45 [some (.ref 44), some (.int (nI x)), some (.int (nI k)), some (.int v), some (.int (sGives I2 J2 x k)), none] [] T I2 J2 R
      refine aw_aload_n hC dX12_drifts_45 rfl ?_
      refine aw_iload_n hC dX12_drifts_46 rfl ?_
      refine kX12_349 hC rfl (m_X12_isKept (I := I2) (J := J2) hT hR hg2.ks (m := x) (by omega)) dX12_drifts_47 (tg_44 hT) rfl a_le a_le a_le a_le a_le rfl aPure_x (aPure_k ?_)
      show AW X 0 0 50 [some (.ref 44), some (.int (nI x)), some (.int (nI k)), some (.int v), some (.int (sGives I2 J2 x k)), none] [.int (bI (sKept I2 x))] T I2 J2 R
      refine aw_if_eq (tgt := 57) hC dX12_drifts_50 (by decide) (fun h6 => ?_) (fun h6 => ?_)
      · show AW X 0 0 57 [some (.ref 44), some (.int (nI x)), some (.int (nI k)), some (.int v), some (.int (sGives I2 J2 x k)), none] [] T I2 J2 R
        refine aw_iconst (v := 0) hC dX12_drifts_57 (by decide) ?_
        refine aw_istore (L2 := [some (.ref 44), some (.int (nI x)), some (.int (nI k)), some (.int v), some (.int (sGives I2 J2 x k)), some (.int 0)]) hC dX12_drifts_58 (by decide) rfl ?_
        refine aw_aload_n hC dX12_drifts_60 rfl ?_
        refine aw_getR hC dX12_drifts_61 aF_X12_92 rfl (tg_44 hT) (pr_44_32 hR) ?_
        refine aw_iload_n hC dX12_drifts_64 rfl ?_
        refine aw_iload hC dX12_drifts_65 rfl ?_
        refine aw_if_eq (tgt := 83) hC dX12_drifts_67 (by decide) (fun _ => ?_) (fun h7 => absurd h7 (by decide))
        show AW X 0 0 83 [some (.ref 44), some (.int (nI x)), some (.int (nI k)), some (.int v), some (.int (sGives I2 J2 x k)), some (.int 0)] [.int (nI x), .ref 72] T I2 J2 R
        refine aw_aload_n hC dX12_drifts_83 rfl ?_
        refine aw_getR hC dX12_drifts_84 aF_X12_92 rfl (tg_44 hT) (pr_44_32 hR) ?_
        refine aw_iload_n hC dX12_drifts_87 rfl ?_
        refine aw_iaload_k (j := x) hC dX12_drifts_88 (tg_72 hT) (nI_clamp (by omega)) (vp_in_nI (by omega) (by decide)) ?_
        refine aw_iconst (v := 1) hC dX12_drifts_89 (by decide) ?_
        refine aw_iload_n hC dX12_drifts_90 rfl ?_
        refine aw_ishl hC dX12_drifts_91 ?_
        refine aw_iconst (v := (-1)) hC dX12_drifts_92 (by decide) ?_
        refine aw_ixor hC dX12_drifts_93 ?_
        refine aw_iand hC dX12_drifts_94 ?_
        refine aw_iastore_k (j := x) hC dX12_drifts_95 (tg_72 hT) (nI_clamp (by omega)) (vp_in_nI (by omega) (by decide)) ?_
        refine aw_aload_n hC dX12_drifts_96 rfl ?_
        refine aw_getR hC dX12_drifts_97 aF_X12_95 rfl (tg_44 hT) (pr_44_33 hR) ?_
        refine aw_iconst (v := 3) hC dX12_drifts_100 (by decide) ?_
        refine aw_iload_n hC dX12_drifts_101 rfl ?_
        refine aw_imul hC dX12_drifts_102 ?_
        rw [show 3 * (nI x) = nI (3 * x) from pk_mul 3 x]
        refine aw_iload_n hC dX12_drifts_103 rfl ?_
        refine aw_iadd hC dX12_drifts_104 ?_
        rw [show (nI (3 * x)) + (nI k) = nI ((3 * x) + k) from nI_add (3 * x) k]
        refine aw_iload hC dX12_drifts_105 rfl ?_
        refine aw_if_eq (tgt := 115) hC dX12_drifts_107 (by decide) (fun _ => ?_) (fun h8 => absurd h8 (by decide))
        show AW X 0 0 115 [some (.ref 44), some (.int (nI x)), some (.int (nI k)), some (.int v), some (.int (sGives I2 J2 x k)), some (.int 0)] [.int (nI ((3 * x) + k)), .ref 73] T (a_u I2 72 x ((I2 72 x) &&& ((1 <<< ((nI k) &&& 31)) ^^^ (-1)))) J2 R
        refine aw_aload_n hC dX12_drifts_115 rfl ?_
        refine aw_getR hC dX12_drifts_116 aF_X12_95 rfl (tg_44 hT) (pr_44_33 hR) ?_
        refine aw_iconst (v := 3) hC dX12_drifts_119 (by decide) ?_
        refine aw_iload_n hC dX12_drifts_120 rfl ?_
        refine aw_imul hC dX12_drifts_121 ?_
        rw [show 3 * (nI x) = nI (3 * x) from pk_mul 3 x]
        refine aw_iload_n hC dX12_drifts_122 rfl ?_
        refine aw_iadd hC dX12_drifts_123 ?_
        rw [show (nI (3 * x)) + (nI k) = nI ((3 * x) + k) from nI_add (3 * x) k]
        refine aw_iaload_k (j := ((3 * x) + k)) hC dX12_drifts_124 (tg_73 hT) (nI_clamp (by omega)) (vp_in_nI (by omega) (by decide)) ?_
        rw [a_u_ne (f := I2) (o := 72) (k := x) (a := 73) (b := ((3 * x) + k)) (v := (I2 72 x) &&& ((1 <<< ((nI k) &&& 31)) ^^^ (-1))) (fun q => absurd q.1 (by decide))]
        refine aw_iastore_k (j := ((3 * x) + k)) hC dX12_drifts_125 (tg_73 hT) (nI_clamp (by omega)) (vp_in_nI (by omega) (by decide)) ?_
        exact aw_return hC hq rfl dX12_drifts_126 a_le a_le (by first | exact ⟨_, rfl, rfl, rfl, I2, by rw [← hI7]; exact hCm, rfl, rdD_n (by assumption) (by first | exact Or.inl (by assumption) | exact Or.inr (bI_e0.mp (by assumption)))⟩ | (exfalso; contradiction))
      · show AW X 0 0 53 [some (.ref 44), some (.int (nI x)), some (.int (nI k)), some (.int v), some (.int (sGives I2 J2 x k)), none] [] T I2 J2 R
        refine aw_iconst (v := 1) hC dX12_drifts_53 (by decide) ?_
        refine aw_goto (tgt := 58) hC dX12_drifts_54 (by decide) ?_
        refine aw_istore (L2 := [some (.ref 44), some (.int (nI x)), some (.int (nI k)), some (.int v), some (.int (sGives I2 J2 x k)), some (.int 1)]) hC dX12_drifts_58 (by decide) rfl ?_
        refine aw_aload_n hC dX12_drifts_60 rfl ?_
        refine aw_getR hC dX12_drifts_61 aF_X12_92 rfl (tg_44 hT) (pr_44_32 hR) ?_
        refine aw_iload_n hC dX12_drifts_64 rfl ?_
        refine aw_iload hC dX12_drifts_65 rfl ?_
        refine aw_if_eq (tgt := 83) hC dX12_drifts_67 (by decide) (fun h9 => absurd h9 (by decide)) (fun _ => ?_)
        show AW X 0 0 70 [some (.ref 44), some (.int (nI x)), some (.int (nI k)), some (.int v), some (.int (sGives I2 J2 x k)), some (.int 1)] [.int (nI x), .ref 72] T I2 J2 R
        refine aw_aload_n hC dX12_drifts_70 rfl ?_
        refine aw_getR hC dX12_drifts_71 aF_X12_92 rfl (tg_44 hT) (pr_44_32 hR) ?_
        refine aw_iload_n hC dX12_drifts_74 rfl ?_
        refine aw_iaload_k (j := x) hC dX12_drifts_75 (tg_72 hT) (nI_clamp (by omega)) (vp_in_nI (by omega) (by decide)) ?_
        refine aw_iconst (v := 1) hC dX12_drifts_76 (by decide) ?_
        refine aw_iload_n hC dX12_drifts_77 rfl ?_
        refine aw_ishl hC dX12_drifts_78 ?_
        refine aw_ior hC dX12_drifts_79 ?_
        refine aw_goto (tgt := 95) hC dX12_drifts_80 (by decide) ?_
        refine aw_iastore_k (j := x) hC dX12_drifts_95 (tg_72 hT) (nI_clamp (by omega)) (vp_in_nI (by omega) (by decide)) ?_
        refine aw_aload_n hC dX12_drifts_96 rfl ?_
        refine aw_getR hC dX12_drifts_97 aF_X12_95 rfl (tg_44 hT) (pr_44_33 hR) ?_
        refine aw_iconst (v := 3) hC dX12_drifts_100 (by decide) ?_
        refine aw_iload_n hC dX12_drifts_101 rfl ?_
        refine aw_imul hC dX12_drifts_102 ?_
        rw [show 3 * (nI x) = nI (3 * x) from pk_mul 3 x]
        refine aw_iload_n hC dX12_drifts_103 rfl ?_
        refine aw_iadd hC dX12_drifts_104 ?_
        rw [show (nI (3 * x)) + (nI k) = nI ((3 * x) + k) from nI_add (3 * x) k]
        refine aw_iload hC dX12_drifts_105 rfl ?_
        refine aw_if_eq (tgt := 115) hC dX12_drifts_107 (by decide) (fun h10 => absurd h10 (by decide)) (fun _ => ?_)
        show AW X 0 0 110 [some (.ref 44), some (.int (nI x)), some (.int (nI k)), some (.int v), some (.int (sGives I2 J2 x k)), some (.int 1)] [.int (nI ((3 * x) + k)), .ref 73] T (a_u I2 72 x ((I2 72 x) ||| (1 <<< ((nI k) &&& 31)))) J2 R
        refine aw_iload hC dX12_drifts_110 rfl ?_
        refine aw_goto (tgt := 125) hC dX12_drifts_112 (by decide) ?_
        refine aw_iastore_k (j := ((3 * x) + k)) hC dX12_drifts_125 (tg_73 hT) (nI_clamp (by omega)) (vp_in_nI (by omega) (by decide)) ?_
        exact aw_return hC hq rfl dX12_drifts_126 a_le a_le (by first | exact ⟨_, rfl, rfl, rfl, I2, by rw [← hI7]; exact hCm, rfl, rdD_y (by assumption) (Int32.not_lt.mp (by assumption)) (bI_n0.mp (by assumption))⟩ | (exfalso; contradiction))
/-- the comparisons of a store, name by name -/
noncomputable def cFr (I : aI) (J : aJ) : Nat → Nat → Int32
  | 0 => fun _ => 0
  | k + 1 => fun j => if j = k then sCmp (a_ur I 91 (cFr I J k)) J k else cFr I J k j
theorem cFr_ok {I : aI} {J : aJ} {g : Nat} (hg : g ≤ 4) (hso : SO3 I) : ∀ k, k ≤ 16 * g → ∀ x, x < k → cFr I J k x = sCmp (a_ur I 91 (cFr I J k)) J x
  | 0, _ => fun x hx => absurd hx (by omega)
  | k + 1, hk => cmp_put hg (by omega) hso (cFr_ok hg hso k (by omega))
theorem cmp_uniq {I I2 : aI} {J J2 : aJ} {g : Nat} (hg : g ≤ 4) (hso : SO3 I) (h57 : I2 44 57 = I 44 57) (hJ : J2 88 = J 88) (h : ∀ o, o ≠ 44 → o ≠ 91 → o ≠ 92 → (83 ≤ o ∧ o ≤ 87) ∨ o = 93 ∨ I2 o = I o) (hc : CmpOK I J g) (hc2 : CmpOK I2 J2 g) : ∀ x, x < 16 * g → I2 91 x = I 91 x := by
  intro x
  induction x using Nat.strongRecOn with
  | _ x ih =>
    intro hx
    rw [hc x hx, hc2 x hx]
    have r : ∀ o, o ≠ 44 → o ≠ 91 → o ≠ 92 → ¬ (83 ≤ o ∧ o ≤ 87) → o ≠ 93 → I2 o = I o := fun o h1 h2 h3 h4 h5 => by
      rcases h o h1 h2 h3 with q | q | q
      · exact absurd q h4
      · exact absurd q h5
      · exact q
    have s : ∀ o, (57 < o ∧ o < 80) → I2 o = I o := fun o ho => r o (by omega) (by omega) (by omega) (by omega) (by omega)
    have g1 : ∀ a, a < 3 → sDf I2 J2 x a = sDf I J x a := fun a ha => sDiff_cg (sGives_cg hso (by omega) ha h57 hJ (s 58 (by decide)) (s 61 (by decide)) (s 62 (by decide)) (s 65 (by decide)) (s 69 (by decide)) (s 70 (by decide)) (fun y hy => ih y (by omega) (by omega))) (s 58 (by decide)) (s 62 (by decide)) (s 70 (by decide)) (s 72 (by decide)) (s 73 (by decide))
    have gF : anyB (fF I2 J2 x) 3 = anyB (fF I J x) 3 := anyB_cg (fun j hj => by simp only [fF]; rw [g1 j hj, s 58 (by decide)]; unfold iN; rw [s 62 (by decide)])
    have gD : anyB (fD I2 J2 x) 3 = anyB (fD I J x) 3 := anyB_cg (fun j hj => g1 j hj)
    have gK : sKept I2 x = sKept I x := by simp only [sKept]; unfold iN; rw [s 64 (by decide), s 63 (by decide)]
    rw [sCmp, sCmp, gF, gD, gK, s 69 (by decide), s 71 (by decide)]
/-- what the source of an attribute gives, by lasting rows and what the statements say -/
noncomputable def gvV (I : aI) (c : Int32) (mj : aJ) (g x a : Nat) : Int32 := sGives (a_ur (a_u I 44 57 c) 91 (cFr (a_u I 44 57 c) mj (16 * g))) mj x a
theorem SO3_cg {I I2 : aI} (h : I2 65 = I 65) (g : SO3 I) : SO3 I2 := by unfold SO3 iN at *; rw [h]; exact g
theorem gv_eq {A I : aI} {J mj : aJ} {c : Int32} {g x a : Nat} (hb : BaseF A I) (hg : GW I g) (hx : x < 16 * g) (ha : a < 3) (hc : CmpOK I J g) (h57 : I 44 57 = c) (hJ : J 88 = mj 88) : sGives I J x a = gvV A c mj g x a := by
  have hg4 := hg.g4
  have e65 : I 65 = A 65 := hb.1 65 (by decide)
  have hsoA : SO3 (a_u A 44 57 c) := SO3_cg (by rw [a_u_row (by decide), e65]) hg.so
  obtain ⟨B, hB⟩ : ∃ B, B = a_ur (a_u A 44 57 c) 91 (cFr (a_u A 44 57 c) mj (16 * g)) := ⟨_, rfl⟩
  have hcB : CmpOK B mj g := by
    intro x hx; rw [hB, a_ur_self]; exact cFr_ok hg4 hsoA (16 * g) (Nat.le_refl _) x hx
  have hBo : ∀ o, o ≠ 44 → o ≠ 91 → B o = A o := fun o h1 h2 => by rw [hB, a_ur_ne h2, a_u_row h1]
  have hB57 : B 44 57 = c := by rw [hB, a_ur_ne (by decide), a_u_self]
  have hsoB : SO3 B := SO3_cg (by rw [hBo 65 (by decide) (by decide), e65]) hg.so
  have u := cmp_uniq (I := B) (I2 := I) (J := mj) (J2 := J) hg4 hsoB (by rw [h57, hB57]) hJ (fun o h1 h2 h3 => by
    by_cases q1 : 83 ≤ o ∧ o ≤ 87
    · exact Or.inl q1
    · by_cases q2 : o = 93
      · exact Or.inr (Or.inl q2)
      · exact Or.inr (Or.inr (by rw [hBo o h1 h2]; exact hb.1 o ⟨h1, by omega, by omega, by omega, by omega, by omega, h2, h3, q2⟩))) hcB hc
  unfold gvV; rw [← hB]
  have s : ∀ o, (57 < o ∧ o < 80) → I o = B o := fun o ho => by rw [hBo o (by omega) (by omega)]; exact hb.1 o ⟨by omega, by omega, by omega, by omega, by omega, by omega, by omega, by omega, by omega⟩
  exact sGives_cg hsoB (by omega) ha (by rw [h57, hB57]) hJ (s 58 (by decide)) (s 61 (by decide)) (s 62 (by decide)) (s 65 (by decide)) (s 69 (by decide)) (s 70 (by decide)) (fun y hy => u y (by omega))
noncomputable def rdK (I : aI) (c : Int32) (mj : aJ) (g x k : Nat) : aI := rdD (a_u I 70 (3 * x + k) (I 67 (3 * (iN I 69 x - 1) + k))) (gvV (a_u I 70 (3 * x + k) (I 67 (3 * (iN I 69 x - 1) + k))) c mj g x k) x k
abbrev rdC (I : aI) (x k : Nat) : Prop := I 58 (3 * iN I 62 (x / 16) + k) &&& 4 = 0 ∧ I 67 (3 * (iN I 69 x - 1) + k) ≠ I 70 (3 * x + k)
noncomputable def rdA (I : aI) (c : Int32) (mj : aJ) (g x : Nat) : Nat → aI × Nat
  | 0 => (I, 0)
  | k + 1 => if rdC (rdA I c mj g x k).1 x k then (rdK (rdA I c mj g x k).1 c mj g x k, (rdA I c mj g x k).2 + 1) else rdA I c mj g x k
noncomputable def rdX (I : aI) (c : Int32) (mj : aJ) (g x : Nat) : aI × Nat × Nat :=
  if 0 < iN I 69 x then (if I 68 (iN I 69 x - 1) ≠ 0 then (a_u I 69 x 0, 1, 0) else ((rdA I c mj g x 3).1, 0, (rdA I c mj g x 3).2)) else (I, 0, 0)
noncomputable def rdN (I : aI) (c : Int32) (mj : aJ) (g : Nat) : Nat → aI × Nat × Nat
  | 0 => (I, 0, 0)
  | k + 1 => ((rdX (rdN I c mj g k).1 c mj g k).1, (rdN I c mj g k).2.1 + (rdX (rdN I c mj g k).1 c mj g k).2.1, (rdN I c mj g k).2.2 + (rdX (rdN I c mj g k).1 c mj g k).2.2)
theorem rdD_fr {I : aI} {v : Int32} {x k o : Nat} (h : o ≠ 72 ∧ o ≠ 73) : rdD I v x k o = I o := by
  unfold rdD; split
  · rfl
  · split <;> rw [a_u_row h.2, a_u_row h.1]
theorem rdK_fr {I : aI} {c : Int32} {mj : aJ} {g x k o : Nat} (h : o ≠ 70 ∧ o ≠ 72 ∧ o ≠ 73) : rdK I c mj g x k o = I o := by unfold rdK; rw [rdD_fr h.2, a_u_row h.1]
theorem rdA_fr {I : aI} {c : Int32} {mj : aJ} {g x o : Nat} (h : o ≠ 70 ∧ o ≠ 72 ∧ o ≠ 73) : ∀ k, (rdA I c mj g x k).1 o = I o
  | 0 => rfl
  | k + 1 => by
    simp only [rdA]; split
    · exact (rdK_fr h).trans (rdA_fr h k)
    · exact rdA_fr h k
theorem rdX_fr {I : aI} {c : Int32} {mj : aJ} {g x o : Nat} (h : o ≠ 69 ∧ o ≠ 70 ∧ o ≠ 72 ∧ o ≠ 73) : (rdX I c mj g x).1 o = I o := by
  unfold rdX; split
  · split
    · exact a_u_row h.1
    · exact rdA_fr h.2 3
  · rfl
theorem rdN_fr {I : aI} {c : Int32} {mj : aJ} {g o : Nat} (h : o ≠ 69 ∧ o ≠ 70 ∧ o ≠ 72 ∧ o ≠ 73) : ∀ k, (rdN I c mj g k).1 o = I o
  | 0 => rfl
  | k + 1 => (rdX_fr h).trans (rdN_fr h k)
theorem rdX_E {I : aI} {c : Int32} {mj : aJ} {g x : Nat} (h : NR I 69 64 61) : NR (rdX I c mj g x).1 69 64 61 := by
  unfold rdX; split
  · split
    · exact h.put (m := 0) (by omega) (by omega)
    · exact NR_cg (rdA_fr (by decide) 3) h
  · exact h
theorem rdN_E {I : aI} {c : Int32} {mj : aJ} {g : Nat} (h : NR I 69 64 61) : ∀ k, NR (rdN I c mj g k).1 69 64 61
  | 0 => h
  | k + 1 => rdX_E (rdN_E h k)
theorem rdA_c (I : aI) (c : Int32) (mj : aJ) (g x : Nat) : ∀ k, (rdA I c mj g x k).2 ≤ k
  | 0 => Nat.le_refl _
  | k + 1 => by have := rdA_c I c mj g x k; simp only [rdA]; split <;> omega
theorem rdX_c (I : aI) (c : Int32) (mj : aJ) (g x : Nat) : (rdX I c mj g x).2.1 ≤ 1 ∧ (rdX I c mj g x).2.2 ≤ 3 := by
  unfold rdX; split
  · split
    · exact ⟨Nat.le_refl _, by simp⟩
    · exact ⟨by simp, rdA_c _ _ _ _ _ 3⟩
  · exact ⟨by simp, by simp⟩
theorem rdN_c (I : aI) (c : Int32) (mj : aJ) (g : Nat) : ∀ k, (rdN I c mj g k).2.1 ≤ k ∧ (rdN I c mj g k).2.2 ≤ 3 * k
  | 0 => ⟨Nat.le_refl _, Nat.le_refl _⟩
  | k + 1 => by have := rdN_c I c mj g k; have := rdX_c (rdN I c mj g k).1 c mj g k; simp only [rdN]; omega
theorem rdD_bf {A B : aI} {v : Int32} {x k : Nat} (h : BaseF A B) : BaseF (rdD A v x k) (rdD B v x k) := by
  have e : ∀ o, (45 ≤ o ∧ o < 83) → B o = A o := fun o ho => h.1 o ⟨by omega, by omega, by omega, by omega, by omega, by omega, by omega, by omega, by omega⟩
  have eK : sKept B x = sKept A x := by simp only [sKept]; unfold iN; rw [e 64 (by decide), e 63 (by decide)]
  have eN : iN B 62 (x / 16) = iN A 62 (x / 16) := by unfold iN; rw [e 62 (by decide)]
  refine ⟨fun o ho => ?_, fun q hq => by rw [rdD_fr (by decide), rdD_fr (by decide)]; exact h.2 q hq⟩
  unfold rdD
  rw [e 60 (by decide), eN, eK, e 72 (by decide), e 73 (by decide)]
  split
  · exact h.1 o ho
  · split
    · by_cases c3 : o = 73
      · subst c3; funext j; by_cases cj : j = 3 * x + k
        · subst cj; rw [a_u_self, a_u_self]
        · rw [a_u_ne (fun q => cj q.2), a_u_ne (fun q => cj q.2), a_u_row (by decide), a_u_row (by decide), e 73 (by decide)]
      · rw [a_u_row c3, a_u_row c3]
        by_cases c2 : o = 72
        · subst c2; funext j; by_cases cj : j = x
          · subst cj; rw [a_u_self, a_u_self]
          · rw [a_u_ne (fun q => cj q.2), a_u_ne (fun q => cj q.2), e 72 (by decide)]
        · rw [a_u_row c2, a_u_row c2]; exact h.1 o ho
    · by_cases c3 : o = 73
      · subst c3; funext j; by_cases cj : j = 3 * x + k
        · subst cj; rw [a_u_self, a_u_self]
        · rw [a_u_ne (fun q => cj q.2), a_u_ne (fun q => cj q.2), a_u_row (by decide), a_u_row (by decide), e 73 (by decide)]
      · rw [a_u_row c3, a_u_row c3]
        by_cases c2 : o = 72
        · subst c2; funext j; by_cases cj : j = x
          · subst cj; rw [a_u_self, a_u_self]
          · rw [a_u_ne (fun q => cj q.2), a_u_ne (fun q => cj q.2), e 72 (by decide)]
        · rw [a_u_row c2, a_u_row c2]; exact h.1 o ho
theorem a_u_bf {A B : aI} {o k : Nat} {v : Int32} (h : BaseF A B) : BaseF (a_u A o k v) (a_u B o k v) := by
  refine ⟨fun q hq => ?_, fun q hq => ?_⟩
  · funext j
    by_cases c : q = o ∧ j = k
    · obtain ⟨rfl, rfl⟩ := c; rw [a_u_self, a_u_self]
    · rw [a_u_ne c, a_u_ne c, h.1 q hq]
  · by_cases c : 44 = o ∧ q = k
    · obtain ⟨rfl, rfl⟩ := c; rw [a_u_self, a_u_self]
    · rw [a_u_ne c, a_u_ne c]; exact h.2 q hq
/-- the statements' rows are the same -/
abbrev StEq (I I0 : aI) : Prop := (∀ o, 45 ≤ o ∧ o ≤ 56 → I0 o = I o) ∧ I0 44 0 = I 44 0 ∧ I0 44 13 = I 44 13
abbrev SolD (I : aI) (n : Nat) (c : Int32) (mj : aJ) : Prop := ∀ (I0 I1 : aI) (J0 J1 : aJ), StEq I I0 → SolP I0 I1 J0 J1 n → I1 44 57 = c ∧ J1 88 = mj 88
theorem rd_step {A I2 I3 I : aI} {J2 J3 mj : aJ} {c : Int32} {n g x q r : Nat} (hb : BaseF A I2) (hg : GW I2 g) (hx : x < 16 * g) (hq : q < 3) (he : iN A 69 x = r + 1) (hsol : SolD I n c mj) (hst : StEq I A) (hC : CmR (a_u I2 70 (3 * x + q) (I2 67 (3 * r + q))) I3 J2 J3 n g) : BaseF (rdK A c mj g x q) (rdD I3 (sGives I3 J3 x q) x q) := by
  have e67 : I2 67 = A 67 := hb.1 67 (by decide)
  have hb2 : BaseF (a_u A 70 (3 * x + q) (A 67 (3 * r + q))) (a_u I2 70 (3 * x + q) (I2 67 (3 * r + q))) := by rw [e67]; exact a_u_bf hb
  have hb3 := hb2.trans hC.bf
  have hg2 : GW (a_u I2 70 (3 * x + q) (I2 67 (3 * r + q))) g := GW_cg (by rw [a_u_row (by decide)]) (a_u_row (by decide)) (a_u_row (by decide)) (a_u_row (by decide)) (a_u_row (by decide)) (a_u_row (by decide)) hg
  have hg3 := hC.gw hg2
  have hcv : I3 44 57 = c ∧ J3 88 = mj 88 := by
    obtain ⟨I1, h1, ⟨S, h2⟩, -⟩ := hC
    have z := hsol _ I1 _ J3 ⟨fun o ho => by rw [a_u_row (by omega), hb.1 o ⟨by omega, by omega, by omega, by omega, by omega, by omega, by omega, by omega, by omega⟩]; exact hst.1 o ho, by rw [a_u_row (by decide), hb.2 0 (by decide)]; exact hst.2.1, by rw [a_u_row (by decide), hb.2 13 (by decide)]; exact hst.2.2⟩ h1
    exact ⟨by rw [h2, a_ur_ne (by decide)]; exact z.1, z.2⟩
  have hcm : CmpOK I3 J3 g := by obtain ⟨I1, h1, h2, h3⟩ := hC; exact h3
  rw [gv_eq hb3 hg3 hx hq hcm hcv.1 hcv.2]
  unfold rdK; rw [he, Nat.add_sub_cancel]
  exact rdD_bf hb3
theorem rdC_bf {A B : aI} {x q r : Nat} (h : BaseF A B) (he : iN A 69 x = r + 1) : rdC A x q ↔ (B 58 (3 * iN B 62 (x / 16) + q) &&& 4 = 0 ∧ B 67 (3 * r + q) ≠ B 70 (3 * x + q)) := by
  unfold rdC; rw [he, Nat.add_sub_cancel]
  have eN : iN B 62 (x / 16) = iN A 62 (x / 16) := by unfold iN; rw [h.1 62 (by decide)]
  rw [eN, h.1 58 (by decide), h.1 67 (by decide), h.1 70 (by decide)]
theorem BaseF.sw {I I2 : aI} {n : Nat} (h : BaseF I I2) (g : SW I n) : SW I2 n :=
  SW_cg (h.2 0 (by decide)) (h.1 45 (by decide)) (h.1 46 (by decide)) (h.1 47 (by decide)) (h.1 48 (by decide)) (h.1 49 (by decide)) (h.1 50 (by decide)) (h.1 51 (by decide)) (h.1 53 (by decide)) g
theorem BaseF.gw {I I2 : aI} {g : Nat} (h : BaseF I I2) (hg : GW I g) : GW I2 g :=
  GW_cg (h.2 20 (by decide)) (h.1 65 (by decide)) (h.1 62 (by decide)) (h.1 61 (by decide)) (h.1 63 (by decide)) (h.1 71 (by decide)) hg
theorem rdX_0 {I : aI} {c : Int32} {mj : aJ} {g x : Nat} (h : iN I 69 x = 0) : rdX I c mj g x = (I, 0, 0) := by unfold rdX; rw [if_neg (by omega)]
theorem rdX_1 {I : aI} {c : Int32} {mj : aJ} {g x r : Nat} (h : iN I 69 x = r + 1) (hg : I 68 r ≠ 0) : rdX I c mj g x = (a_u I 69 x 0, 1, 0) := by unfold rdX; rw [if_pos (by omega), if_pos (by rw [h]; exact hg)]
theorem rdX_2 {I : aI} {c : Int32} {mj : aJ} {g x r : Nat} (h : iN I 69 x = r + 1) (hg : I 68 r = 0) : rdX I c mj g x = ((rdA I c mj g x 3).1, 0, (rdA I c mj g x 3).2) := by unfold rdX; rw [if_pos (by omega), if_neg (by rw [h]; exact not_not_intro hg)]
/-- reading: the serial moves where something has changed -/
noncomputable def rdS (I : aI) (c : Int32) (mj : aJ) (g : Nat) : aI := a_u (rdN I c mj g (16 * g)).1 44 35 (I 44 35 + (if 0 < (rdN I c mj g (16 * g)).2.1 + (rdN I c mj g (16 * g)).2.2 then 1 else 0))
set_option maxRecDepth 100000 in
theorem m_X12_readT {T : List aT} {I : aI} {J : aJ} {R : aR} (hT : aPT T) (hR : aPR R) {n g : Nat} (hS : SW I n) (hZ : Zr J) (hg : GW I g) (hE : NR I 69 64 61) (hun : I 44 45 < 0) (c : Int32) (mj : aJ) (hsol : SolD I n c mj) : MX12_read 0 0 [.ref 44] T I J R (aRelV (fun v I3 J3 => v = some (.int (nI (100 * (rdN (a_u I 44 61 0) c mj g (16 * g)).2.1 + (rdN (a_u I 44 61 0) c mj g (16 * g)).2.2))) ∧ BaseF (rdS (a_u I 44 61 0) c mj g) I3 ∧ Zr J3) T R) := by
  refine a_met (by decide +kernel) a_le (fun X hC hq => ?_)
  show AW X 0 0 0 [some (.ref 44), none, none, none, none, none] [] T I J R
  refine aw_aload_n hC dX12_read_0 rfl ?_
  refine aw_aload_n hC dX12_read_1 rfl ?_
  refine aw_getI hC dX12_read_2 aF_X12_123 rfl (tg_44 hT) ?_
  refine aw_if_lt (tgt := 12) hC dX12_read_5 (by decide) (fun h1 => ?_) (fun h1 => ?_)
  · show AW X 0 0 12 [some (.ref 44), none, none, none, none, none] [.ref 44] T I J R
    refine aw_iconst (v := 0) hC dX12_read_12 (by decide) ?_
    refine aw_putI hC dX12_read_13 aF_X12_166 rfl rfl (tg_44 hT) ?_
    refine aw_aload_n hC dX12_read_16 rfl ?_
    refine aw_getI hC dX12_read_17 aF_X12_166 rfl (tg_44 hT) ?_
    rw [a_u_self (f := I) (o := 44) (k := 61) (v := 0)]
    refine aw_if_le (tgt := 25) hC dX12_read_20 (by decide) (fun _ => ?_) (fun h2 => absurd h2 (by decide))
    show AW X 0 0 25 [some (.ref 44), none, none, none, none, none] [] T (a_u I 44 61 0) J R
    refine aw_iconst (v := 0) hC dX12_read_25 (by decide) ?_
    refine aw_istore_n (L2 := [some (.ref 44), some (.int 0), none, none, none, none]) hC dX12_read_26 rfl (by decide) rfl ?_
    refine aw_iconst (v := 0) hC dX12_read_27 (by decide) ?_
    refine aw_istore_n (L2 := [some (.ref 44), some (.int 0), some (.int 0), none, none, none]) hC dX12_read_28 rfl (by decide) rfl ?_
    refine aw_iconst (v := 0) hC dX12_read_29 (by decide) ?_
    refine aw_istore_n (L2 := [some (.ref 44), some (.int 0), some (.int 0), some (.int 0), none, none]) hC dX12_read_30 rfl (by decide) rfl ?_
    obtain ⟨A, hA⟩ : ∃ A, A = a_u I 44 61 0 := ⟨_, rfl⟩
    rw [← hA]
    have hg4 := hg.g4
    have hgA : GW A g := by rw [hA]; exact hg.th
    have hSA : SW A n := by rw [hA]; exact hS.th
    have hEA : NR A 69 64 61 := by rw [hA]; exact hE.ne (by decide)
    have hstA : ∀ k, StEq I (rdN A c mj g k).1 := fun k => ⟨fun o ho => by rw [rdN_fr (by omega), hA, a_u_row (by omega)], by rw [rdN_fr (by decide), hA, a_u_ne (fun q => absurd q.2 (by decide))], by rw [rdN_fr (by decide), hA, a_u_ne (fun q => absurd q.2 (by decide))]⟩
    have loop : ∀ k, k ≤ 16 * g → ∀ (I1 : aI) (J1 : aJ), BaseF (rdN A c mj g k).1 I1 → Zr J1 → AW X 0 0 31 [some (.ref 44), some (.int (nI (rdN A c mj g k).2.1)), some (.int (nI (rdN A c mj g k).2.2)), some (.int (nI k)), none, none] [] T I1 J1 R := by
      refine a_down (16 * g) (fun k hkl ih => ?_)
      intro I1 J1 hb hz1
      obtain ⟨B, hB⟩ : ∃ B, B = (rdN A c mj g k).1 := ⟨_, rfl⟩
      rw [← hB] at hb
      have hcc := rdN_c A c mj g k
      have hgB : GW B g := GW_cg (by rw [hB, rdN_fr (by decide)]) (by rw [hB, rdN_fr (by decide)]) (by rw [hB, rdN_fr (by decide)]) (by rw [hB, rdN_fr (by decide)]) (by rw [hB, rdN_fr (by decide)]) (by rw [hB, rdN_fr (by decide)]) hgA
      have hg1 := hb.gw hgB
      have hEB : NR B 69 64 61 := by rw [hB]; exact rdN_E hEA k
      refine aw_iload_n hC dX12_read_31 rfl ?_
      refine aw_bipush (v := 16) hC dX12_read_32 (by decide) ?_
      refine aw_aload_n hC dX12_read_34 rfl ?_
      refine aw_getI hC dX12_read_35 aF_X12_312 rfl (tg_44 hT) ?_
      rw [hg1.gn]
      refine aw_imul hC dX12_read_38 ?_
      rw [show 16 * (nI g) = nI (16 * g) from pk_mul 16 g]
      refine aw_icmp_ge (tgt := 174) hC dX12_read_39 (by decide) (fun h3 => ?_) (fun h3 => ?_)
      · show AW X 0 0 174 [some (.ref 44), some (.int (nI (rdN A c mj g k).2.1)), some (.int (nI (rdN A c mj g k).2.2)), some (.int (nI k)), none, none] [] T I1 J1 R
        have h3n : (16 * g) ≤ k := (nI_leI (a := (16 * g)) (b := k) (by omega) (by omega)).mp h3
        refine aw_aload_n hC dX12_read_174 rfl ?_
        refine aw_dup hC dX12_read_175 rfl ?_
        refine aw_getI hC dX12_read_176 aF_X12_343 rfl (tg_44 hT) ?_
        refine aw_iload_n hC dX12_read_179 rfl ?_
        refine aw_iload_n hC dX12_read_180 rfl ?_
        refine aw_iadd hC dX12_read_181 ?_
        rw [show (nI (rdN A c mj g k).2.1) + (nI (rdN A c mj g k).2.2) = nI (((rdN A c mj g k).2.1) + ((rdN A c mj g k).2.2)) from nI_add ((rdN A c mj g k).2.1) ((rdN A c mj g k).2.2)]
        refine aw_if_le (tgt := 189) hC dX12_read_182 (by decide) (fun h4 => ?_) (fun h4 => ?_)
        · show AW X 0 0 189 [some (.ref 44), some (.int (nI (rdN A c mj g k).2.1)), some (.int (nI (rdN A c mj g k).2.2)), some (.int (nI k)), none, none] [.int (I1 44 35), .ref 44] T I1 J1 R
          have h4n : (((rdN A c mj g k).2.1) + ((rdN A c mj g k).2.2)) ≤ 0 := (nI_leI (a := (((rdN A c mj g k).2.1) + ((rdN A c mj g k).2.2))) (b := 0) (by omega) (by omega)).mp h4
          refine aw_iconst (v := 0) hC dX12_read_189 (by decide) ?_
          refine aw_iadd hC dX12_read_190 ?_
          refine aw_putI hC dX12_read_191 aF_X12_343 rfl rfl (tg_44 hT) ?_
          refine aw_bipush (v := 100) hC dX12_read_194 (by decide) ?_
          refine aw_iload_n hC dX12_read_196 rfl ?_
          refine aw_imul hC dX12_read_197 ?_
          rw [show 100 * (nI (rdN A c mj g k).2.1) = nI (100 * ((rdN A c mj g k).2.1)) from pk_mul 100 ((rdN A c mj g k).2.1)]
          refine aw_iload_n hC dX12_read_198 rfl ?_
          refine aw_iadd hC dX12_read_199 ?_
          rw [show (nI (100 * ((rdN A c mj g k).2.1))) + (nI (rdN A c mj g k).2.2) = nI ((100 * ((rdN A c mj g k).2.1)) + ((rdN A c mj g k).2.2)) from nI_add (100 * ((rdN A c mj g k).2.1)) ((rdN A c mj g k).2.2)]
          exact aw_ireturn hC hq rfl dX12_read_200 a_le a_le (by have e9 : k = 16 * g := (by omega); exact ⟨_, rfl, rfl, rfl, by rw [← hA, ← e9]; try rfl, by rw [← hA, rdS, ← e9, ← hB, show I1 44 35 = B 44 35 from hb.2 35 (by decide), show B 44 35 = A 44 35 from by rw [hB, rdN_fr (by decide)]]; first | (rw [if_pos (by omega)]; exact a_u_bf hb) | (rw [if_neg (by omega)]; exact a_u_bf hb), hz1⟩)
        · show AW X 0 0 185 [some (.ref 44), some (.int (nI (rdN A c mj g k).2.1)), some (.int (nI (rdN A c mj g k).2.2)), some (.int (nI k)), none, none] [.int (I1 44 35), .ref 44] T I1 J1 R
          have h4n : ¬ (((rdN A c mj g k).2.1) + ((rdN A c mj g k).2.2)) ≤ 0 := fun q9 => h4 ((nI_leI (a := (((rdN A c mj g k).2.1) + ((rdN A c mj g k).2.2))) (b := 0) (by omega) (by omega)).mpr q9)
          refine aw_iconst (v := 1) hC dX12_read_185 (by decide) ?_
          refine aw_goto (tgt := 190) hC dX12_read_186 (by decide) ?_
          refine aw_iadd hC dX12_read_190 ?_
          refine aw_putI hC dX12_read_191 aF_X12_343 rfl rfl (tg_44 hT) ?_
          refine aw_bipush (v := 100) hC dX12_read_194 (by decide) ?_
          refine aw_iload_n hC dX12_read_196 rfl ?_
          refine aw_imul hC dX12_read_197 ?_
          rw [show 100 * (nI (rdN A c mj g k).2.1) = nI (100 * ((rdN A c mj g k).2.1)) from pk_mul 100 ((rdN A c mj g k).2.1)]
          refine aw_iload_n hC dX12_read_198 rfl ?_
          refine aw_iadd hC dX12_read_199 ?_
          rw [show (nI (100 * ((rdN A c mj g k).2.1))) + (nI (rdN A c mj g k).2.2) = nI ((100 * ((rdN A c mj g k).2.1)) + ((rdN A c mj g k).2.2)) from nI_add (100 * ((rdN A c mj g k).2.1)) ((rdN A c mj g k).2.2)]
          exact aw_ireturn hC hq rfl dX12_read_200 a_le a_le (by have e9 : k = 16 * g := (by omega); exact ⟨_, rfl, rfl, rfl, by rw [← hA, ← e9]; try rfl, by rw [← hA, rdS, ← e9, ← hB, show I1 44 35 = B 44 35 from hb.2 35 (by decide), show B 44 35 = A 44 35 from by rw [hB, rdN_fr (by decide)]]; first | (rw [if_pos (by omega)]; exact a_u_bf hb) | (rw [if_neg (by omega)]; exact a_u_bf hb), hz1⟩)
      · show AW X 0 0 42 [some (.ref 44), some (.int (nI (rdN A c mj g k).2.1)), some (.int (nI (rdN A c mj g k).2.2)), some (.int (nI k)), none, none] [] T I1 J1 R
        have h3n : ¬ (16 * g) ≤ k := fun q9 => h3 ((nI_leI (a := (16 * g)) (b := k) (by omega) (by omega)).mpr q9)
        have hx64 : k < 64 := by omega
        have he1 : I1 69 k = nI (iN B 69 k) := by rw [hb.1 69 (by decide)]; exact (hEB k hx64).1
        have he2 := (hEB k hx64).2
        have hk1 : rdN A c mj g (k + 1) = ((rdX B c mj g k).1, (rdN A c mj g k).2.1 + (rdX B c mj g k).2.1, (rdN A c mj g k).2.2 + (rdX B c mj g k).2.2) := by rw [hB]; rfl
        rcases Nat.eq_zero_or_pos (iN B 69 k) with he0 | he0
        · have he00 : I1 69 k = 0 := by rw [he1, he0]; rfl
          refine aw_aload_n hC dX12_read_42 rfl ?_
          refine aw_getR hC dX12_read_43 aF_X12_83 rfl (tg_44 hT) (pr_44_29 hR) ?_
          refine aw_iload_n hC dX12_read_46 rfl ?_
          refine aw_iaload_k (j := k) hC dX12_read_47 (tg_69 hT) (nI_clamp (by omega)) (vp_in_nI (by omega) (by decide)) ?_
          rw [he00]
          refine aw_iconst (v := 1) hC dX12_read_48 (by decide) ?_
          refine aw_isub hC dX12_read_49 ?_
          rw [show (0 : Int32) - 1 = -1 from rfl]
          refine aw_istore (L2 := [some (.ref 44), some (.int (nI (rdN A c mj g k).2.1)), some (.int (nI (rdN A c mj g k).2.2)), some (.int (nI k)), some (.int (-1)), none]) hC dX12_read_50 (by decide) rfl ?_
          refine aw_iload hC dX12_read_52 rfl ?_
          refine aw_if_lt (tgt := 77) hC dX12_read_54 (by decide) (fun _ => ?_) (fun h5 => absurd h5 (by decide))
          show AW X 0 0 77 [some (.ref 44), some (.int (nI (rdN A c mj g k).2.1)), some (.int (nI (rdN A c mj g k).2.2)), some (.int (nI k)), some (.int (-1)), none] [] T I1 J1 R
          refine aw_iconst (v := 0) hC dX12_read_77 (by decide) ?_
          refine aw_istore (L2 := [some (.ref 44), some (.int (nI (rdN A c mj g k).2.1)), some (.int (nI (rdN A c mj g k).2.2)), some (.int (nI k)), some (.int (-1)), some (.int 0)]) hC dX12_read_78 (by decide) rfl ?_
          refine aw_iload hC dX12_read_80 rfl ?_
          refine aw_iconst (v := 3) hC dX12_read_82 (by decide) ?_
          refine aw_icmp_ge (tgt := 168) hC dX12_read_83 (by decide) (fun h6 => absurd h6 (by decide)) (fun _ => ?_)
          show AW X 0 0 86 [some (.ref 44), some (.int (nI (rdN A c mj g k).2.1)), some (.int (nI (rdN A c mj g k).2.2)), some (.int (nI k)), some (.int (-1)), some (.int 0)] [] T I1 J1 R
          refine aw_aload_n hC dX12_read_86 rfl ?_
          refine aw_getR hC dX12_read_87 aF_X12_83 rfl (tg_44 hT) (pr_44_29 hR) ?_
          refine aw_iload_n hC dX12_read_90 rfl ?_
          refine aw_iaload_k (j := k) hC dX12_read_91 (tg_69 hT) (nI_clamp (by omega)) (vp_in_nI (by omega) (by decide)) ?_
          rw [he00]
          refine aw_if_le (tgt := 168) hC dX12_read_92 (by decide) (fun _ => ?_) (fun h7 => absurd h7 (by decide))
          show AW X 0 0 168 [some (.ref 44), some (.int (nI (rdN A c mj g k).2.1)), some (.int (nI (rdN A c mj g k).2.2)), some (.int (nI k)), some (.int (-1)), some (.int 0)] [] T I1 J1 R
          refine aw_iinc (v := nI (k + 1)) (L2 := [some (.ref 44), some (.int (nI (rdN A c mj g k).2.1)), some (.int (nI (rdN A c mj g k).2.2)), some (.int (nI (k + 1))), some (.int (-1)), some (.int 0)]) hC dX12_read_168 rfl (nI_inc _) (by decide) rfl ?_
          refine aw_goto (tgt := 31) hC dX12_read_171 (by decide) ?_
          refine aw_forget 4 (L2 := [some (.ref 44), some (.int (nI (rdN A c mj g k).2.1)), some (.int (nI (rdN A c mj g k).2.2)), some (.int (nI (k + 1))), none, some (.int 0)]) rfl ?_
          refine aw_forget 5 (L2 := [some (.ref 44), some (.int (nI (rdN A c mj g k).2.1)), some (.int (nI (rdN A c mj g k).2.2)), some (.int (nI (k + 1))), none, none]) rfl ?_
          rw [rdX_0 he0] at hk1
          have hih := ih (by omega) I1 J1 (by rw [hk1]; exact hb) hz1
          rw [hk1] at hih
          exact hih
        · obtain ⟨r, hr⟩ : ∃ r, iN B 69 k = r + 1 := ⟨iN B 69 k - 1, by omega⟩
          have he3 : I1 69 k = nI (r + 1) := by rw [he1, hr]
          have e68 : I1 68 = B 68 := hb.1 68 (by decide)
          refine aw_aload_n hC dX12_read_42 rfl ?_
          refine aw_getR hC dX12_read_43 aF_X12_83 rfl (tg_44 hT) (pr_44_29 hR) ?_
          refine aw_iload_n hC dX12_read_46 rfl ?_
          refine aw_iaload_k (j := k) hC dX12_read_47 (tg_69 hT) (nI_clamp (by omega)) (vp_in_nI (by omega) (by decide)) ?_
          rw [he3]
          refine aw_iconst (v := 1) hC dX12_read_48 (by decide) ?_
          refine aw_isub hC dX12_read_49 ?_
          rw [nI_p1 r]
          refine aw_istore (L2 := [some (.ref 44), some (.int (nI (rdN A c mj g k).2.1)), some (.int (nI (rdN A c mj g k).2.2)), some (.int (nI k)), some (.int (nI r)), none]) hC dX12_read_50 (by decide) rfl ?_
          refine aw_iload hC dX12_read_52 rfl ?_
          refine aw_if_lt (tgt := 77) hC dX12_read_54 (by decide) (fun h => absurd ((nI_ltI (a := r) (b := 0) (by omega) (by omega)).mp h) (by omega)) (fun _ => ?_)
          show AW X 0 0 57 [some (.ref 44), some (.int (nI (rdN A c mj g k).2.1)), some (.int (nI (rdN A c mj g k).2.2)), some (.int (nI k)), some (.int (nI r)), none] [] T I1 J1 R
          refine aw_aload_n hC dX12_read_57 rfl ?_
          refine aw_getR hC dX12_read_58 aF_X12_80 rfl (tg_44 hT) (pr_44_28 hR) ?_
          refine aw_iload hC dX12_read_61 rfl ?_
          refine aw_baload_k (j := r) hC dX12_read_63 (tg_68 hT) (nI_clamp (by omega)) (vp_in_nI (by omega) (by decide)) ?_
          refine aw_if_eq (tgt := 77) hC dX12_read_64 (by decide) (fun h8 => ?_) (fun h8 => ?_)
          · show AW X 0 0 77 [some (.ref 44), some (.int (nI (rdN A c mj g k).2.1)), some (.int (nI (rdN A c mj g k).2.2)), some (.int (nI k)), some (.int (nI r)), none] [] T I1 J1 R
            refine aw_iconst (v := 0) hC dX12_read_77 (by decide) ?_
            refine aw_istore (L2 := [some (.ref 44), some (.int (nI (rdN A c mj g k).2.1)), some (.int (nI (rdN A c mj g k).2.2)), some (.int (nI k)), some (.int (nI r)), some (.int 0)]) hC dX12_read_78 (by decide) rfl ?_
            have hgo : B 68 r = 0 := by rw [← e68]; assumption
            have loop2 : ∀ q, q ≤ 3 → ∀ (I2 : aI) (J2 : aJ), BaseF (rdA B c mj g k q).1 I2 → Zr J2 → AW X 0 0 80 [some (.ref 44), some (.int (nI (rdN A c mj g k).2.1)), some (.int (nI ((rdN A c mj g k).2.2 + (rdA B c mj g k q).2))), some (.int (nI k)), some (.int (nI r)), some (.int (nI q))] [] T I2 J2 R := by
              refine a_down 3 (fun q hkq ih2 => ?_)
              intro I2 J2 hb2 hz2
              have hr2 : iN (rdA B c mj g k q).1 69 k = r + 1 := by unfold iN at *; rw [rdA_fr (by decide)]; exact hr
              have hgQ : GW (rdA B c mj g k q).1 g := GW_cg (by rw [rdA_fr (by decide)]) (rdA_fr (by decide) q) (rdA_fr (by decide) q) (rdA_fr (by decide) q) (rdA_fr (by decide) q) (rdA_fr (by decide) q) hgB
              have hg2 := hb2.gw hgQ
              have hqc := rdA_c B c mj g k q
              have he4 : I2 69 k = nI (r + 1) := by rw [hb2.1 69 (by decide), rdA_fr (by decide)]; rw [← hr]; exact (hEB k hx64).1
              refine aw_iload hC dX12_read_80 rfl ?_
              refine aw_iconst (v := 3) hC dX12_read_82 (by decide) ?_
              refine aw_icmp_ge (tgt := 168) hC dX12_read_83 (by decide) (fun h9 => ?_) (fun h9 => ?_)
              · show AW X 0 0 168 [some (.ref 44), some (.int (nI (rdN A c mj g k).2.1)), some (.int (nI ((rdN A c mj g k).2.2 + (rdA B c mj g k q).2))), some (.int (nI k)), some (.int (nI r)), some (.int (nI q))] [] T I2 J2 R
                have h9n : 3 ≤ q := (nI_leI (a := 3) (b := q) (by omega) (by omega)).mp h9
                refine aw_iinc (v := nI (k + 1)) (L2 := [some (.ref 44), some (.int (nI (rdN A c mj g k).2.1)), some (.int (nI ((rdN A c mj g k).2.2 + (rdA B c mj g k q).2))), some (.int (nI (k + 1))), some (.int (nI r)), some (.int (nI q))]) hC dX12_read_168 rfl (nI_inc _) (by decide) rfl ?_
                refine aw_goto (tgt := 31) hC dX12_read_171 (by decide) ?_
                refine aw_forget 4 (L2 := [some (.ref 44), some (.int (nI (rdN A c mj g k).2.1)), some (.int (nI ((rdN A c mj g k).2.2 + (rdA B c mj g k q).2))), some (.int (nI (k + 1))), none, some (.int (nI q))]) rfl ?_
                refine aw_forget 5 (L2 := [some (.ref 44), some (.int (nI (rdN A c mj g k).2.1)), some (.int (nI ((rdN A c mj g k).2.2 + (rdA B c mj g k q).2))), some (.int (nI (k + 1))), none, none]) rfl ?_
                have eq3 : q = 3 := by omega
                rw [eq3] at hb2 ⊢
                rw [rdX_2 hr hgo] at hk1
                have hih := ih (by omega) I2 J2 (by rw [hk1]; exact hb2) hz2
                rw [hk1] at hih
                exact hih
              · show AW X 0 0 86 [some (.ref 44), some (.int (nI (rdN A c mj g k).2.1)), some (.int (nI ((rdN A c mj g k).2.2 + (rdA B c mj g k q).2))), some (.int (nI k)), some (.int (nI r)), some (.int (nI q))] [] T I2 J2 R
                have h9n : ¬ 3 ≤ q := fun q9 => h9 ((nI_leI (a := 3) (b := q) (by omega) (by omega)).mpr q9)
                refine aw_aload_n hC dX12_read_86 rfl ?_
                refine aw_getR hC dX12_read_87 aF_X12_83 rfl (tg_44 hT) (pr_44_29 hR) ?_
                refine aw_iload_n hC dX12_read_90 rfl ?_
                refine aw_iaload_k (j := k) hC dX12_read_91 (tg_69 hT) (nI_clamp (by omega)) (vp_in_nI (by omega) (by decide)) ?_
                rw [he4]
                refine aw_if_le (tgt := 168) hC dX12_read_92 (by decide) (fun h => absurd ((nI_leI (a := r + 1) (b := 0) (by omega) (by omega)).mp h) (by omega)) (fun _ => ?_)
                show AW X 0 0 95 [some (.ref 44), some (.int (nI (rdN A c mj g k).2.1)), some (.int (nI ((rdN A c mj g k).2.2 + (rdA B c mj g k q).2))), some (.int (nI k)), some (.int (nI r)), some (.int (nI q))] [] T I2 J2 R
                refine aw_aload_n hC dX12_read_95 rfl ?_
                refine aw_aload_n hC dX12_read_96 rfl ?_
                refine aw_getR hC dX12_read_97 aF_X12_62 rfl (tg_44 hT) (pr_44_21 hR) ?_
                refine aw_iload_n hC dX12_read_100 rfl ?_
                refine aw_bipush (v := 16) hC dX12_read_101 (by decide) ?_
                refine aw_idiv hC dX12_read_103 (by decide) ?_
                rw [show (nI k) / 16 = nI (k / 16) from pk_div (a := k) (d := 16) (by omega) (by decide) (by decide)]
                refine aw_iaload_k (j := (k / 16)) hC dX12_read_104 (tg_62 hT) (nI_clamp (by omega)) (vp_in_nI (by omega) (by decide)) ?_
                have hb10 := hg2.ty (k / 16) (by omega)
                rw [hb10.1]
                refine aw_iload hC dX12_read_105 rfl ?_
                refine aw_iconst (v := 4) hC dX12_read_107 (by decide) ?_
                refine kX12_330 hC rfl (m_X12_hasN hT hR (t := (iN I2 62 (k / 16))) (a := q) (by omega) (by omega) (4 : Int32)) dX12_read_108 (tg_44 hT) rfl a_le a_le a_le a_le a_le rfl aPure_x (aPure_k ?_)
                show AW X 0 0 111 [some (.ref 44), some (.int (nI (rdN A c mj g k).2.1)), some (.int (nI ((rdN A c mj g k).2.2 + (rdA B c mj g k q).2))), some (.int (nI k)), some (.int (nI r)), some (.int (nI q))] [.int (bI (decide (I2 58 (3 * (iN I2 62 (k / 16)) + q) &&& (4 : Int32) ≠ 0)))] T I2 J2 R
                refine aw_if_ne (tgt := 162) hC dX12_read_111 (by decide) (fun h11 => ?_) (fun h11 => ?_)
                · show AW X 0 0 162 [some (.ref 44), some (.int (nI (rdN A c mj g k).2.1)), some (.int (nI ((rdN A c mj g k).2.2 + (rdA B c mj g k q).2))), some (.int (nI k)), some (.int (nI r)), some (.int (nI q))] [] T I2 J2 R
                  refine aw_iinc (v := nI (q + 1)) (L2 := [some (.ref 44), some (.int (nI (rdN A c mj g k).2.1)), some (.int (nI ((rdN A c mj g k).2.2 + (rdA B c mj g k q).2))), some (.int (nI k)), some (.int (nI r)), some (.int (nI (q + 1)))]) hC dX12_read_162 rfl (nI_inc _) (by decide) rfl ?_
                  refine aw_goto (tgt := 80) hC dX12_read_165 (by decide) ?_
                  have hno : ¬ rdC (rdA B c mj g k q).1 k q := fun hh => by have z := (rdC_bf hb2 hr2).mp hh; first | exact absurd z.1 (bI_dn.mp (by assumption)) | exact absurd (by assumption) z.2
                  have hk2 : rdA B c mj g k (q + 1) = rdA B c mj g k q := by rw [rdA, if_neg hno]
                  have hih := ih2 (by omega) I2 J2 (by rw [hk2]; exact hb2) hz2
                  rw [hk2] at hih
                  exact hih
                · show AW X 0 0 114 [some (.ref 44), some (.int (nI (rdN A c mj g k).2.1)), some (.int (nI ((rdN A c mj g k).2.2 + (rdA B c mj g k q).2))), some (.int (nI k)), some (.int (nI r)), some (.int (nI q))] [] T I2 J2 R
                  refine aw_aload_n hC dX12_read_114 rfl ?_
                  refine aw_getR hC dX12_read_115 aF_X12_77 rfl (tg_44 hT) (pr_44_27 hR) ?_
                  refine aw_iconst (v := 3) hC dX12_read_118 (by decide) ?_
                  refine aw_iload hC dX12_read_119 rfl ?_
                  refine aw_imul hC dX12_read_121 ?_
                  rw [show 3 * (nI r) = nI (3 * r) from pk_mul 3 r]
                  refine aw_iload hC dX12_read_122 rfl ?_
                  refine aw_iadd hC dX12_read_124 ?_
                  rw [show (nI (3 * r)) + (nI q) = nI ((3 * r) + q) from nI_add (3 * r) q]
                  refine aw_iaload_k (j := ((3 * r) + q)) hC dX12_read_125 (tg_67 hT) (nI_clamp (by omega)) (vp_in_nI (by omega) (by decide)) ?_
                  refine aw_aload_n hC dX12_read_126 rfl ?_
                  refine aw_getR hC dX12_read_127 aF_X12_86 rfl (tg_44 hT) (pr_44_30 hR) ?_
                  refine aw_iconst (v := 3) hC dX12_read_130 (by decide) ?_
                  refine aw_iload_n hC dX12_read_131 rfl ?_
                  refine aw_imul hC dX12_read_132 ?_
                  rw [show 3 * (nI k) = nI (3 * k) from pk_mul 3 k]
                  refine aw_iload hC dX12_read_133 rfl ?_
                  refine aw_iadd hC dX12_read_135 ?_
                  rw [show (nI (3 * k)) + (nI q) = nI ((3 * k) + q) from nI_add (3 * k) q]
                  refine aw_iaload_k (j := ((3 * k) + q)) hC dX12_read_136 (tg_70 hT) (nI_clamp (by omega)) (vp_in_nI (by omega) (by decide)) ?_
                  refine aw_icmp_eq (tgt := 162) hC dX12_read_137 (by decide) (fun h12 => ?_) (fun h12 => ?_)
                  · show AW X 0 0 162 [some (.ref 44), some (.int (nI (rdN A c mj g k).2.1)), some (.int (nI ((rdN A c mj g k).2.2 + (rdA B c mj g k q).2))), some (.int (nI k)), some (.int (nI r)), some (.int (nI q))] [] T I2 J2 R
                    refine aw_iinc (v := nI (q + 1)) (L2 := [some (.ref 44), some (.int (nI (rdN A c mj g k).2.1)), some (.int (nI ((rdN A c mj g k).2.2 + (rdA B c mj g k q).2))), some (.int (nI k)), some (.int (nI r)), some (.int (nI (q + 1)))]) hC dX12_read_162 rfl (nI_inc _) (by decide) rfl ?_
                    refine aw_goto (tgt := 80) hC dX12_read_165 (by decide) ?_
                    have hno : ¬ rdC (rdA B c mj g k q).1 k q := fun hh => by have z := (rdC_bf hb2 hr2).mp hh; first | exact absurd z.1 (bI_dn.mp (by assumption)) | exact absurd (by assumption) z.2
                    have hk2 : rdA B c mj g k (q + 1) = rdA B c mj g k q := by rw [rdA, if_neg hno]
                    have hih := ih2 (by omega) I2 J2 (by rw [hk2]; exact hb2) hz2
                    rw [hk2] at hih
                    exact hih
                  · show AW X 0 0 140 [some (.ref 44), some (.int (nI (rdN A c mj g k).2.1)), some (.int (nI ((rdN A c mj g k).2.2 + (rdA B c mj g k q).2))), some (.int (nI k)), some (.int (nI r)), some (.int (nI q))] [] T I2 J2 R
                    refine aw_iinc (v := nI (((rdN A c mj g k).2.2 + (rdA B c mj g k q).2) + 1)) (L2 := [some (.ref 44), some (.int (nI (rdN A c mj g k).2.1)), some (.int (nI (((rdN A c mj g k).2.2 + (rdA B c mj g k q).2) + 1))), some (.int (nI k)), some (.int (nI r)), some (.int (nI q))]) hC dX12_read_140 rfl (nI_inc _) (by decide) rfl ?_
                    refine aw_aload_n hC dX12_read_143 rfl ?_
                    refine aw_iload_n hC dX12_read_144 rfl ?_
                    refine aw_iload hC dX12_read_145 rfl ?_
                    refine aw_aload_n hC dX12_read_147 rfl ?_
                    refine aw_getR hC dX12_read_148 aF_X12_77 rfl (tg_44 hT) (pr_44_27 hR) ?_
                    refine aw_iconst (v := 3) hC dX12_read_151 (by decide) ?_
                    refine aw_iload hC dX12_read_152 rfl ?_
                    refine aw_imul hC dX12_read_154 ?_
                    rw [show 3 * (nI r) = nI (3 * r) from pk_mul 3 r]
                    refine aw_iload hC dX12_read_155 rfl ?_
                    refine aw_iadd hC dX12_read_157 ?_
                    rw [show (nI (3 * r)) + (nI q) = nI ((3 * r) + q) from nI_add (3 * r) q]
                    refine aw_iaload_k (j := ((3 * r) + q)) hC dX12_read_158 (tg_67 hT) (nI_clamp (by omega)) (vp_in_nI (by omega) (by decide)) ?_
                    refine kX12_425 hC rfl (m_X12_drifts (I := I2) (J := J2) (n := n) (g := g) hT hR (BaseF.sw hb2 (SW_cg (by rw [rdA_fr (by decide), hB, rdN_fr (by decide)]) (by rw [rdA_fr (by decide), hB, rdN_fr (by decide)]) (by rw [rdA_fr (by decide), hB, rdN_fr (by decide)]) (by rw [rdA_fr (by decide), hB, rdN_fr (by decide)]) (by rw [rdA_fr (by decide), hB, rdN_fr (by decide)]) (by rw [rdA_fr (by decide), hB, rdN_fr (by decide)]) (by rw [rdA_fr (by decide), hB, rdN_fr (by decide)]) (by rw [rdA_fr (by decide), hB, rdN_fr (by decide)]) (by rw [rdA_fr (by decide), hB, rdN_fr (by decide)]) hSA)) hz2 hg2 (x := k) (k := q) (by omega) (by omega) (I2 67 ((3 * r) + q))) dX12_read_159 (tg_44 hT) rfl a_le a_le a_le a_le a_le rfl aRelV_x (aRelV_k (fun v9 I3 J3 hQ => ?_))
                    obtain ⟨I4, hCm, rfl, hI3⟩ := hQ
                    have stq : StEq I (rdA B c mj g k q).1 := ⟨fun o ho => by rw [rdA_fr (by omega), hB]; exact (hstA k).1 o ho, by rw [rdA_fr (by decide), hB]; exact (hstA k).2.1, by rw [rdA_fr (by decide), hB]; exact (hstA k).2.2⟩
                    show AW X 0 0 162 [some (.ref 44), some (.int (nI (rdN A c mj g k).2.1)), some (.int (nI (((rdN A c mj g k).2.2 + (rdA B c mj g k q).2) + 1))), some (.int (nI k)), some (.int (nI r)), some (.int (nI q))] [] T I3 J3 R
                    refine aw_iinc (v := nI (q + 1)) (L2 := [some (.ref 44), some (.int (nI (rdN A c mj g k).2.1)), some (.int (nI (((rdN A c mj g k).2.2 + (rdA B c mj g k q).2) + 1))), some (.int (nI k)), some (.int (nI r)), some (.int (nI (q + 1)))]) hC dX12_read_162 rfl (nI_inc _) (by decide) rfl ?_
                    refine aw_goto (tgt := 80) hC dX12_read_165 (by decide) ?_
                    have hyes : rdC (rdA B c mj g k q).1 k q := (rdC_bf hb2 hr2).mpr ⟨Decidable.not_not.mp (bI_d0.mp (by assumption)), by assumption⟩
                    have hk2 : rdA B c mj g k (q + 1) = (rdK (rdA B c mj g k q).1 c mj g k q, (rdA B c mj g k q).2 + 1) := by rw [rdA, if_pos hyes]
                    have hih := ih2 (by omega) I3 J3 (by rw [hk2, hI3]; exact rd_step hb2 hg2 (by omega) (by omega) hr2 hsol stq hCm) hCm.zr
                    rw [hk2] at hih
                    exact hih
            exact loop2 0 (Nat.zero_le _) I1 J1 hb hz1
          · show AW X 0 0 67 [some (.ref 44), some (.int (nI (rdN A c mj g k).2.1)), some (.int (nI (rdN A c mj g k).2.2)), some (.int (nI k)), some (.int (nI r)), none] [] T I1 J1 R
            refine aw_aload_n hC dX12_read_67 rfl ?_
            refine aw_getR hC dX12_read_68 aF_X12_83 rfl (tg_44 hT) (pr_44_29 hR) ?_
            refine aw_iload_n hC dX12_read_71 rfl ?_
            refine aw_iconst (v := 0) hC dX12_read_72 (by decide) ?_
            refine aw_iastore_k (j := k) hC dX12_read_73 (tg_69 hT) (nI_clamp (by omega)) (vp_in_nI (by omega) (by decide)) ?_
            refine aw_iinc (v := nI ((rdN A c mj g k).2.1 + 1)) (L2 := [some (.ref 44), some (.int (nI ((rdN A c mj g k).2.1 + 1))), some (.int (nI (rdN A c mj g k).2.2)), some (.int (nI k)), some (.int (nI r)), none]) hC dX12_read_74 rfl (nI_inc _) (by decide) rfl ?_
            refine aw_iconst (v := 0) hC dX12_read_77 (by decide) ?_
            refine aw_istore (L2 := [some (.ref 44), some (.int (nI ((rdN A c mj g k).2.1 + 1))), some (.int (nI (rdN A c mj g k).2.2)), some (.int (nI k)), some (.int (nI r)), some (.int 0)]) hC dX12_read_78 (by decide) rfl ?_
            refine aw_iload hC dX12_read_80 rfl ?_
            refine aw_iconst (v := 3) hC dX12_read_82 (by decide) ?_
            refine aw_icmp_ge (tgt := 168) hC dX12_read_83 (by decide) (fun h13 => absurd h13 (by decide)) (fun _ => ?_)
            show AW X 0 0 86 [some (.ref 44), some (.int (nI ((rdN A c mj g k).2.1 + 1))), some (.int (nI (rdN A c mj g k).2.2)), some (.int (nI k)), some (.int (nI r)), some (.int 0)] [] T (a_u I1 69 k 0) J1 R
            refine aw_aload_n hC dX12_read_86 rfl ?_
            refine aw_getR hC dX12_read_87 aF_X12_83 rfl (tg_44 hT) (pr_44_29 hR) ?_
            refine aw_iload_n hC dX12_read_90 rfl ?_
            refine aw_iaload_k (j := k) hC dX12_read_91 (tg_69 hT) (nI_clamp (by omega)) (vp_in_nI (by omega) (by decide)) ?_
            rw [a_u_self (f := I1) (o := 69) (k := k) (v := 0)]
            refine aw_if_le (tgt := 168) hC dX12_read_92 (by decide) (fun _ => ?_) (fun h14 => absurd h14 (by decide))
            show AW X 0 0 168 [some (.ref 44), some (.int (nI ((rdN A c mj g k).2.1 + 1))), some (.int (nI (rdN A c mj g k).2.2)), some (.int (nI k)), some (.int (nI r)), some (.int 0)] [] T (a_u I1 69 k 0) J1 R
            refine aw_iinc (v := nI (k + 1)) (L2 := [some (.ref 44), some (.int (nI ((rdN A c mj g k).2.1 + 1))), some (.int (nI (rdN A c mj g k).2.2)), some (.int (nI (k + 1))), some (.int (nI r)), some (.int 0)]) hC dX12_read_168 rfl (nI_inc _) (by decide) rfl ?_
            refine aw_goto (tgt := 31) hC dX12_read_171 (by decide) ?_
            refine aw_forget 4 (L2 := [some (.ref 44), some (.int (nI ((rdN A c mj g k).2.1 + 1))), some (.int (nI (rdN A c mj g k).2.2)), some (.int (nI (k + 1))), none, some (.int 0)]) rfl ?_
            refine aw_forget 5 (L2 := [some (.ref 44), some (.int (nI ((rdN A c mj g k).2.1 + 1))), some (.int (nI (rdN A c mj g k).2.2)), some (.int (nI (k + 1))), none, none]) rfl ?_
            rw [rdX_1 hr (by rw [← e68]; assumption)] at hk1
            have hih := ih (by omega) (a_u I1 69 k 0) J1 (by rw [hk1]; exact a_u_bf hb) hz1
            rw [hk1] at hih
            exact hih
    exact loop 0 (Nat.zero_le _) A J (BaseF.refl A) hZ
  · show AW X 0 0 8 [some (.ref 44), none, none, none, none, none] [.ref 44] T I J R
    exact absurd hun (by first | assumption | exact Int32.not_lt.mpr (by assumption))
set_option maxRecDepth 100000 in
theorem m_X12_readF {T : List aT} {I : aI} {J : aJ} {R : aR} (hT : aPT T) (hR : aPR R) (hun : 0 ≤ I 44 45) : MX12_read 0 0 [.ref 44] T I J R (aPure (some (.int (0))) T (a_u I 44 61 1) J R) := by
  refine a_met (by decide +kernel) a_le (fun X hC hq => ?_)
  show AW X 0 0 0 [some (.ref 44), none, none, none, none, none] [] T I J R
  refine aw_aload_n hC dX12_read_0 rfl ?_
  refine aw_aload_n hC dX12_read_1 rfl ?_
  refine aw_getI hC dX12_read_2 aF_X12_123 rfl (tg_44 hT) ?_
  refine aw_if_lt (tgt := 12) hC dX12_read_5 (by decide) (fun h1 => ?_) (fun h1 => ?_)
  · show AW X 0 0 12 [some (.ref 44), none, none, none, none, none] [.ref 44] T I J R
    exact absurd hun (Int32.not_le.mpr (by assumption))
  · show AW X 0 0 8 [some (.ref 44), none, none, none, none, none] [.ref 44] T I J R
    refine aw_iconst (v := 1) hC dX12_read_8 (by decide) ?_
    refine aw_goto (tgt := 13) hC dX12_read_9 (by decide) ?_
    refine aw_putI hC dX12_read_13 aF_X12_166 rfl rfl (tg_44 hT) ?_
    refine aw_aload_n hC dX12_read_16 rfl ?_
    refine aw_getI hC dX12_read_17 aF_X12_166 rfl (tg_44 hT) ?_
    rw [a_u_self (f := I) (o := 44) (k := 61) (v := 1)]
    refine aw_if_le (tgt := 25) hC dX12_read_20 (by decide) (fun h2 => absurd h2 (by decide)) (fun _ => ?_)
    show AW X 0 0 23 [some (.ref 44), none, none, none, none, none] [] T (a_u I 44 61 1) J R
    refine aw_iconst (v := 0) hC dX12_read_23 (by decide) ?_
    exact aw_ireturn hC hq rfl dX12_read_24 a_le a_le (aPure_e (by clear hC hq; (try simp only [bI_e0, bI_n0, decide_eq_false_iff_not, decide_eq_true_eq, Classical.not_not] at *) <;> first | grind [nI_p1, a_u_2] | (exfalso; (simp only [i_le, i_lt, i_eq, Int32.reduceToInt] at *); omega)) (by clear hC hq; (try simp only [bI_e0, bI_n0, decide_eq_false_iff_not, decide_eq_true_eq, Classical.not_not] at *) <;> first | grind [nI_p1, a_u_2] | (exfalso; (simp only [i_le, i_lt, i_eq, Int32.reduceToInt] at *); omega)) rfl rfl)
