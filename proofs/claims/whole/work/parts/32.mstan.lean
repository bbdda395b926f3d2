theorem SolR.gok {I I2 : aI} {n : Nat} {P S : Nat → Int64} (h : SolR I I2 n P S) (g : SW I n) : GOK I2 n := by
  obtain ⟨I3, h1, h2, -⟩ := h
  have q := LaysR.gok h1 g
  intro s hs
  rw [h2, a_u_row (show 85 ≠ 44 by decide), a_u_row (show 46 ≠ 44 by decide), a_u_row (show 85 ≠ 44 by decide), a_u_row (show 46 ≠ 44 by decide)]
  exact q s hs
theorem SolR.fr {I I2 : aI} {n : Nat} {P S : Nat → Int64} (h : SolR I I2 n P S) : ∀ o, o ≠ 44 ∧ o ≠ 83 ∧ o ≠ 84 ∧ o ≠ 85 ∧ o ≠ 86 → I2 o = I o := by
  obtain ⟨I3, h1, h2, -⟩ := h
  intro o ho
  rw [h2, a_u_row ho.1, a_u_row ho.1]; exact LaysR.fr h1 o ho.2
abbrev sStand (I : aI) (J : aJ) (s : Nat) : Int32 := if I 84 s = 0 then -1 else if 0 < I 86 s then I 86 s else if I 45 s < 7 ∧ ¬ mHolds I J s then 10 else 0
theorem SolP.gok {I I2 : aI} {J J2 : aJ} {n : Nat} (h : SolP I I2 J J2 n) (g : SW I n) : GOK I2 n := by
  obtain ⟨K, P, S, -, h2⟩ := h; exact SolR.gok h2 g
theorem SolP.fr {I I2 : aI} {J J2 : aJ} {n : Nat} (h : SolP I I2 J J2 n) : ∀ o, o ≠ 44 ∧ o ≠ 83 ∧ o ≠ 84 ∧ o ≠ 85 ∧ o ≠ 86 → I2 o = I o := by
  obtain ⟨K, P, S, -, h2⟩ := h; exact SolR.fr h2
set_option maxRecDepth 100000 in
theorem m_X12_standingT {T : List aT} {I : aI} {J : aJ} {R : aR} (hT : aPT T) (hR : aPR R) {n : Nat} (hS : SW I n) (hZ : Zr J) {s : Nat} (hs : s < n) : MX12_standing 0 0 [.ref 44, .int (nI s)] T I J R (aRel (fun I2 J3 => some (.int (sStand I2 J3 s))) (fun I2 J3 => ∃ J2, SolP (a_u I 44 61 0) I2 J J2 n ∧ J3 = a_fill J2 88 10 (J2 89)) T R) := by
  refine a_met (by decide +kernel) a_le (fun X hC hq => ?_)
  show AW X 0 0 0 [some (.ref 44), some (.int (nI s))] [] T I J R
  have hn9 := hS.n30
  refine aw_aload_n hC dX12_standing_0 rfl ?_
  refine aw_iload_n hC dX12_standing_1 rfl ?_
  refine aw_iconst (v := 0) hC dX12_standing_2 (by decide) ?_
  refine aw_aload_n hC dX12_standing_3 rfl ?_
  refine aw_getI hC dX12_standing_4 aF_X12_183 rfl (tg_44 hT) ?_
  rw [hS.cnt]
  refine aw_iconst (v := 1) hC dX12_standing_7 (by decide) ?_
  refine aw_isub hC dX12_standing_8 ?_
  rw [show (nI n) - 1 = nI (n - 1) from pk_sub (a := n) (b := 1) (by omega)]
  refine kX12_169 hC rfl (m_X12_isIn (nI s) (0 : Int32) (nI (n - 1))) dX12_standing_9 rfl a_le a_le a_le a_le a_le rfl aPure_x (aPure_k ?_)
  show AW X 0 0 12 [some (.ref 44), some (.int (nI s))] [.int (bI (decide ((0 : Int32) ≤ (nI s) ∧ (nI s) ≤ (nI (n - 1))))), .ref 44] T I J R
  rw [show bI (decide ((0 : Int32) ≤ (nI s) ∧ (nI s) ≤ (nI (n - 1)))) = 1 from bI_one ⟨nI_pos' (by omega), nI_le (by omega) (by omega)⟩]
  refine aw_if_eq (tgt := 19) hC dX12_standing_12 (by decide) (fun h1 => absurd h1 (by decide)) (fun _ => ?_)
  show AW X 0 0 15 [some (.ref 44), some (.int (nI s))] [.ref 44] T I J R
  refine aw_iconst (v := 0) hC dX12_standing_15 (by decide) ?_
  refine aw_goto (tgt := 20) hC dX12_standing_16 (by decide) ?_
  refine aw_putI hC dX12_standing_20 aF_X12_166 rfl rfl (tg_44 hT) ?_
  refine aw_aload_n hC dX12_standing_23 rfl ?_
  refine aw_getI hC dX12_standing_24 aF_X12_166 rfl (tg_44 hT) ?_
  rw [a_u_self (f := I) (o := 44) (k := 61) (v := 0)]
  refine aw_if_le (tgt := 32) hC dX12_standing_27 (by decide) (fun _ => ?_) (fun h2 => absurd h2 (by decide))
  show AW X 0 0 32 [some (.ref 44), some (.int (nI s))] [] T (a_u I 44 61 0) J R
  refine aw_aload_n hC dX12_standing_32 rfl ?_
  refine kX12_276 hC rfl (m_X12_solves (I := a_u I 44 61 0) (J := J) (n := n) hT hR (by first | exact hS | exact hS.th) hZ) dX12_standing_33 (tg_44 hT) rfl a_le a_le a_le a_le a_le rfl aRel_x (aRel_k (fun I2 J2 hQ => ?_))
  have hSol : SolP _ _ _ _ _ := hQ
  have hg2 := SolP.gok hSol (by first | exact hS | exact hS.th)
  show AW X 0 0 36 [some (.ref 44), some (.int (nI s))] [] T I2 J2 R
  refine aw_aload_n hC dX12_standing_36 rfl ?_
  refine kX12_279 hC rfl (m_X12_plains hT hR) dX12_standing_37 (tg_44 hT) rfl a_le a_le a_le a_le a_le rfl aPure_x (aPure_k ?_)
  show AW X 0 0 40 [some (.ref 44), some (.int (nI s))] [] T I2 (a_fill J2 88 10 (J2 89)) R
  refine aw_aload_n hC dX12_standing_40 rfl ?_
  refine aw_getR hC dX12_standing_41 aF_X12_135 rfl (tg_44 hT) (pr_44_49 hR) ?_
  refine aw_iload_n hC dX12_standing_44 rfl ?_
  refine aw_baload_k (j := s) hC dX12_standing_45 (tg_84 hT) (nI_clamp (by omega)) (vp_in_nI (by omega) (by decide)) ?_
  refine aw_if_ne (tgt := 53) hC dX12_standing_46 (by decide) (fun h3 => ?_) (fun h3 => ?_)
  · show AW X 0 0 53 [some (.ref 44), some (.int (nI s))] [] T I2 (a_fill J2 88 10 (J2 89)) R
    refine aw_aload_n hC dX12_standing_53 rfl ?_
    refine aw_getR hC dX12_standing_54 aF_X12_141 rfl (tg_44 hT) (pr_44_51 hR) ?_
    refine aw_iload_n hC dX12_standing_57 rfl ?_
    refine aw_iaload_k (j := s) hC dX12_standing_58 (tg_86 hT) (nI_clamp (by omega)) (vp_in_nI (by omega) (by decide)) ?_
    refine aw_if_le (tgt := 71) hC dX12_standing_59 (by decide) (fun h4 => ?_) (fun h4 => ?_)
    · show AW X 0 0 71 [some (.ref 44), some (.int (nI s))] [] T I2 (a_fill J2 88 10 (J2 89)) R
      refine aw_aload_n hC dX12_standing_71 rfl ?_
      refine aw_getR hC dX12_standing_72 aF_X12_7 rfl (tg_44 hT) (pr_44_1 hR) ?_
      refine aw_iload_n hC dX12_standing_75 rfl ?_
      refine aw_iaload_k (j := s) hC dX12_standing_76 (tg_45 hT) (nI_clamp (by omega)) (vp_in_nI (by omega) (by decide)) ?_
      refine aw_bipush (v := 7) hC dX12_standing_77 (by decide) ?_
      refine aw_icmp_ge (tgt := 95) hC dX12_standing_79 (by decide) (fun h5 => ?_) (fun h5 => ?_)
      · show AW X 0 0 95 [some (.ref 44), some (.int (nI s))] [] T I2 (a_fill J2 88 10 (J2 89)) R
        refine aw_iconst (v := 0) hC dX12_standing_95 (by decide) ?_
        exact aw_ireturn hC hq rfl dX12_standing_96 a_le a_le ⟨by clear hC hq; (try simp only [bI_e0, bI_n0, decide_eq_false_iff_not, decide_eq_true_eq, Classical.not_not] at *); grind, rfl, rfl, _, hSol, rfl⟩
      · show AW X 0 0 82 [some (.ref 44), some (.int (nI s))] [] T I2 (a_fill J2 88 10 (J2 89)) R
        refine aw_aload_n hC dX12_standing_82 rfl ?_
        refine aw_iload_n hC dX12_standing_83 rfl ?_
        refine kX12_228 hC rfl (m_X12_holds (I := I2) (J := a_fill J2 88 10 (J2 89)) hT hR (s := s) (by omega) (hg2 _ (by omega))) dX12_standing_84 (tg_44 hT) rfl a_le a_le a_le a_le a_le rfl aPure_x (aPure_k ?_)
        show AW X 0 0 87 [some (.ref 44), some (.int (nI s))] [.int (bI (decide (mHolds I2 (a_fill J2 88 10 (J2 89)) s)))] T I2 (a_fill J2 88 10 (J2 89)) R
        refine aw_if_ne (tgt := 95) hC dX12_standing_87 (by decide) (fun h6 => ?_) (fun h6 => ?_)
        · show AW X 0 0 95 [some (.ref 44), some (.int (nI s))] [] T I2 (a_fill J2 88 10 (J2 89)) R
          refine aw_iconst (v := 0) hC dX12_standing_95 (by decide) ?_
          exact aw_ireturn hC hq rfl dX12_standing_96 a_le a_le ⟨by clear hC hq; (try simp only [bI_e0, bI_n0, decide_eq_false_iff_not, decide_eq_true_eq, Classical.not_not] at *); grind, rfl, rfl, _, hSol, rfl⟩
        · show AW X 0 0 90 [some (.ref 44), some (.int (nI s))] [] T I2 (a_fill J2 88 10 (J2 89)) R
          refine aw_bipush (v := 10) hC dX12_standing_90 (by decide) ?_
          refine aw_goto (tgt := 96) hC dX12_standing_92 (by decide) ?_
          exact aw_ireturn hC hq rfl dX12_standing_96 a_le a_le ⟨by clear hC hq; (try simp only [bI_e0, bI_n0, decide_eq_false_iff_not, decide_eq_true_eq, Classical.not_not] at *); grind, rfl, rfl, _, hSol, rfl⟩
    · show AW X 0 0 62 [some (.ref 44), some (.int (nI s))] [] T I2 (a_fill J2 88 10 (J2 89)) R
      refine aw_aload_n hC dX12_standing_62 rfl ?_
      refine aw_getR hC dX12_standing_63 aF_X12_141 rfl (tg_44 hT) (pr_44_51 hR) ?_
      refine aw_iload_n hC dX12_standing_66 rfl ?_
      refine aw_iaload_k (j := s) hC dX12_standing_67 (tg_86 hT) (nI_clamp (by omega)) (vp_in_nI (by omega) (by decide)) ?_
      refine aw_goto (tgt := 96) hC dX12_standing_68 (by decide) ?_
      exact aw_ireturn hC hq rfl dX12_standing_96 a_le a_le ⟨by clear hC hq; (try simp only [bI_e0, bI_n0, decide_eq_false_iff_not, decide_eq_true_eq, Classical.not_not] at *); grind, rfl, rfl, _, hSol, rfl⟩
  · show AW X 0 0 49 [some (.ref 44), some (.int (nI s))] [] T I2 (a_fill J2 88 10 (J2 89)) R
    refine aw_iconst (v := (-1)) hC dX12_standing_49 (by decide) ?_
    refine aw_goto (tgt := 96) hC dX12_standing_50 (by decide) ?_
    exact aw_ireturn hC hq rfl dX12_standing_96 a_le a_le ⟨by clear hC hq; (try simp only [bI_e0, bI_n0, decide_eq_false_iff_not, decide_eq_true_eq, Classical.not_not] at *); grind, rfl, rfl, _, hSol, rfl⟩
set_option maxRecDepth 100000 in
theorem m_X12_standingF {T : List aT} {I : aI} {J : aJ} {R : aR} (hT : aPT T) (hR : aPR R) {n : Nat} (hn : I 44 0 = nI n) (x : Int32) (hx : ¬ (0 ≤ x ∧ x ≤ nI n - 1)) : MX12_standing 0 0 [.ref 44, .int x] T I J R (aPure (some (.int (0))) T (a_u I 44 61 1) J R) := by
  refine a_met (by decide +kernel) a_le (fun X hC hq => ?_)
  show AW X 0 0 0 [some (.ref 44), some (.int x)] [] T I J R
  refine aw_aload_n hC dX12_standing_0 rfl ?_
  refine aw_iload_n hC dX12_standing_1 rfl ?_
  refine aw_iconst (v := 0) hC dX12_standing_2 (by decide) ?_
  refine aw_aload_n hC dX12_standing_3 rfl ?_
  refine aw_getI hC dX12_standing_4 aF_X12_183 rfl (tg_44 hT) ?_
  rw [hn]
  refine aw_iconst (v := 1) hC dX12_standing_7 (by decide) ?_
  refine aw_isub hC dX12_standing_8 ?_
  refine kX12_169 hC rfl (m_X12_isIn x (0 : Int32) ((nI n) - 1)) dX12_standing_9 rfl a_le a_le a_le a_le a_le rfl aPure_x (aPure_k ?_)
  show AW X 0 0 12 [some (.ref 44), some (.int x)] [.int (bI (decide ((0 : Int32) ≤ x ∧ x ≤ ((nI n) - 1)))), .ref 44] T I J R
  rw [show bI (decide ((0 : Int32) ≤ x ∧ x ≤ ((nI n) - 1))) = 0 from bI_zero hx]
  refine aw_if_eq (tgt := 19) hC dX12_standing_12 (by decide) (fun _ => ?_) (fun h1 => absurd h1 (by decide))
  show AW X 0 0 19 [some (.ref 44), some (.int x)] [.ref 44] T I J R
  refine aw_iconst (v := 1) hC dX12_standing_19 (by decide) ?_
  refine aw_putI hC dX12_standing_20 aF_X12_166 rfl rfl (tg_44 hT) ?_
  refine aw_aload_n hC dX12_standing_23 rfl ?_
  refine aw_getI hC dX12_standing_24 aF_X12_166 rfl (tg_44 hT) ?_
  rw [a_u_self (f := I) (o := 44) (k := 61) (v := 1)]
  refine aw_if_le (tgt := 32) hC dX12_standing_27 (by decide) (fun h2 => absurd h2 (by decide)) (fun _ => ?_)
  show AW X 0 0 30 [some (.ref 44), some (.int x)] [] T (a_u I 44 61 1) J R
  refine aw_iconst (v := 0) hC dX12_standing_30 (by decide) ?_
  exact aw_ireturn hC hq rfl dX12_standing_31 a_le a_le (aPure_e (by clear hC hq; (try simp only [bI_e0, bI_n0, decide_eq_false_iff_not, decide_eq_true_eq, Classical.not_not] at *) <;> first | grind [nI_p1, a_u_2] | (exfalso; (simp only [i_le, i_lt, i_eq, Int32.reduceToInt] at *); omega)) (by clear hC hq; (try simp only [bI_e0, bI_n0, decide_eq_false_iff_not, decide_eq_true_eq, Classical.not_not] at *) <;> first | grind [nI_p1, a_u_2] | (exfalso; (simp only [i_le, i_lt, i_eq, Int32.reduceToInt] at *); omega)) rfl rfl)
set_option maxRecDepth 100000 in
theorem m_X12_proofF {T : List aT} {I : aI} {J : aJ} {R : aR} (hT : aPT T) (hR : aPR R) {n : Nat} (hn : I 44 14 = nI n) (x : Int32) (hx : ¬ (0 ≤ x ∧ x ≤ nI n - 1)) : MX12_proof 0 0 [.ref 44, .int x] T I J R (aPure (some (.int (0))) T (a_u I 44 61 1) J R) := by
  refine a_met (by decide +kernel) a_le (fun X hC hq => ?_)
  show AW X 0 0 0 [some (.ref 44), some (.int x), none, none, none, none] [] T I J R
  refine aw_aload_n hC dX12_proof_0 rfl ?_
  refine aw_iload_n hC dX12_proof_1 rfl ?_
  refine aw_iconst (v := 0) hC dX12_proof_2 (by decide) ?_
  refine aw_aload_n hC dX12_proof_3 rfl ?_
  refine aw_getI hC dX12_proof_4 aF_X12_298 rfl (tg_44 hT) ?_
  rw [hn]
  refine aw_iconst (v := 1) hC dX12_proof_7 (by decide) ?_
  refine aw_isub hC dX12_proof_8 ?_
  refine kX12_169 hC rfl (m_X12_isIn x (0 : Int32) ((nI n) - 1)) dX12_proof_9 rfl a_le a_le a_le a_le a_le rfl aPure_x (aPure_k ?_)
  show AW X 0 0 12 [some (.ref 44), some (.int x), none, none, none, none] [.int (bI (decide ((0 : Int32) ≤ x ∧ x ≤ ((nI n) - 1)))), .ref 44] T I J R
  rw [show bI (decide ((0 : Int32) ≤ x ∧ x ≤ ((nI n) - 1))) = 0 from bI_zero hx]
  refine aw_if_eq (tgt := 19) hC dX12_proof_12 (by decide) (fun _ => ?_) (fun h1 => absurd h1 (by decide))
  show AW X 0 0 19 [some (.ref 44), some (.int x), none, none, none, none] [.ref 44] T I J R
  refine aw_iconst (v := 1) hC dX12_proof_19 (by decide) ?_
  refine aw_putI hC dX12_proof_20 aF_X12_166 rfl rfl (tg_44 hT) ?_
  refine aw_aload_n hC dX12_proof_23 rfl ?_
  refine aw_getI hC dX12_proof_24 aF_X12_166 rfl (tg_44 hT) ?_
  rw [a_u_self (f := I) (o := 44) (k := 61) (v := 1)]
  refine aw_if_le (tgt := 32) hC dX12_proof_27 (by decide) (fun h2 => absurd h2 (by decide)) (fun _ => ?_)
  show AW X 0 0 30 [some (.ref 44), some (.int x), none, none, none, none] [] T (a_u I 44 61 1) J R
  refine aw_iconst (v := 0) hC dX12_proof_30 (by decide) ?_
  exact aw_ireturn hC hq rfl dX12_proof_31 a_le a_le (aPure_e (by clear hC hq; (try simp only [bI_e0, bI_n0, decide_eq_false_iff_not, decide_eq_true_eq, Classical.not_not] at *) <;> first | grind [nI_p1, a_u_2] | (exfalso; (simp only [i_le, i_lt, i_eq, Int32.reduceToInt] at *); omega)) (by clear hC hq; (try simp only [bI_e0, bI_n0, decide_eq_false_iff_not, decide_eq_true_eq, Classical.not_not] at *) <;> first | grind [nI_p1, a_u_2] | (exfalso; (simp only [i_le, i_lt, i_eq, Int32.reduceToInt] at *); omega)) rfl rfl)
set_option maxRecDepth 100000 in
theorem m_X12_isKept {T : List aT} {I : aI} {J : aJ} {R : aR} (hT : aPT T) (hR : aPR R) (hk : NR I 63 4 9) {m : Nat} (hm : m < 64) : MX12_isKept 0 0 [.ref 44, .int (nI m)] T I J R (aPure (some (.int (bI (anyB (fun j => decide (I 64 (8 * (m / 16) + j) = nI (m % 16))) (iN I 63 (m / 16)))))) T I J R) := by
  refine a_met (by decide +kernel) a_le (fun X hC hq => ?_)
  show AW X 0 0 0 [some (.ref 44), some (.int (nI m))] [] T I J R
  refine aw_aload_n hC dX12_isKept_0 rfl ?_
  refine aw_iload_n hC dX12_isKept_1 rfl ?_
  refine aw_bipush (v := 16) hC dX12_isKept_2 (by decide) ?_
  refine aw_idiv hC dX12_isKept_4 (by decide) ?_
  rw [show (nI m) / 16 = nI (m / 16) from pk_div (a := m) (d := 16) (by omega) (by decide) (by decide)]
  refine aw_iload_n hC dX12_isKept_5 rfl ?_
  refine aw_bipush (v := 16) hC dX12_isKept_6 (by decide) ?_
  refine aw_irem hC dX12_isKept_8 (by decide) ?_
  rw [show (nI m) - (nI m) / 16 * 16 = nI (m % 16) from pk_rem (a := m) (d := 16) (by omega) (by decide) (by decide)]
  refine kX12_327 hC rfl (m_X12_hasKey hT hR (g := (m / 16)) (by omega) hk (nI (m % 16))) dX12_isKept_9 (tg_44 hT) rfl a_le a_le a_le a_le a_le rfl aPure_x (aPure_k ?_)
  show AW X 0 0 12 [some (.ref 44), some (.int (nI m))] [.int (bI (anyB (fun j => decide (I 64 (8 * (m / 16) + j) = (nI (m % 16)))) (iN I 63 (m / 16))))] T I J R
  exact aw_zreturn hC hq rfl (bI_01 _) dX12_isKept_12 a_le a_le (aPure_i (by rfl))
abbrev sProof (I : aI) (x : Int64) (p : Nat) : Int32 := if x = 0 then -2 else if x &&& (sRng (iN I 57 (3 * p + 1)) (nI (iN I 57 (3 * p + 2))) ^^^ (-1)) = 0 then -1 else nI (sLeast (x &&& (sRng (iN I 57 (3 * p + 1)) (nI (iN I 57 (3 * p + 2))) ^^^ (-1))))
set_option maxRecDepth 100000 in
theorem m_X12_proofT {T : List aT} {I : aI} {J : aJ} {R : aR} (hT : aPT T) (hR : aPR R) {n : Nat} (hS : SW I n) (hZ : Zr J) {m p : Nat} (hm : I 44 14 = nI m) (hm8 : m ≤ 8) (hp : p < m) (hpl : NR I 57 24 64) (hp10 : iN I 57 (3 * p) < 10) : MX12_proof 0 0 [.ref 44, .int (nI p)] T I J R (aRel (fun I2 J2 => some (.int (sProof I (J2 89 (iN I 57 (3 * p))) p))) (fun I2 J2 => SolP (a_u I 44 61 0) I2 J J2 n) T R) := by
  refine a_met (by decide +kernel) a_le (fun X hC hq => ?_)
  show AW X 0 0 0 [some (.ref 44), some (.int (nI p)), none, none, none, none] [] T I J R
  have hq0 := hpl (3 * p) (by omega)
  have hq1 := hpl (3 * p + 1) (by omega)
  have hq2 := hpl (3 * p + 2) (by omega)
  refine aw_aload_n hC dX12_proof_0 rfl ?_
  refine aw_iload_n hC dX12_proof_1 rfl ?_
  refine aw_iconst (v := 0) hC dX12_proof_2 (by decide) ?_
  refine aw_aload_n hC dX12_proof_3 rfl ?_
  refine aw_getI hC dX12_proof_4 aF_X12_298 rfl (tg_44 hT) ?_
  rw [hm]
  refine aw_iconst (v := 1) hC dX12_proof_7 (by decide) ?_
  refine aw_isub hC dX12_proof_8 ?_
  rw [show (nI m) - 1 = nI (m - 1) from pk_sub (a := m) (b := 1) (by omega)]
  refine kX12_169 hC rfl (m_X12_isIn (nI p) (0 : Int32) (nI (m - 1))) dX12_proof_9 rfl a_le a_le a_le a_le a_le rfl aPure_x (aPure_k ?_)
  show AW X 0 0 12 [some (.ref 44), some (.int (nI p)), none, none, none, none] [.int (bI (decide ((0 : Int32) ≤ (nI p) ∧ (nI p) ≤ (nI (m - 1))))), .ref 44] T I J R
  rw [show bI (decide ((0 : Int32) ≤ (nI p) ∧ (nI p) ≤ (nI (m - 1)))) = 1 from bI_one ⟨nI_pos' (by omega), nI_le (by omega) (by omega)⟩]
  refine aw_if_eq (tgt := 19) hC dX12_proof_12 (by decide) (fun h1 => absurd h1 (by decide)) (fun _ => ?_)
  show AW X 0 0 15 [some (.ref 44), some (.int (nI p)), none, none, none, none] [.ref 44] T I J R
  refine aw_iconst (v := 0) hC dX12_proof_15 (by decide) ?_
  refine aw_goto (tgt := 20) hC dX12_proof_16 (by decide) ?_
  refine aw_putI hC dX12_proof_20 aF_X12_166 rfl rfl (tg_44 hT) ?_
  refine aw_aload_n hC dX12_proof_23 rfl ?_
  refine aw_getI hC dX12_proof_24 aF_X12_166 rfl (tg_44 hT) ?_
  rw [a_u_self (f := I) (o := 44) (k := 61) (v := 0)]
  refine aw_if_le (tgt := 32) hC dX12_proof_27 (by decide) (fun _ => ?_) (fun h2 => absurd h2 (by decide))
  show AW X 0 0 32 [some (.ref 44), some (.int (nI p)), none, none, none, none] [] T (a_u I 44 61 0) J R
  refine aw_aload_n hC dX12_proof_32 rfl ?_
  refine kX12_276 hC rfl (m_X12_solves (I := a_u I 44 61 0) (J := J) (n := n) hT hR (by first | exact hS | exact hS.th) hZ) dX12_proof_33 (tg_44 hT) rfl a_le a_le a_le a_le a_le rfl aRel_x (aRel_k (fun I2 J2 hQ => ?_))
  have hSol : SolP _ _ _ _ _ := hQ
  have hf2 : ∀ o, o ≠ 44 ∧ o ≠ 83 ∧ o ≠ 84 ∧ o ≠ 85 ∧ o ≠ 86 → I2 o = I o := fun o ho => (SolP.fr hSol o ho).trans (a_u_row ho.1)
  show AW X 0 0 36 [some (.ref 44), some (.int (nI p)), none, none, none, none] [] T I2 J2 R
  refine aw_aload_n hC dX12_proof_36 rfl ?_
  refine aw_getR hC dX12_proof_37 aF_X12_151 rfl (tg_44 hT) (pr_44_55 hR) ?_
  refine aw_aload_n hC dX12_proof_40 rfl ?_
  refine aw_getR hC dX12_proof_41 aF_X12_47 rfl (tg_44 hT) (pr_44_15 hR) ?_
  refine aw_iconst (v := 3) hC dX12_proof_44 (by decide) ?_
  refine aw_iload_n hC dX12_proof_45 rfl ?_
  refine aw_imul hC dX12_proof_46 ?_
  rw [show 3 * (nI p) = nI (3 * p) from pk_mul 3 p]
  refine aw_iaload_k (j := (3 * p)) hC dX12_proof_47 (tg_57 hT) (nI_clamp (by omega)) (vp_in_nI (by omega) (by decide)) ?_
  rw [hf2 57 (by decide)]
  have hb3 := hpl (3 * p) (by omega)
  rw [hb3.1]
  refine aw_laload_k (j := (iN I 57 (3 * p))) hC dX12_proof_48 (tg_89 hT) (nI_clamp (by omega)) (vp_in_nI (by omega) (by decide)) ?_
  refine aw_lstore_n (L2 := [some (.ref 44), some (.int (nI p)), some (.long (J2 89 (iN I 57 (3 * p)))), none, none, none]) hC dX12_proof_49 rfl (by decide) rfl ?_
  refine aw_lload_n hC dX12_proof_50 rfl ?_
  refine aw_lconst (v := 0) hC dX12_proof_51 (by decide) ?_
  refine aw_lcmp hC dX12_proof_52 ?_
  refine aw_if_ne (tgt := 59) hC dX12_proof_53 (by decide) (fun h4 => ?_) (fun h4 => ?_)
  · show AW X 0 0 59 [some (.ref 44), some (.int (nI p)), some (.long (J2 89 (iN I 57 (3 * p)))), none, none, none] [] T I2 J2 R
    refine aw_lload_n hC dX12_proof_59 rfl ?_
    refine aw_aload_n hC dX12_proof_60 rfl ?_
    refine aw_getR hC dX12_proof_61 aF_X12_47 rfl (tg_44 hT) (pr_44_15 hR) ?_
    refine aw_iconst (v := 3) hC dX12_proof_64 (by decide) ?_
    refine aw_iload_n hC dX12_proof_65 rfl ?_
    refine aw_imul hC dX12_proof_66 ?_
    rw [show 3 * (nI p) = nI (3 * p) from pk_mul 3 p]
    refine aw_iconst (v := 1) hC dX12_proof_67 (by decide) ?_
    refine aw_iadd hC dX12_proof_68 ?_
    rw [show (nI (3 * p)) + 1 = nI ((3 * p) + 1) from nI_add (3 * p) 1]
    refine aw_iaload_k (j := ((3 * p) + 1)) hC dX12_proof_69 (tg_57 hT) (nI_clamp (by omega)) (vp_in_nI (by omega) (by decide)) ?_
    rw [hf2 57 (by decide)]
    have hb5 := hpl ((3 * p) + 1) (by omega)
    rw [hb5.1]
    refine aw_aload_n hC dX12_proof_70 rfl ?_
    refine aw_getR hC dX12_proof_71 aF_X12_47 rfl (tg_44 hT) (pr_44_15 hR) ?_
    refine aw_iconst (v := 3) hC dX12_proof_74 (by decide) ?_
    refine aw_iload_n hC dX12_proof_75 rfl ?_
    refine aw_imul hC dX12_proof_76 ?_
    rw [show 3 * (nI p) = nI (3 * p) from pk_mul 3 p]
    refine aw_iconst (v := 2) hC dX12_proof_77 (by decide) ?_
    refine aw_iadd hC dX12_proof_78 ?_
    rw [show (nI (3 * p)) + 2 = nI ((3 * p) + 2) from nI_add (3 * p) 2]
    refine aw_iaload_k (j := ((3 * p) + 2)) hC dX12_proof_79 (tg_57 hT) (nI_clamp (by omega)) (vp_in_nI (by omega) (by decide)) ?_
    rw [hf2 57 (by decide)]
    have hb6 := hpl ((3 * p) + 2) (by omega)
    rw [hb6.1]
    refine kX12_235 hC rfl (m_X12_range (lo := (iN I 57 ((3 * p) + 1))) (by omega) (nI (iN I 57 ((3 * p) + 2))) (by rw [nI_toInt (by omega)]; omega)) dX12_proof_80 rfl a_le a_le a_le a_le a_le rfl aPure_x (aPure_k ?_)
    show AW X 0 0 83 [some (.ref 44), some (.int (nI p)), some (.long (J2 89 (iN I 57 (3 * p)))), none, none, none] [.long (sRng (iN I 57 ((3 * p) + 1)) (nI (iN I 57 ((3 * p) + 2)))), .long (J2 89 (iN I 57 (3 * p)))] T I2 J2 R
    refine aw_ldc2 (v := (-1)) hC dX12_proof_83 gK_X12_222 ?_
    refine aw_lxor hC dX12_proof_86 ?_
    refine aw_land hC dX12_proof_87 ?_
    refine aw_lstore (L2 := [some (.ref 44), some (.int (nI p)), some (.long (J2 89 (iN I 57 (3 * p)))), none, some (.long ((J2 89 (iN I 57 (3 * p))) &&& ((sRng (iN I 57 ((3 * p) + 1)) (nI (iN I 57 ((3 * p) + 2)))) ^^^ (-1)))), none]) hC dX12_proof_88 (by decide) rfl ?_
    refine aw_lload hC dX12_proof_90 rfl ?_
    refine aw_lconst (v := 0) hC dX12_proof_92 (by decide) ?_
    refine aw_lcmp hC dX12_proof_93 ?_
    refine aw_if_ne (tgt := 101) hC dX12_proof_94 (by decide) (fun h7 => ?_) (fun h7 => ?_)
    · show AW X 0 0 101 [some (.ref 44), some (.int (nI p)), some (.long (J2 89 (iN I 57 (3 * p)))), none, some (.long ((J2 89 (iN I 57 (3 * p))) &&& ((sRng (iN I 57 ((3 * p) + 1)) (nI (iN I 57 ((3 * p) + 2)))) ^^^ (-1)))), none] [] T I2 J2 R
      refine aw_lload hC dX12_proof_101 rfl ?_
      refine kX12_247 hC rfl (m_X12_least ((J2 89 (iN I 57 (3 * p))) &&& ((sRng (iN I 57 ((3 * p) + 1)) (nI (iN I 57 ((3 * p) + 2)))) ^^^ (-1)))) dX12_proof_103 rfl a_le a_le a_le a_le a_le rfl aPure_x (aPure_k ?_)
      show AW X 0 0 106 [some (.ref 44), some (.int (nI p)), some (.long (J2 89 (iN I 57 (3 * p)))), none, some (.long ((J2 89 (iN I 57 (3 * p))) &&& ((sRng (iN I 57 ((3 * p) + 1)) (nI (iN I 57 ((3 * p) + 2)))) ^^^ (-1)))), none] [.int (nI (sLeast ((J2 89 (iN I 57 (3 * p))) &&& ((sRng (iN I 57 ((3 * p) + 1)) (nI (iN I 57 ((3 * p) + 2)))) ^^^ (-1)))))] T I2 J2 R
      exact aw_ireturn hC hq rfl dX12_proof_106 a_le a_le ⟨by have hl := lgc0 (J2 89 (iN I 57 (3 * p))) 0; have hl2 := lgc0 (J2 89 (iN I 57 (3 * p)) &&& (sRng (iN I 57 (3 * p + 1)) (nI (iN I 57 (3 * p + 2))) ^^^ (-1))) 0; clear hC hq; (try simp only [bI_e0, bI_n0, decide_eq_false_iff_not, decide_eq_true_eq, Classical.not_not] at *); grind, rfl, rfl, hSol⟩
    · show AW X 0 0 97 [some (.ref 44), some (.int (nI p)), some (.long (J2 89 (iN I 57 (3 * p)))), none, some (.long ((J2 89 (iN I 57 (3 * p))) &&& ((sRng (iN I 57 ((3 * p) + 1)) (nI (iN I 57 ((3 * p) + 2)))) ^^^ (-1)))), none] [] T I2 J2 R
      refine aw_iconst (v := (-1)) hC dX12_proof_97 (by decide) ?_
      refine aw_goto (tgt := 106) hC dX12_proof_98 (by decide) ?_
      exact aw_ireturn hC hq rfl dX12_proof_106 a_le a_le ⟨by have hl := lgc0 (J2 89 (iN I 57 (3 * p))) 0; have hl2 := lgc0 (J2 89 (iN I 57 (3 * p)) &&& (sRng (iN I 57 (3 * p + 1)) (nI (iN I 57 (3 * p + 2))) ^^^ (-1))) 0; clear hC hq; (try simp only [bI_e0, bI_n0, decide_eq_false_iff_not, decide_eq_true_eq, Classical.not_not] at *); grind, rfl, rfl, hSol⟩
  · show AW X 0 0 56 [some (.ref 44), some (.int (nI p)), some (.long (J2 89 (iN I 57 (3 * p)))), none, none, none] [] T I2 J2 R
    refine aw_bipush (v := (-2)) hC dX12_proof_56 (by decide) ?_
    exact aw_ireturn hC hq rfl dX12_proof_58 a_le a_le ⟨by have hl := lgc0 (J2 89 (iN I 57 (3 * p))) 0; have hl2 := lgc0 (J2 89 (iN I 57 (3 * p)) &&& (sRng (iN I 57 (3 * p + 1)) (nI (iN I 57 (3 * p + 2))) ^^^ (-1))) 0; clear hC hq; (try simp only [bI_e0, bI_n0, decide_eq_false_iff_not, decide_eq_true_eq, Classical.not_not] at *); grind, rfl, rfl, hSol⟩
