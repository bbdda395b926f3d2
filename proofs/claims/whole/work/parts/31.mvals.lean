abbrev sVal (I : aI) (J : aJ) (f : Nat) : Int32 := if I 44 57 = 0 then (if sCount (J 88 f) = 1 then nI (sLeast (J 88 f)) else -1) else -2
abbrev sSum (x : Int64) : Int32 := if x = 0 then 0 else 10000 * nI (sCount x) + 100 * nI (sLeast x) + (nI (sGreat x) + (-1))
abbrev SolP (I I2 : aI) (J J2 : aJ) (n : Nat) : Prop := ∃ K P S, J2 = a_ur (a_ur (a_ur J 90 K) 89 P) 88 S ∧ SolR I I2 n P S
theorem SW.th {I : aI} {n : Nat} {v : Int32} (h : SW I n) : SW (a_u I 44 61 v) n := SW_cg (a_u_ne (by decide)) (a_u_row (by decide)) (a_u_row (by decide)) (a_u_row (by decide)) (a_u_row (by decide)) (a_u_row (by decide)) (a_u_row (by decide)) (a_u_row (by decide)) (a_u_row (by decide)) h
set_option maxRecDepth 100000 in
theorem m_X12_valueOf {T : List aT} {I : aI} {J : aJ} {R : aR} (hT : aPT T) (hR : aPR R) {f : Nat} (hf : f < 10) : MX12_valueOf 0 0 [.ref 44, .int (nI f)] T I J R (aPure (some (.int (sVal I J f))) T I J R) := by
  refine a_met (by decide +kernel) a_le (fun X hC hq => ?_)
  show AW X 0 0 0 [some (.ref 44), some (.int (nI f))] [] T I J R
  refine aw_aload_n hC dX12_valueOf_0 rfl ?_
  refine aw_getI hC dX12_valueOf_1 aF_X12_267 rfl (tg_44 hT) ?_
  refine aw_if_eq (tgt := 12) hC dX12_valueOf_4 (by decide) (fun h1 => ?_) (fun h1 => ?_)
  · show AW X 0 0 12 [some (.ref 44), some (.int (nI f))] [] T I J R
    refine aw_aload_n hC dX12_valueOf_12 rfl ?_
    refine aw_getR hC dX12_valueOf_13 aF_X12_147 rfl (tg_44 hT) (pr_44_54 hR) ?_
    refine aw_iload_n hC dX12_valueOf_16 rfl ?_
    refine aw_laload_k (j := f) hC dX12_valueOf_17 (tg_88 hT) (nI_clamp (by omega)) (vp_in_nI (by omega) (by decide)) ?_
    refine kX12_270 hC rfl (m_X12_count (J 88 f)) dX12_valueOf_18 rfl a_le a_le a_le a_le a_le rfl aPure_x (aPure_k ?_)
    show AW X 0 0 21 [some (.ref 44), some (.int (nI f))] [.int (nI (sCount (J 88 f)))] T I J R
    have hcb := sCount_le (J 88 f)
    refine aw_iconst (v := 1) hC dX12_valueOf_21 (by decide) ?_
    refine aw_icmp_ne (tgt := 37) hC dX12_valueOf_22 (by decide) (fun h2 => ?_) (fun h2 => ?_)
    · show AW X 0 0 37 [some (.ref 44), some (.int (nI f))] [] T I J R
      have h2n : ¬ (sCount (J 88 f)) = 1 := fun q9 => h2 ((nI_eq (a := (sCount (J 88 f))) (b := 1) (by omega) (by omega)).mpr q9)
      refine aw_iconst (v := (-1)) hC dX12_valueOf_37 (by decide) ?_
      exact aw_ireturn hC hq rfl dX12_valueOf_38 a_le a_le (aPure_i (by clear hC hq; (try simp only [bI_e0, bI_n0, decide_eq_false_iff_not, decide_eq_true_eq, Classical.not_not] at *); grind))
    · show AW X 0 0 25 [some (.ref 44), some (.int (nI f))] [] T I J R
      have h2n : (sCount (J 88 f)) = 1 := (nI_eq (a := (sCount (J 88 f))) (b := 1) (by omega) (by omega)).mp h2
      refine aw_aload_n hC dX12_valueOf_25 rfl ?_
      refine aw_getR hC dX12_valueOf_26 aF_X12_147 rfl (tg_44 hT) (pr_44_54 hR) ?_
      refine aw_iload_n hC dX12_valueOf_29 rfl ?_
      refine aw_laload_k (j := f) hC dX12_valueOf_30 (tg_88 hT) (nI_clamp (by omega)) (vp_in_nI (by omega) (by decide)) ?_
      refine kX12_247 hC rfl (m_X12_least (J 88 f)) dX12_valueOf_31 rfl a_le a_le a_le a_le a_le rfl aPure_x (aPure_k ?_)
      show AW X 0 0 34 [some (.ref 44), some (.int (nI f))] [.int (nI (sLeast (J 88 f)))] T I J R
      refine aw_goto (tgt := 38) hC dX12_valueOf_34 (by decide) ?_
      exact aw_ireturn hC hq rfl dX12_valueOf_38 a_le a_le (aPure_i (by clear hC hq; (try simp only [bI_e0, bI_n0, decide_eq_false_iff_not, decide_eq_true_eq, Classical.not_not] at *); grind))
  · show AW X 0 0 7 [some (.ref 44), some (.int (nI f))] [] T I J R
    refine aw_bipush (v := (-2)) hC dX12_valueOf_7 (by decide) ?_
    refine aw_goto (tgt := 38) hC dX12_valueOf_9 (by decide) ?_
    exact aw_ireturn hC hq rfl dX12_valueOf_38 a_le a_le (aPure_i (by clear hC hq; (try simp only [bI_e0, bI_n0, decide_eq_false_iff_not, decide_eq_true_eq, Classical.not_not] at *); grind))
set_option maxRecDepth 100000 in
theorem m_X12_valueT {T : List aT} {I : aI} {J : aJ} {R : aR} (hT : aPT T) (hR : aPR R) {n : Nat} (hS : SW I n) (hZ : Zr J) {f : Nat} (hf : f < 10) : MX12_value 0 0 [.ref 44, .int (nI f)] T I J R (aRel (fun I2 J2 => some (.int (sVal I2 J2 f))) (fun I2 J2 => SolP (a_u I 44 61 0) I2 J J2 n) T R) := by
  refine a_met (by decide +kernel) a_le (fun X hC hq => ?_)
  show AW X 0 0 0 [some (.ref 44), some (.int (nI f))] [] T I J R
  refine aw_aload_n hC dX12_value_0 rfl ?_
  refine aw_iload_n hC dX12_value_1 rfl ?_
  refine kX12_282 hC rfl (m_X12_asksFieldT hT hR (nI f) ⟨nI_pos' (by omega), nI_le (b := 9) (by omega) (by omega)⟩) dX12_value_2 (tg_44 hT) rfl a_le a_le a_le a_le a_le rfl aPure_x (aPure_k ?_)
  show AW X 0 0 5 [some (.ref 44), some (.int (nI f))] [.int 1] T (a_u I 44 61 0) J R
  refine aw_if_ne (tgt := 10) hC dX12_value_5 (by decide) (fun _ => ?_) (fun h1 => absurd h1 (by decide))
  show AW X 0 0 10 [some (.ref 44), some (.int (nI f))] [] T (a_u I 44 61 0) J R
  refine aw_aload_n hC dX12_value_10 rfl ?_
  refine kX12_276 hC rfl (m_X12_solves (I := a_u I 44 61 0) (J := J) (n := n) hT hR (by first | exact hS | exact hS.th) hZ) dX12_value_11 (tg_44 hT) rfl a_le a_le a_le a_le a_le rfl aRel_x (aRel_k (fun I2 J2 hQ => ?_))
  have hSol : SolP _ _ _ _ _ := hQ
  show AW X 0 0 14 [some (.ref 44), some (.int (nI f))] [] T I2 J2 R
  refine aw_aload_n hC dX12_value_14 rfl ?_
  refine aw_iload_n hC dX12_value_15 rfl ?_
  refine kX12_285 hC rfl (m_X12_valueOf (J := J2) hT hR (f := f) (by omega)) dX12_value_16 (tg_44 hT) rfl a_le a_le a_le a_le a_le rfl aPure_x (aPure_k ?_)
  show AW X 0 0 19 [some (.ref 44), some (.int (nI f))] [.int (sVal I2 J2 f)] T I2 J2 R
  exact aw_ireturn hC hq rfl dX12_value_19 a_le a_le ⟨rfl, rfl, rfl, hSol⟩
set_option maxRecDepth 100000 in
theorem m_X12_valueF {T : List aT} {I : aI} {J : aJ} {R : aR} (hT : aPT T) (hR : aPR R) (x : Int32) (hx : ¬ (0 ≤ x ∧ x ≤ 9)) : MX12_value 0 0 [.ref 44, .int x] T I J R (aPure (some (.int (0))) T (a_u I 44 61 1) J R) := by
  refine a_met (by decide +kernel) a_le (fun X hC hq => ?_)
  show AW X 0 0 0 [some (.ref 44), some (.int x)] [] T I J R
  refine aw_aload_n hC dX12_value_0 rfl ?_
  refine aw_iload_n hC dX12_value_1 rfl ?_
  refine kX12_282 hC rfl (m_X12_asksFieldF hT hR x hx) dX12_value_2 (tg_44 hT) rfl a_le a_le a_le a_le a_le rfl aPure_x (aPure_k ?_)
  show AW X 0 0 5 [some (.ref 44), some (.int x)] [.int 0] T (a_u I 44 61 1) J R
  refine aw_if_ne (tgt := 10) hC dX12_value_5 (by decide) (fun h1 => absurd h1 (by decide)) (fun _ => ?_)
  show AW X 0 0 8 [some (.ref 44), some (.int x)] [] T (a_u I 44 61 1) J R
  refine aw_iconst (v := 0) hC dX12_value_8 (by decide) ?_
  exact aw_ireturn hC hq rfl dX12_value_9 a_le a_le (aPure_e (by clear hC hq; (try simp only [bI_e0, bI_n0, decide_eq_false_iff_not, decide_eq_true_eq, Classical.not_not] at *) <;> first | grind [nI_p1, a_u_2] | (exfalso; (simp only [i_le, i_lt, i_eq, Int32.reduceToInt] at *); omega)) (by clear hC hq; (try simp only [bI_e0, bI_n0, decide_eq_false_iff_not, decide_eq_true_eq, Classical.not_not] at *) <;> first | grind [nI_p1, a_u_2] | (exfalso; (simp only [i_le, i_lt, i_eq, Int32.reduceToInt] at *); omega)) rfl rfl)
set_option maxRecDepth 100000 in
theorem m_X12_toldT {T : List aT} {I : aI} {J : aJ} {R : aR} (hT : aPT T) (hR : aPR R) {n : Nat} (hS : SW I n) (hZ : Zr J) {f : Nat} (hf : f < 10) : MX12_told 0 0 [.ref 44, .int (nI f)] T I J R (aRel (fun I2 J2 => some (.int (sSum (J2 89 f)))) (fun I2 J2 => SolP (a_u I 44 61 0) I2 J J2 n) T R) := by
  refine a_met (by decide +kernel) a_le (fun X hC hq => ?_)
  show AW X 0 0 0 [some (.ref 44), some (.int (nI f)), none, none] [] T I J R
  refine aw_aload_n hC dX12_told_0 rfl ?_
  refine aw_iload_n hC dX12_told_1 rfl ?_
  refine kX12_282 hC rfl (m_X12_asksFieldT hT hR (nI f) ⟨nI_pos' (by omega), nI_le (b := 9) (by omega) (by omega)⟩) dX12_told_2 (tg_44 hT) rfl a_le a_le a_le a_le a_le rfl aPure_x (aPure_k ?_)
  show AW X 0 0 5 [some (.ref 44), some (.int (nI f)), none, none] [.int 1] T (a_u I 44 61 0) J R
  refine aw_if_ne (tgt := 10) hC dX12_told_5 (by decide) (fun _ => ?_) (fun h1 => absurd h1 (by decide))
  show AW X 0 0 10 [some (.ref 44), some (.int (nI f)), none, none] [] T (a_u I 44 61 0) J R
  refine aw_aload_n hC dX12_told_10 rfl ?_
  refine kX12_276 hC rfl (m_X12_solves (I := a_u I 44 61 0) (J := J) (n := n) hT hR (by first | exact hS | exact hS.th) hZ) dX12_told_11 (tg_44 hT) rfl a_le a_le a_le a_le a_le rfl aRel_x (aRel_k (fun I2 J2 hQ => ?_))
  have hSol : SolP _ _ _ _ _ := hQ
  show AW X 0 0 14 [some (.ref 44), some (.int (nI f)), none, none] [] T I2 J2 R
  refine aw_aload_n hC dX12_told_14 rfl ?_
  refine aw_getR hC dX12_told_15 aF_X12_151 rfl (tg_44 hT) (pr_44_55 hR) ?_
  refine aw_iload_n hC dX12_told_18 rfl ?_
  refine aw_laload_k (j := f) hC dX12_told_19 (tg_89 hT) (nI_clamp (by omega)) (vp_in_nI (by omega) (by decide)) ?_
  refine aw_lstore_n (L2 := [some (.ref 44), some (.int (nI f)), some (.long (J2 89 f)), none]) hC dX12_told_20 rfl (by decide) rfl ?_
  refine aw_lload_n hC dX12_told_21 rfl ?_
  refine aw_lconst (v := 0) hC dX12_told_22 (by decide) ?_
  refine aw_lcmp hC dX12_told_23 ?_
  refine aw_if_ne (tgt := 31) hC dX12_told_24 (by decide) (fun h2 => ?_) (fun h2 => ?_)
  · show AW X 0 0 31 [some (.ref 44), some (.int (nI f)), some (.long (J2 89 f)), none] [] T I2 J2 R
    refine aw_sipush (v := 10000) hC dX12_told_31 (by decide) ?_
    refine aw_lload_n hC dX12_told_34 rfl ?_
    refine kX12_270 hC rfl (m_X12_count (J2 89 f)) dX12_told_35 rfl a_le a_le a_le a_le a_le rfl aPure_x (aPure_k ?_)
    show AW X 0 0 38 [some (.ref 44), some (.int (nI f)), some (.long (J2 89 f)), none] [.int (nI (sCount (J2 89 f))), .int 10000] T I2 J2 R
    refine aw_imul hC dX12_told_38 ?_
    refine aw_bipush (v := 100) hC dX12_told_39 (by decide) ?_
    refine aw_lload_n hC dX12_told_41 rfl ?_
    refine kX12_247 hC rfl (m_X12_least (J2 89 f)) dX12_told_42 rfl a_le a_le a_le a_le a_le rfl aPure_x (aPure_k ?_)
    show AW X 0 0 45 [some (.ref 44), some (.int (nI f)), some (.long (J2 89 f)), none] [.int (nI (sLeast (J2 89 f))), .int 100, .int (10000 * (nI (sCount (J2 89 f))))] T I2 J2 R
    refine aw_imul hC dX12_told_45 ?_
    refine aw_iadd hC dX12_told_46 ?_
    refine aw_lload_n hC dX12_told_47 rfl ?_
    refine kX12_243 hC rfl (m_X12_greatest (J2 89 f)) dX12_told_48 rfl a_le a_le a_le a_le a_le rfl aPure_x (aPure_k ?_)
    show AW X 0 0 51 [some (.ref 44), some (.int (nI f)), some (.long (J2 89 f)), none] [.int (nI (sGreat (J2 89 f)) + (-1)), .int ((10000 * (nI (sCount (J2 89 f)))) + (100 * (nI (sLeast (J2 89 f)))))] T I2 J2 R
    refine aw_iadd hC dX12_told_51 ?_
    exact aw_ireturn hC hq rfl dX12_told_52 a_le a_le ⟨by have hl := lgc0 (J2 89 f) 0; clear hC hq; (try simp only [bI_e0, bI_n0, decide_eq_false_iff_not, decide_eq_true_eq, Classical.not_not] at *); grind, rfl, rfl, hSol⟩
  · show AW X 0 0 27 [some (.ref 44), some (.int (nI f)), some (.long (J2 89 f)), none] [] T I2 J2 R
    refine aw_iconst (v := 0) hC dX12_told_27 (by decide) ?_
    refine aw_goto (tgt := 52) hC dX12_told_28 (by decide) ?_
    exact aw_ireturn hC hq rfl dX12_told_52 a_le a_le ⟨by have hl := lgc0 (J2 89 f) 0; clear hC hq; (try simp only [bI_e0, bI_n0, decide_eq_false_iff_not, decide_eq_true_eq, Classical.not_not] at *); grind, rfl, rfl, hSol⟩
set_option maxRecDepth 100000 in
theorem m_X12_toldF {T : List aT} {I : aI} {J : aJ} {R : aR} (hT : aPT T) (hR : aPR R) (x : Int32) (hx : ¬ (0 ≤ x ∧ x ≤ 9)) : MX12_told 0 0 [.ref 44, .int x] T I J R (aPure (some (.int (0))) T (a_u I 44 61 1) J R) := by
  refine a_met (by decide +kernel) a_le (fun X hC hq => ?_)
  show AW X 0 0 0 [some (.ref 44), some (.int x), none, none] [] T I J R
  refine aw_aload_n hC dX12_told_0 rfl ?_
  refine aw_iload_n hC dX12_told_1 rfl ?_
  refine kX12_282 hC rfl (m_X12_asksFieldF hT hR x hx) dX12_told_2 (tg_44 hT) rfl a_le a_le a_le a_le a_le rfl aPure_x (aPure_k ?_)
  show AW X 0 0 5 [some (.ref 44), some (.int x), none, none] [.int 0] T (a_u I 44 61 1) J R
  refine aw_if_ne (tgt := 10) hC dX12_told_5 (by decide) (fun h1 => absurd h1 (by decide)) (fun _ => ?_)
  show AW X 0 0 8 [some (.ref 44), some (.int x), none, none] [] T (a_u I 44 61 1) J R
  refine aw_iconst (v := 0) hC dX12_told_8 (by decide) ?_
  exact aw_ireturn hC hq rfl dX12_told_9 a_le a_le (aPure_e (by clear hC hq; (try simp only [bI_e0, bI_n0, decide_eq_false_iff_not, decide_eq_true_eq, Classical.not_not] at *) <;> first | grind [nI_p1, a_u_2] | (exfalso; (simp only [i_le, i_lt, i_eq, Int32.reduceToInt] at *); omega)) (by clear hC hq; (try simp only [bI_e0, bI_n0, decide_eq_false_iff_not, decide_eq_true_eq, Classical.not_not] at *) <;> first | grind [nI_p1, a_u_2] | (exfalso; (simp only [i_le, i_lt, i_eq, Int32.reduceToInt] at *); omega)) rfl rfl)
set_option maxRecDepth 100000 in
theorem m_X12_setT {T : List aT} {I : aI} {J : aJ} {R : aR} (hT : aPT T) (hR : aPR R) {n : Nat} (hS : SW I n) (hZ : Zr J) {f : Nat} (hf : f < 10) : MX12_set 0 0 [.ref 44, .int (nI f)] T I J R (aRel (fun I2 J2 => some (.int (sSum (J2 89 f)))) (fun I2 J2 => SolP (a_u I 44 61 0) I2 J J2 n) T R) := by
  refine a_met (by decide +kernel) a_le (fun X hC hq => ?_)
  show AW X 0 0 0 [some (.ref 44), some (.int (nI f))] [] T I J R
  refine aw_aload_n hC dX12_set_0 rfl ?_
  refine aw_iload_n hC dX12_set_1 rfl ?_
  refine kX12_288 hC rfl (m_X12_toldT (n := n) hT hR hS hZ hf) dX12_set_2 (tg_44 hT) rfl a_le a_le a_le a_le a_le rfl aRel_x (aRel_k (fun I2 J2 hQ => ?_))
  have hSol : SolP _ _ _ _ _ := hQ
  show AW X 0 0 5 [some (.ref 44), some (.int (nI f))] [.int (sSum (J2 89 f))] T I2 J2 R
  exact aw_ireturn hC hq rfl dX12_set_5 a_le a_le ⟨rfl, rfl, rfl, hSol⟩
set_option maxRecDepth 100000 in
theorem m_X12_setF {T : List aT} {I : aI} {J : aJ} {R : aR} (hT : aPT T) (hR : aPR R) (x : Int32) (hx : ¬ (0 ≤ x ∧ x ≤ 9)) : MX12_set 0 0 [.ref 44, .int x] T I J R (aPure (some (.int (0))) T (a_u I 44 61 1) J R) := by
  refine a_met (by decide +kernel) a_le (fun X hC hq => ?_)
  show AW X 0 0 0 [some (.ref 44), some (.int x)] [] T I J R
  refine aw_aload_n hC dX12_set_0 rfl ?_
  refine aw_iload_n hC dX12_set_1 rfl ?_
  refine kX12_288 hC rfl (m_X12_toldF hT hR x hx) dX12_set_2 (tg_44 hT) rfl a_le a_le a_le a_le a_le rfl aPure_x (aPure_k ?_)
  show AW X 0 0 5 [some (.ref 44), some (.int x)] [.int 0] T (a_u I 44 61 1) J R
  exact aw_ireturn hC hq rfl dX12_set_5 a_le a_le (aPure_e (by clear hC hq; (try simp only [bI_e0, bI_n0, decide_eq_false_iff_not, decide_eq_true_eq, Classical.not_not] at *) <;> first | grind [nI_p1, a_u_2] | (exfalso; (simp only [i_le, i_lt, i_eq, Int32.reduceToInt] at *); omega)) (by clear hC hq; (try simp only [bI_e0, bI_n0, decide_eq_false_iff_not, decide_eq_true_eq, Classical.not_not] at *) <;> first | grind [nI_p1, a_u_2] | (exfalso; (simp only [i_le, i_lt, i_eq, Int32.reduceToInt] at *); omega)) rfl rfl)
set_option maxRecDepth 100000 in
theorem m_X12_setAnewT {T : List aT} {I : aI} {J : aJ} {R : aR} (hT : aPT T) (hR : aPR R) {n : Nat} (hS : SW I n) (hZ : Zr J) {f : Nat} (hf : f < 10) : MX12_setAnew 0 0 [.ref 44, .int (nI f)] T I J R (aRel (fun I2 J2 => some (.int (sSum (J2 89 f)))) (fun I2 J2 => SolP (a_u I 44 61 0) I2 J J2 n) T R) := by
  refine a_met (by decide +kernel) a_le (fun X hC hq => ?_)
  show AW X 0 0 0 [some (.ref 44), some (.int (nI f))] [] T I J R
  refine aw_aload_n hC dX12_setAnew_0 rfl ?_
  refine aw_iload_n hC dX12_setAnew_1 rfl ?_
  refine kX12_288 hC rfl (m_X12_toldT (n := n) hT hR hS hZ hf) dX12_setAnew_2 (tg_44 hT) rfl a_le a_le a_le a_le a_le rfl aRel_x (aRel_k (fun I2 J2 hQ => ?_))
  have hSol : SolP _ _ _ _ _ := hQ
  show AW X 0 0 5 [some (.ref 44), some (.int (nI f))] [.int (sSum (J2 89 f))] T I2 J2 R
  exact aw_ireturn hC hq rfl dX12_setAnew_5 a_le a_le ⟨rfl, rfl, rfl, hSol⟩
set_option maxRecDepth 100000 in
theorem m_X12_setAnewF {T : List aT} {I : aI} {J : aJ} {R : aR} (hT : aPT T) (hR : aPR R) (x : Int32) (hx : ¬ (0 ≤ x ∧ x ≤ 9)) : MX12_setAnew 0 0 [.ref 44, .int x] T I J R (aPure (some (.int (0))) T (a_u I 44 61 1) J R) := by
  refine a_met (by decide +kernel) a_le (fun X hC hq => ?_)
  show AW X 0 0 0 [some (.ref 44), some (.int x)] [] T I J R
  refine aw_aload_n hC dX12_setAnew_0 rfl ?_
  refine aw_iload_n hC dX12_setAnew_1 rfl ?_
  refine kX12_288 hC rfl (m_X12_toldF hT hR x hx) dX12_setAnew_2 (tg_44 hT) rfl a_le a_le a_le a_le a_le rfl aPure_x (aPure_k ?_)
  show AW X 0 0 5 [some (.ref 44), some (.int x)] [.int 0] T (a_u I 44 61 1) J R
  exact aw_ireturn hC hq rfl dX12_setAnew_5 a_le a_le (aPure_e (by clear hC hq; (try simp only [bI_e0, bI_n0, decide_eq_false_iff_not, decide_eq_true_eq, Classical.not_not] at *) <;> first | grind [nI_p1, a_u_2] | (exfalso; (simp only [i_le, i_lt, i_eq, Int32.reduceToInt] at *); omega)) (by clear hC hq; (try simp only [bI_e0, bI_n0, decide_eq_false_iff_not, decide_eq_true_eq, Classical.not_not] at *) <;> first | grind [nI_p1, a_u_2] | (exfalso; (simp only [i_le, i_lt, i_eq, Int32.reduceToInt] at *); omega)) rfl rfl)
