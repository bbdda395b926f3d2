theorem SolP.z53 {I I2 : aI} {J J2 : aJ} {n : Nat} (h : SolP I I2 J J2 n) : I2 44 53 = 0 := by
  obtain ⟨K, P, S, -, I3, h3, h4, -⟩ := h
  rw [h4, a_u_ne (fun q => absurd q.2 (by decide)), a_u_self]
theorem SolP.zr {I I2 : aI} {J J2 : aJ} {n : Nat} (h : SolP I I2 J J2 n) : Zr J2 := by
  obtain ⟨K, P, S, hJ, I3, h3, h4, h5, h6⟩ := h
  have hP : ∀ j, 10 ≤ j → P j = 0 := Fix_z h5 (fun i hi => if_neg (by omega))
  intro j hj
  rw [hJ]
  refine ⟨?_, by rw [a_ur_ne (by decide), a_ur_self]; exact hP j hj⟩
  rw [a_ur_self]
  split at h6
  · rw [h6]; exact hP j hj
  · exact Ch_z hP 10 S (Nat.le_refl _) h6 j hj
theorem CmR.zr {I I2 : aI} {J J2 : aJ} {n g : Nat} (h : CmR I I2 J J2 n g) : Zr J2 := by obtain ⟨I1, h1, -⟩ := h; exact h1.zr
theorem PlR.zr {I I2 : aI} {J J2 : aJ} {n g : Nat} (h : PlR I I2 J J2 n g) : Zr J2 := by obtain ⟨I1, Ic, h1, -⟩ := h; exact h1.zr
theorem fill_89 {J : aJ} (h : Zr J) : (a_fill J 88 10 (J 89)) 88 = J 89 := funext fun j => by
  by_cases c : j < 10
  · rw [a_fill_in c]
  · rw [a_fill_out (by omega), (h j (by omega)).1, (h j (by omega)).2]
/-- the rows that lasting facts speak of are as before -/
def BaseF (I I3 : aI) : Prop := (∀ o, o ≠ 44 ∧ o ≠ 83 ∧ o ≠ 84 ∧ o ≠ 85 ∧ o ≠ 86 ∧ o ≠ 87 ∧ o ≠ 91 ∧ o ≠ 92 ∧ o ≠ 93 → I3 o = I o) ∧ ∀ k, k ≠ 53 ∧ k ≠ 57 ∧ k ≠ 59 → I3 44 k = I 44 k
theorem BaseF.refl (I : aI) : BaseF I I := ⟨fun _ _ => rfl, fun _ _ => rfl⟩
theorem BaseF.trans {I I2 I3 : aI} (h : BaseF I I2) (g : BaseF I2 I3) : BaseF I I3 := ⟨fun o ho => (g.1 o ho).trans (h.1 o ho), fun k hk => (g.2 k hk).trans (h.2 k hk)⟩
theorem SolP.bf {I I2 : aI} {J J2 : aJ} {n : Nat} (h : SolP I I2 J J2 n) : BaseF I I2 := ⟨fun o ho => h.fr o ⟨ho.1, ho.2.1, ho.2.2.1, ho.2.2.2.1, ho.2.2.2.2.1⟩, fun k hk => h.f44 hk.1 hk.2.1⟩
theorem CmR.bf {I I2 : aI} {J J2 : aJ} {n g : Nat} (h : CmR I I2 J J2 n g) : BaseF I I2 := ⟨fun o ho => h.fr o ⟨ho.1, ho.2.1, ho.2.2.1, ho.2.2.2.1, ho.2.2.2.2.1, ho.2.2.2.2.2.2.1⟩, fun k hk => h.f44 hk.1 hk.2.1⟩
theorem PlR.bf {I I2 : aI} {J J2 : aJ} {n g : Nat} (h : PlR I I2 J J2 n g) : BaseF I I2 := ⟨fun o ho => h.fr o ⟨ho.1, ho.2.1, ho.2.2.1, ho.2.2.2.1, ho.2.2.2.2.1, ho.2.2.2.2.2.2.1, ho.2.2.2.2.2.2.2.1⟩, fun k hk => h.f44 hk.1 hk.2.1 hk.2.2⟩
theorem CI.bf {I0 I : aI} {J0 J : aJ} (h : CI I0 J0 I J) : BaseF I0 I := ⟨fun o ho => h.1 o ⟨ho.1, ho.2.2.2.2.2.1⟩, fun k hk => h.2.1 k hk.1⟩
abbrev mayR (I : aI) (P : Nat → Int64) (k : Nat) : Nat → Int32 := fun j => if j < k then bI (decide (I 45 j ≠ 4) && decide (cOn I P j)) else I 93 j
theorem may_0 {I : aI} {P : Nat → Int64} {k : Nat} (h : I 45 k = 4 ∨ ¬ cOn I P k) : (0 : Int32) = bI (decide (I 45 k ≠ 4) && decide (cOn I P k)) := by
  rcases h with h | h
  · rw [decide_eq_false (not_not_intro h)]; rfl
  · rw [decide_eq_false h, Bool.and_false]; rfl
theorem may_1 {I : aI} {P : Nat → Int64} {k : Nat} (h1 : I 45 k ≠ 4) (h2 : cOn I P k) : (1 : Int32) = bI (decide (I 45 k ≠ 4) && decide (cOn I P k)) := by
  rw [decide_eq_true h1, decide_eq_true h2]; rfl
theorem may_put {I : aI} {P : Nat → Int64} {k : Nat} {v : Int32} (hv : v = bI (decide (I 45 k ≠ 4) && decide (cOn I P k))) (j : Nat) : (if j = k then v else mayR I P k j) = mayR I P (k + 1) j := by
  simp only [mayR]
  by_cases e : j = k
  · subst e; rw [if_pos rfl, if_pos (by omega), hv]
  · rw [if_neg e]
    by_cases c9 : j < k
    · rw [if_pos c9, if_pos (by omega)]
    · rw [if_neg c9, if_neg (by omega)]
theorem lf1_cg {I I2 : aI} {n : Nat} (h45 : I2 45 = I 45) (h46 : I2 46 = I 46) (h47 : I2 47 = I 47) (h48 : I2 48 = I 48) (h93 : I2 93 = I 93) : lf1 I2 n = lf1 I n := funext fun c => by unfold lf1; rw [cfl_cg h45 h46 h47 h48, h93]
theorem lf2_cg {I I2 : aI} {n : Nat} (h45 : I2 45 = I 45) (h46 : I2 46 = I 46) (h47 : I2 47 = I 47) (h48 : I2 48 = I 48) (h93 : I2 93 = I 93) : lf2 I2 n = lf2 I n := funext fun c => funext fun b => by unfold lf2; rw [cfl_cg h45 h46 h47 h48, h93]
theorem lf3_cg {I I2 : aI} {n : Nat} (h45 : I2 45 = I 45) (h46 : I2 46 = I 46) (h47 : I2 47 = I 47) (h48 : I2 48 = I 48) (h93 : I2 93 = I 93) : lf3 I2 n = lf3 I n := funext fun c => funext fun b => funext fun a => by unfold lf3; rw [cfl_cg h45 h46 h47 h48, h93]
theorem CI.l2 {I0 I : aI} {J0 J : aJ} {n : Nat} (h : CI I0 J0 I J) : lc2 I n = lc2 I0 n := by
  unfold lc2; rw [lf2_cg (h.1 45 (by decide)) (h.1 46 (by decide)) (h.1 47 (by decide)) (h.1 48 (by decide)) (h.1 93 (by decide))]
theorem CI.l3 {I0 I : aI} {J0 J : aJ} {n : Nat} (h : CI I0 J0 I J) : lc3 I n = lc3 I0 n := by
  unfold lc3; rw [lf3_cg (h.1 45 (by decide)) (h.1 46 (by decide)) (h.1 47 (by decide)) (h.1 48 (by decide)) (h.1 93 (by decide))]
noncomputable def cfV (I : aI) (n : Nat) : Int32 := if lc1 I n ≠ 0 then lc1 I n else if lc2 I n ≠ 0 then lc2 I n else if lc3 I n ≠ 0 then lc3 I n else -1
theorem cOn_93 {I : aI} {S P : Nat → Int64} {R : Nat → Int32} {s : Nat} (h : S = P) : cOn (a_ur I 93 R) S s ↔ cOn I P s := by
  subst h
  unfold cOn hOn; rw [a_ur_ne (show 44 ≠ 93 by decide), a_ur_ne (show 84 ≠ 93 by decide), a_ur_ne (show 45 ≠ 93 by decide), a_ur_ne (show 86 ≠ 93 by decide), a_ur_ne (show 85 ≠ 93 by decide), a_ur_ne (show 46 ≠ 93 by decide), a_ur_ne (show 47 ≠ 93 by decide), a_ur_ne (show 87 ≠ 93 by decide)]
set_option maxRecDepth 100000 in
theorem m_X12_conflict {T : List aT} {I : aI} {J : aJ} {R : aR} (hT : aPT T) (hR : aPR R) {n : Nat} (hS : SW I n) (hZ : Zr J) : MX12_conflict 0 0 [.ref 44] T I J R (aRelV (fun v I3 J3 => ∃ I2 J2, SolP (a_u I 44 61 0) I2 J J2 n ∧ v = some (.int (if I2 44 57 = 0 then 0 else cfV (a_ur I2 93 (mayR I2 (J2 89) n)) n)) ∧ BaseF I2 I3 ∧ Zr J3) T R) := by
  refine a_met (by decide +kernel) a_le (fun X hC hq => ?_)
  show AW X 0 0 0 [some (.ref 44), none, none] [] T I J R
  refine aw_aload_n hC dX12_conflict_0 rfl ?_
  refine aw_iconst (v := 0) hC dX12_conflict_1 (by decide) ?_
  refine aw_putI hC dX12_conflict_2 aF_X12_166 rfl rfl (tg_44 hT) ?_
  refine aw_aload_n hC dX12_conflict_5 rfl ?_
  refine kX12_276 hC rfl (m_X12_solves (I := a_u I 44 61 0) (J := J) (n := n) hT hR hS.th hZ) dX12_conflict_6 (tg_44 hT) rfl a_le a_le a_le a_le a_le rfl aRel_x (aRel_k (fun I2 J2 hQ => ?_))
  have hSol : SolP _ _ _ _ n := hQ
  have hS2 := hSol.sw hS.th
  have hg2 := hSol.gok hS.th
  have hz2 := hSol.zr
  have hn9 := hS.n30
  show AW X 0 0 9 [some (.ref 44), none, none] [] T I2 J2 R
  refine aw_aload_n hC dX12_conflict_9 rfl ?_
  refine aw_getI hC dX12_conflict_10 aF_X12_267 rfl (tg_44 hT) ?_
  refine aw_if_ne (tgt := 18) hC dX12_conflict_13 (by decide) (fun h1 => ?_) (fun h1 => ?_)
  · show AW X 0 0 18 [some (.ref 44), none, none] [] T I2 J2 R
    refine aw_aload_n hC dX12_conflict_18 rfl ?_
    refine kX12_279 hC rfl (m_X12_plains (I := I2) (J := J2) hT hR) dX12_conflict_19 (tg_44 hT) rfl a_le a_le a_le a_le a_le rfl aPure_x (aPure_k ?_)
    obtain ⟨J3, hJ3⟩ : ∃ J3, J3 = a_fill J2 88 10 (J2 89) := ⟨_, rfl⟩
    rw [← hJ3]
    have hJ88 : J3 88 = J2 89 := by rw [hJ3]; exact fill_89 hz2
    have hz3 : Zr J3 := fun j hj => ⟨by rw [hJ88]; exact (hz2 j hj).2, by rw [hJ3, a_fill_ne (by decide)]; exact (hz2 j hj).2⟩
    show AW X 0 0 22 [some (.ref 44), none, none] [] T I2 J3 R
    refine aw_iconst (v := 0) hC dX12_conflict_22 (by decide) ?_
    refine aw_istore_n (L2 := [some (.ref 44), some (.int 0), none]) hC dX12_conflict_23 rfl (by decide) rfl ?_
    rw [show I2 = a_ur I2 93 (mayR I2 (J2 89) 0) from (a_ur_id (fun j => by simp only [mayR]; rw [if_neg (by omega)])).symm]
    have loop : ∀ k, k ≤ n → AW X 0 0 24 [some (.ref 44), some (.int (nI k)), none] [] T (a_ur I2 93 (mayR I2 (J2 89) k)) J3 R := by
      refine a_down n (fun k hkl ih => ?_)
      refine aw_iload_n hC dX12_conflict_24 rfl ?_
      refine aw_aload_n hC dX12_conflict_25 rfl ?_
      refine aw_getI hC dX12_conflict_26 aF_X12_183 rfl (tg_44 hT) ?_
      rw [a_ur_ne (f := I2) (o := 93) (a := 44) (g := mayR I2 (J2 89) k) (by decide)]
      rw [hS2.cnt]
      refine aw_icmp_ge (tgt := 67) hC dX12_conflict_29 (by decide) (fun h2 => ?_) (fun h2 => ?_)
      · show AW X 0 0 67 [some (.ref 44), some (.int (nI k)), none] [] T (a_ur I2 93 (mayR I2 (J2 89) k)) J3 R
        have h2n : n ≤ k := (nI_leI (a := n) (b := k) (by omega) (by omega)).mp h2
        obtain ⟨I5, hI5⟩ : ∃ I5, I5 = a_ur I2 93 (mayR I2 (J2 89) n) := ⟨_, rfl⟩
        rw [show k = n from by omega, ← hI5]
        have h5 : ∀ o, o ≠ 93 → I5 o = I2 o := fun o ho => by rw [hI5, a_ur_ne ho]
        have hS5 : SW I5 n := SW_cg (by rw [h5 44 (by decide)]) (h5 45 (by decide)) (h5 46 (by decide)) (h5 47 (by decide)) (h5 48 (by decide)) (h5 49 (by decide)) (h5 50 (by decide)) (h5 51 (by decide)) (h5 53 (by decide)) hS2
        have hg5 : GOK I5 n := fun s hs => by rw [h5 85 (by decide), h5 46 (by decide)]; exact hg2 s hs
        have hc0 := CI.refl (I := I5) hz3
        refine aw_iconst (v := 0) hC dX12_conflict_67 (by decide) ?_
        refine aw_istore_n (L2 := [some (.ref 44), some (.int 0), none]) hC dX12_conflict_68 rfl (by decide) rfl ?_
        refine aw_iconst (v := 1) hC dX12_conflict_69 (by decide) ?_
        refine aw_istore_n (L2 := [some (.ref 44), some (.int 0), some (.int 1)]) hC dX12_conflict_70 rfl (by decide) rfl ?_
        refine aw_iload_n hC dX12_conflict_71 rfl ?_
        refine aw_iconst (v := 4) hC dX12_conflict_72 (by decide) ?_
        refine aw_icmp_ge (tgt := 92) hC dX12_conflict_73 (by decide) (fun h3 => absurd h3 (by decide)) (fun _ => ?_)
        show AW X 0 0 76 [some (.ref 44), some (.int 0), some (.int 1)] [] T I5 J3 R
        refine aw_iload_n hC dX12_conflict_76 rfl ?_
        refine aw_if_ne (tgt := 92) hC dX12_conflict_77 (by decide) (fun h4 => absurd h4 (by decide)) (fun _ => ?_)
        show AW X 0 0 80 [some (.ref 44), some (.int 0), some (.int 1)] [] T I5 J3 R
        refine aw_aload_n hC dX12_conflict_80 rfl ?_
        refine aw_iload_n hC dX12_conflict_81 rfl ?_
        refine kX12_295 hC rfl (m_X12_leastConflict1 (I := I5) (J := J3) (n := n) hT hR (hc0.sw hS5) (hc0.zr hz3) (hc0.gok hg5)) dX12_conflict_82 (tg_44 hT) rfl a_le a_le a_le a_le a_le rfl aRelV_x (aRelV_k (fun v9 I41 J41 hQ => ?_))
        obtain ⟨rfl, hd9⟩ := hQ
        have hc41 : CI I5 J3 I41 J41 := hc0.trans hd9
        show AW X 0 0 85 [some (.ref 44), some (.int 0), some (.int 1)] [.int (lc1 I5 n)] T I41 J41 R
        refine aw_istore_n (L2 := [some (.ref 44), some (.int (lc1 I5 n)), some (.int 1)]) hC dX12_conflict_85 rfl (by decide) rfl ?_
        refine aw_iinc (v := 2) (L2 := [some (.ref 44), some (.int (lc1 I5 n)), some (.int 2)]) hC dX12_conflict_86 rfl (by decide) (by decide) rfl ?_
        refine aw_goto (tgt := 71) hC dX12_conflict_89 (by decide) ?_
        refine aw_iload_n hC dX12_conflict_71 rfl ?_
        refine aw_iconst (v := 4) hC dX12_conflict_72 (by decide) ?_
        refine aw_icmp_ge (tgt := 92) hC dX12_conflict_73 (by decide) (fun h5 => absurd h5 (by decide)) (fun _ => ?_)
        show AW X 0 0 76 [some (.ref 44), some (.int (lc1 I5 n)), some (.int 2)] [] T I41 J41 R
        refine aw_iload_n hC dX12_conflict_76 rfl ?_
        refine aw_if_ne (tgt := 92) hC dX12_conflict_77 (by decide) (fun h6 => ?_) (fun h6 => ?_)
        · show AW X 0 0 92 [some (.ref 44), some (.int (lc1 I5 n)), some (.int 2)] [] T I41 J41 R
          refine aw_iload_n hC dX12_conflict_92 rfl ?_
          refine aw_if_ne (tgt := 100) hC dX12_conflict_93 (by decide) (fun h7 => ?_) (fun h7 => ?_)
          · show AW X 0 0 100 [some (.ref 44), some (.int (lc1 I5 n)), some (.int 2)] [] T I41 J41 R
            refine aw_iload_n hC dX12_conflict_100 rfl ?_
            exact aw_ireturn hC hq rfl dX12_conflict_101 a_le a_le ⟨_, rfl, rfl, rfl, I2, J2, hSol, by rw [if_neg (by assumption), cfV, ← hI5]; (try simp only [Classical.not_not] at *); simp_all, ⟨fun o ho => by rw [hc41.1 o ⟨ho.1, ho.2.2.2.2.2.1⟩, h5 o ho.2.2.2.2.2.2.2.2], fun k9 hk => by rw [hc41.2.1 k9 hk.1, h5 44 (by decide)]⟩, hc41.zr hz3⟩
          · show AW X 0 0 96 [some (.ref 44), some (.int (lc1 I5 n)), some (.int 2)] [] T I41 J41 R
            refine aw_iconst (v := (-1)) hC dX12_conflict_96 (by decide) ?_
            refine aw_goto (tgt := 101) hC dX12_conflict_97 (by decide) ?_
            exact aw_ireturn hC hq rfl dX12_conflict_101 a_le a_le ⟨_, rfl, rfl, rfl, I2, J2, hSol, by rw [if_neg (by assumption), cfV, ← hI5]; (try simp only [Classical.not_not] at *); simp_all, ⟨fun o ho => by rw [hc41.1 o ⟨ho.1, ho.2.2.2.2.2.1⟩, h5 o ho.2.2.2.2.2.2.2.2], fun k9 hk => by rw [hc41.2.1 k9 hk.1, h5 44 (by decide)]⟩, hc41.zr hz3⟩
        · show AW X 0 0 80 [some (.ref 44), some (.int (lc1 I5 n)), some (.int 2)] [] T I41 J41 R
          refine aw_aload_n hC dX12_conflict_80 rfl ?_
          refine aw_iload_n hC dX12_conflict_81 rfl ?_
          refine kX12_295 hC rfl (m_X12_leastConflict2 (I := I41) (J := J41) (n := n) hT hR (hc41.sw hS5) (hc41.zr hz3) (hc41.gok hg5)) dX12_conflict_82 (tg_44 hT) rfl a_le a_le a_le a_le a_le rfl aRelV_x (aRelV_k (fun v9 I42 J42 hQ => ?_))
          obtain ⟨rfl, hd9⟩ := hQ
          rw [hc41.l2]
          have hc42 : CI I5 J3 I42 J42 := hc41.trans hd9
          show AW X 0 0 85 [some (.ref 44), some (.int (lc1 I5 n)), some (.int 2)] [.int (lc2 I5 n)] T I42 J42 R
          refine aw_istore_n (L2 := [some (.ref 44), some (.int (lc2 I5 n)), some (.int 2)]) hC dX12_conflict_85 rfl (by decide) rfl ?_
          refine aw_iinc (v := 3) (L2 := [some (.ref 44), some (.int (lc2 I5 n)), some (.int 3)]) hC dX12_conflict_86 rfl (by decide) (by decide) rfl ?_
          refine aw_goto (tgt := 71) hC dX12_conflict_89 (by decide) ?_
          refine aw_iload_n hC dX12_conflict_71 rfl ?_
          refine aw_iconst (v := 4) hC dX12_conflict_72 (by decide) ?_
          refine aw_icmp_ge (tgt := 92) hC dX12_conflict_73 (by decide) (fun h8 => absurd h8 (by decide)) (fun _ => ?_)
          show AW X 0 0 76 [some (.ref 44), some (.int (lc2 I5 n)), some (.int 3)] [] T I42 J42 R
          refine aw_iload_n hC dX12_conflict_76 rfl ?_
          refine aw_if_ne (tgt := 92) hC dX12_conflict_77 (by decide) (fun h9 => ?_) (fun h9 => ?_)
          · show AW X 0 0 92 [some (.ref 44), some (.int (lc2 I5 n)), some (.int 3)] [] T I42 J42 R
            refine aw_iload_n hC dX12_conflict_92 rfl ?_
            refine aw_if_ne (tgt := 100) hC dX12_conflict_93 (by decide) (fun h10 => ?_) (fun h10 => ?_)
            · show AW X 0 0 100 [some (.ref 44), some (.int (lc2 I5 n)), some (.int 3)] [] T I42 J42 R
              refine aw_iload_n hC dX12_conflict_100 rfl ?_
              exact aw_ireturn hC hq rfl dX12_conflict_101 a_le a_le ⟨_, rfl, rfl, rfl, I2, J2, hSol, by rw [if_neg (by assumption), cfV, ← hI5]; (try simp only [Classical.not_not] at *); simp_all, ⟨fun o ho => by rw [hc42.1 o ⟨ho.1, ho.2.2.2.2.2.1⟩, h5 o ho.2.2.2.2.2.2.2.2], fun k9 hk => by rw [hc42.2.1 k9 hk.1, h5 44 (by decide)]⟩, hc42.zr hz3⟩
            · show AW X 0 0 96 [some (.ref 44), some (.int (lc2 I5 n)), some (.int 3)] [] T I42 J42 R
              refine aw_iconst (v := (-1)) hC dX12_conflict_96 (by decide) ?_
              refine aw_goto (tgt := 101) hC dX12_conflict_97 (by decide) ?_
              exact aw_ireturn hC hq rfl dX12_conflict_101 a_le a_le ⟨_, rfl, rfl, rfl, I2, J2, hSol, by rw [if_neg (by assumption), cfV, ← hI5]; (try simp only [Classical.not_not] at *); simp_all, ⟨fun o ho => by rw [hc42.1 o ⟨ho.1, ho.2.2.2.2.2.1⟩, h5 o ho.2.2.2.2.2.2.2.2], fun k9 hk => by rw [hc42.2.1 k9 hk.1, h5 44 (by decide)]⟩, hc42.zr hz3⟩
          · show AW X 0 0 80 [some (.ref 44), some (.int (lc2 I5 n)), some (.int 3)] [] T I42 J42 R
            refine aw_aload_n hC dX12_conflict_80 rfl ?_
            refine aw_iload_n hC dX12_conflict_81 rfl ?_
            refine kX12_295 hC rfl (m_X12_leastConflict3 (I := I42) (J := J42) (n := n) hT hR (hc42.sw hS5) (hc42.zr hz3) (hc42.gok hg5)) dX12_conflict_82 (tg_44 hT) rfl a_le a_le a_le a_le a_le rfl aRelV_x (aRelV_k (fun v9 I43 J43 hQ => ?_))
            obtain ⟨rfl, hd9⟩ := hQ
            rw [hc42.l3]
            have hc43 : CI I5 J3 I43 J43 := hc42.trans hd9
            show AW X 0 0 85 [some (.ref 44), some (.int (lc2 I5 n)), some (.int 3)] [.int (lc3 I5 n)] T I43 J43 R
            refine aw_istore_n (L2 := [some (.ref 44), some (.int (lc3 I5 n)), some (.int 3)]) hC dX12_conflict_85 rfl (by decide) rfl ?_
            refine aw_iinc (v := 4) (L2 := [some (.ref 44), some (.int (lc3 I5 n)), some (.int 4)]) hC dX12_conflict_86 rfl (by decide) (by decide) rfl ?_
            refine aw_goto (tgt := 71) hC dX12_conflict_89 (by decide) ?_
            refine aw_iload_n hC dX12_conflict_71 rfl ?_
            refine aw_iconst (v := 4) hC dX12_conflict_72 (by decide) ?_
            refine aw_icmp_ge (tgt := 92) hC dX12_conflict_73 (by decide) (fun _ => ?_) (fun h11 => absurd h11 (by decide))
            show AW X 0 0 92 [some (.ref 44), some (.int (lc3 I5 n)), some (.int 4)] [] T I43 J43 R
            refine aw_iload_n hC dX12_conflict_92 rfl ?_
            refine aw_if_ne (tgt := 100) hC dX12_conflict_93 (by decide) (fun h12 => ?_) (fun h12 => ?_)
            · show AW X 0 0 100 [some (.ref 44), some (.int (lc3 I5 n)), some (.int 4)] [] T I43 J43 R
              refine aw_iload_n hC dX12_conflict_100 rfl ?_
              exact aw_ireturn hC hq rfl dX12_conflict_101 a_le a_le ⟨_, rfl, rfl, rfl, I2, J2, hSol, by rw [if_neg (by assumption), cfV, ← hI5]; (try simp only [Classical.not_not] at *); simp_all, ⟨fun o ho => by rw [hc43.1 o ⟨ho.1, ho.2.2.2.2.2.1⟩, h5 o ho.2.2.2.2.2.2.2.2], fun k9 hk => by rw [hc43.2.1 k9 hk.1, h5 44 (by decide)]⟩, hc43.zr hz3⟩
            · show AW X 0 0 96 [some (.ref 44), some (.int (lc3 I5 n)), some (.int 4)] [] T I43 J43 R
              refine aw_iconst (v := (-1)) hC dX12_conflict_96 (by decide) ?_
              refine aw_goto (tgt := 101) hC dX12_conflict_97 (by decide) ?_
              exact aw_ireturn hC hq rfl dX12_conflict_101 a_le a_le ⟨_, rfl, rfl, rfl, I2, J2, hSol, by rw [if_neg (by assumption), cfV, ← hI5]; (try simp only [Classical.not_not] at *); simp_all, ⟨fun o ho => by rw [hc43.1 o ⟨ho.1, ho.2.2.2.2.2.1⟩, h5 o ho.2.2.2.2.2.2.2.2], fun k9 hk => by rw [hc43.2.1 k9 hk.1, h5 44 (by decide)]⟩, hc43.zr hz3⟩
      · show AW X 0 0 32 [some (.ref 44), some (.int (nI k)), none] [] T (a_ur I2 93 (mayR I2 (J2 89) k)) J3 R
        have h2n : ¬ n ≤ k := fun q9 => h2 ((nI_leI (a := n) (b := k) (by omega) (by omega)).mpr q9)
        refine aw_aload_n hC dX12_conflict_32 rfl ?_
        refine aw_getR hC dX12_conflict_33 aF_X12_163 rfl (tg_44 hT) (pr_44_62 hR) ?_
        refine aw_iload_n hC dX12_conflict_36 rfl ?_
        refine aw_aload_n hC dX12_conflict_37 rfl ?_
        refine aw_getR hC dX12_conflict_38 aF_X12_7 rfl (tg_44 hT) (pr_44_1 hR) ?_
        refine aw_iload_n hC dX12_conflict_41 rfl ?_
        refine aw_iaload_k (j := k) hC dX12_conflict_42 (tg_45 hT) (nI_clamp (by omega)) (vp_in_nI (by omega) (by decide)) ?_
        rw [a_ur_ne (f := I2) (o := 93) (a := 45) (g := mayR I2 (J2 89) k) (by decide)]
        have hb13 := hS2.kd k (by omega)
        rw [hb13.1]
        refine aw_iconst (v := 4) hC dX12_conflict_43 (by decide) ?_
        refine aw_icmp_eq (tgt := 59) hC dX12_conflict_44 (by decide) (fun h14 => ?_) (fun h14 => ?_)
        · show AW X 0 0 59 [some (.ref 44), some (.int (nI k)), none] [.int (nI k), .ref 93] T (a_ur I2 93 (mayR I2 (J2 89) k)) J3 R
          have h14n : (iN I2 45 k) = 4 := (nI_eq (a := (iN I2 45 k)) (b := 4) (by omega) (by omega)).mp h14
          refine aw_iconst (v := 0) hC dX12_conflict_59 (by decide) ?_
          refine aw_bastore_k (j := k) hC dX12_conflict_60 (tg_93 hT) (nI_clamp (by omega)) (vp_in_nI (by omega) (by decide)) (Or.inl rfl) ?_
          refine aw_iinc (v := nI (k + 1)) (L2 := [some (.ref 44), some (.int (nI (k + 1))), none]) hC dX12_conflict_61 rfl (nI_inc _) (by decide) rfl ?_
          refine aw_goto (tgt := 24) hC dX12_conflict_64 (by decide) ?_
          rw [show a_u (a_ur I2 93 (mayR I2 (J2 89) k)) 93 k 0 = a_ur I2 93 (mayR I2 (J2 89) (k + 1)) from by rw [a_ur_put]; exact a_ur_ext (may_put (by first | exact may_0 (Or.inl ((hS2.kq (by omega) (b := 4) (by omega)).mpr (by omega))) | exact may_0 (Or.inr (bI_d0.mp (by assumption))) | exact may_1 (fun q => absurd ((hS2.kq (by omega) (b := 4) (by omega)).mp q) (by omega)) (bI_dn.mp (by assumption))))]
          exact ih (by omega)
        · show AW X 0 0 47 [some (.ref 44), some (.int (nI k)), none] [.int (nI k), .ref 93] T (a_ur I2 93 (mayR I2 (J2 89) k)) J3 R
          have h14n : ¬ (iN I2 45 k) = 4 := fun q9 => h14 ((nI_eq (a := (iN I2 45 k)) (b := 4) (by omega) (by omega)).mpr q9)
          refine aw_aload_n hC dX12_conflict_47 rfl ?_
          refine aw_iload_n hC dX12_conflict_48 rfl ?_
          refine kX12_250 hC rfl (m_X12_countsU (I := a_ur I2 93 (mayR I2 (J2 89) k)) (J := J3) hT hR (n := n) (s := k) (by omega) hS.n30 (fun s hs => by rw [a_ur_ne (by decide), a_ur_ne (by decide)]; exact hg2 s hs) ⟨Or.inl (by rw [a_ur_ne (by decide)]; exact hSol.z53), fun q => absurd q (by rw [a_ur_ne (by decide), hSol.z53]; decide)⟩) dX12_conflict_49 (tg_44 hT) rfl a_le a_le a_le a_le a_le rfl aPure_x (aPure_k ?_)
          show AW X 0 0 52 [some (.ref 44), some (.int (nI k)), none] [.int (bI (decide (cOn (a_ur I2 93 (mayR I2 (J2 89) k)) (J3 88) k))), .int (nI k), .ref 93] T (a_ur I2 93 (mayR I2 (J2 89) k)) J3 R
          rw [bI_cg (p := cOn (a_ur I2 93 (mayR I2 (J2 89) k)) (J3 88) k) (q := cOn I2 (J2 89) k) (cOn_93 hJ88)]
          refine aw_if_eq (tgt := 59) hC dX12_conflict_52 (by decide) (fun h15 => ?_) (fun h15 => ?_)
          · show AW X 0 0 59 [some (.ref 44), some (.int (nI k)), none] [.int (nI k), .ref 93] T (a_ur I2 93 (mayR I2 (J2 89) k)) J3 R
            refine aw_iconst (v := 0) hC dX12_conflict_59 (by decide) ?_
            refine aw_bastore_k (j := k) hC dX12_conflict_60 (tg_93 hT) (nI_clamp (by omega)) (vp_in_nI (by omega) (by decide)) (Or.inl rfl) ?_
            refine aw_iinc (v := nI (k + 1)) (L2 := [some (.ref 44), some (.int (nI (k + 1))), none]) hC dX12_conflict_61 rfl (nI_inc _) (by decide) rfl ?_
            refine aw_goto (tgt := 24) hC dX12_conflict_64 (by decide) ?_
            rw [show a_u (a_ur I2 93 (mayR I2 (J2 89) k)) 93 k 0 = a_ur I2 93 (mayR I2 (J2 89) (k + 1)) from by rw [a_ur_put]; exact a_ur_ext (may_put (by first | exact may_0 (Or.inl ((hS2.kq (by omega) (b := 4) (by omega)).mpr (by omega))) | exact may_0 (Or.inr (bI_d0.mp (by assumption))) | exact may_1 (fun q => absurd ((hS2.kq (by omega) (b := 4) (by omega)).mp q) (by omega)) (bI_dn.mp (by assumption))))]
            exact ih (by omega)
          · show AW X 0 0 55 [some (.ref 44), some (.int (nI k)), none] [.int (nI k), .ref 93] T (a_ur I2 93 (mayR I2 (J2 89) k)) J3 R
            refine aw_iconst (v := 1) hC dX12_conflict_55 (by decide) ?_
            refine aw_goto (tgt := 60) hC dX12_conflict_56 (by decide) ?_
            refine aw_bastore_k (j := k) hC dX12_conflict_60 (tg_93 hT) (nI_clamp (by omega)) (vp_in_nI (by omega) (by decide)) (Or.inr rfl) ?_
            refine aw_iinc (v := nI (k + 1)) (L2 := [some (.ref 44), some (.int (nI (k + 1))), none]) hC dX12_conflict_61 rfl (nI_inc _) (by decide) rfl ?_
            refine aw_goto (tgt := 24) hC dX12_conflict_64 (by decide) ?_
            rw [show a_u (a_ur I2 93 (mayR I2 (J2 89) k)) 93 k 1 = a_ur I2 93 (mayR I2 (J2 89) (k + 1)) from by rw [a_ur_put]; exact a_ur_ext (may_put (by first | exact may_0 (Or.inl ((hS2.kq (by omega) (b := 4) (by omega)).mpr (by omega))) | exact may_0 (Or.inr (bI_d0.mp (by assumption))) | exact may_1 (fun q => absurd ((hS2.kq (by omega) (b := 4) (by omega)).mp q) (by omega)) (bI_dn.mp (by assumption))))]
            exact ih (by omega)
    exact loop 0 (Nat.zero_le _)
  · show AW X 0 0 16 [some (.ref 44), none, none] [] T I2 J2 R
    refine aw_iconst (v := 0) hC dX12_conflict_16 (by decide) ?_
    exact aw_ireturn hC hq rfl dX12_conflict_17 a_le a_le ⟨_, rfl, rfl, rfl, I2, J2, hSol, by rw [if_pos (by assumption)], BaseF.refl _, hz2⟩
set_option maxRecDepth 100000 in
theorem m_X12_moveF1 {T : List aT} {I : aI} {J : aJ} {R : aR} (hT : aPT T) (hR : aPR R) {g : Nat} (hg : I 44 20 = nI g) (hg4 : g ≤ 4) (x y : Int32) (hx : ¬ ((0 ≤ x ∧ x < nI (16 * g)) ∧ (0 ≤ y ∧ y < nI (16 * g)))) : MX12_move 0 0 [.ref 44, .int x, .int y] T I J R (aPure (some (.int (0))) T (a_u I 44 61 1) J R) := by
  refine a_met (by decide +kernel) a_le (fun X hC hq => ?_)
  show AW X 0 0 0 [some (.ref 44), some (.int x), some (.int y), none] [] T I J R
  refine aw_aload_n hC dX12_move_0 rfl ?_
  refine aw_aload_n hC dX12_move_1 rfl ?_
  refine aw_iload_n hC dX12_move_2 rfl ?_
  refine kX12_374 hC rfl (m_X12_isName (I := I) (J := J) hT hR x (g := g) hg hg4) dX12_move_3 (tg_44 hT) rfl a_le a_le a_le a_le a_le rfl aPure_x (aPure_k ?_)
  show AW X 0 0 6 [some (.ref 44), some (.int x), some (.int y), none] [.int (bI (decide (0 ≤ x ∧ x < nI (16 * g)))), .ref 44] T I J R
  refine aw_if_eq (tgt := 21) hC dX12_move_6 (by decide) (fun h1 => ?_) (fun h1 => ?_)
  · show AW X 0 0 21 [some (.ref 44), some (.int x), some (.int y), none] [.ref 44] T I J R
    refine aw_iconst (v := 1) hC dX12_move_21 (by decide) ?_
    refine aw_putI hC dX12_move_22 aF_X12_166 rfl rfl (tg_44 hT) ?_
    refine aw_aload_n hC dX12_move_25 rfl ?_
    refine aw_getI hC dX12_move_26 aF_X12_166 rfl (tg_44 hT) ?_
    rw [a_u_self (f := I) (o := 44) (k := 61) (v := 1)]
    refine aw_if_le (tgt := 34) hC dX12_move_29 (by decide) (fun h2 => absurd h2 (by decide)) (fun _ => ?_)
    show AW X 0 0 32 [some (.ref 44), some (.int x), some (.int y), none] [] T (a_u I 44 61 1) J R
    refine aw_iconst (v := 0) hC dX12_move_32 (by decide) ?_
    exact aw_ireturn hC hq rfl dX12_move_33 a_le a_le (aPure_e (by clear hC hq; (try simp only [bI_e0, bI_n0, decide_eq_false_iff_not, decide_eq_true_eq, Classical.not_not] at *) <;> first | grind [nI_p1, a_u_2] | (exfalso; (simp only [i_le, i_lt, i_eq, Int32.reduceToInt] at *); omega)) (by clear hC hq; (try simp only [bI_e0, bI_n0, decide_eq_false_iff_not, decide_eq_true_eq, Classical.not_not] at *) <;> first | grind [nI_p1, a_u_2] | (exfalso; (simp only [i_le, i_lt, i_eq, Int32.reduceToInt] at *); omega)) rfl rfl)
  · show AW X 0 0 9 [some (.ref 44), some (.int x), some (.int y), none] [.ref 44] T I J R
    refine aw_aload_n hC dX12_move_9 rfl ?_
    refine aw_iload_n hC dX12_move_10 rfl ?_
    refine kX12_374 hC rfl (m_X12_isName (I := I) (J := J) hT hR y (g := g) hg hg4) dX12_move_11 (tg_44 hT) rfl a_le a_le a_le a_le a_le rfl aPure_x (aPure_k ?_)
    show AW X 0 0 14 [some (.ref 44), some (.int x), some (.int y), none] [.int (bI (decide (0 ≤ y ∧ y < nI (16 * g)))), .ref 44] T I J R
    refine aw_if_eq (tgt := 21) hC dX12_move_14 (by decide) (fun h3 => ?_) (fun h3 => ?_)
    · show AW X 0 0 21 [some (.ref 44), some (.int x), some (.int y), none] [.ref 44] T I J R
      refine aw_iconst (v := 1) hC dX12_move_21 (by decide) ?_
      refine aw_putI hC dX12_move_22 aF_X12_166 rfl rfl (tg_44 hT) ?_
      refine aw_aload_n hC dX12_move_25 rfl ?_
      refine aw_getI hC dX12_move_26 aF_X12_166 rfl (tg_44 hT) ?_
      rw [a_u_self (f := I) (o := 44) (k := 61) (v := 1)]
      refine aw_if_le (tgt := 34) hC dX12_move_29 (by decide) (fun h4 => absurd h4 (by decide)) (fun _ => ?_)
      show AW X 0 0 32 [some (.ref 44), some (.int x), some (.int y), none] [] T (a_u I 44 61 1) J R
      refine aw_iconst (v := 0) hC dX12_move_32 (by decide) ?_
      exact aw_ireturn hC hq rfl dX12_move_33 a_le a_le (aPure_e (by clear hC hq; (try simp only [bI_e0, bI_n0, decide_eq_false_iff_not, decide_eq_true_eq, Classical.not_not] at *) <;> first | grind [nI_p1, a_u_2] | (exfalso; (simp only [i_le, i_lt, i_eq, Int32.reduceToInt] at *); omega)) (by clear hC hq; (try simp only [bI_e0, bI_n0, decide_eq_false_iff_not, decide_eq_true_eq, Classical.not_not] at *) <;> first | grind [nI_p1, a_u_2] | (exfalso; (simp only [i_le, i_lt, i_eq, Int32.reduceToInt] at *); omega)) rfl rfl)
    · show AW X 0 0 17 [some (.ref 44), some (.int x), some (.int y), none] [.ref 44] T I J R
      exfalso; clear hC hq; (try simp only [bI_e0, bI_n0, decide_eq_false_iff_not, decide_eq_true_eq, Classical.not_not] at *); grind
abbrev canMv (I : aI) (x y : Nat) : Prop := I 44 45 < 0 ∧ I 69 x ≠ 0 ∧ ¬ 0 < I 69 y ∧ I 62 (x / 16) = I 62 (y / 16)
abbrev mvR (I : aI) (r x y k : Nat) : Nat → Int32 := fun j => if 3 * y ≤ j ∧ j < 3 * y + k then I r (3 * x + (j - 3 * y)) else I r j
theorem mv_put {I : aI} {r x y k : Nat} (hne : x ≠ y) (hk : k < 3) (j : Nat) : (if j = 3 * y + k then mvR I r x y k (3 * x + k) else mvR I r x y k j) = mvR I r x y (k + 1) j := by
  simp only [mvR]
  by_cases e : j = 3 * y + k
  · subst e; rw [if_pos rfl, if_neg (by omega), if_pos (by omega), show 3 * y + k - 3 * y = k by omega]
  · rw [if_neg e]
    by_cases c : 3 * y ≤ j ∧ j < 3 * y + k
    · rw [if_pos c, if_pos (by omega)]
    · rw [if_neg c, if_neg (by omega)]
abbrev mvS (I : aI) (x y : Nat) : aI := a_u (a_u (a_ur (a_ur (a_u (a_u (a_u (a_u I 44 61 0) 69 y (I 69 x)) 71 y (I 71 x)) 72 y (I 72 x)) 70 (mvR I 70 x y 3)) 73 (mvR I 73 x y 3)) 69 x 0) 44 35 (I 44 35 + 1)
set_option maxRecDepth 100000 in
theorem m_X12_moveF2 {T : List aT} {I : aI} {J : aJ} {R : aR} (hT : aPT T) (hR : aPR R) {g : Nat} (hg : I 44 20 = nI g) (hg4 : g ≤ 4) {x y : Nat} (hx : x < 16 * g) (hy : y < 16 * g) (hb : ¬ canMv I x y) : MX12_move 0 0 [.ref 44, .int (nI x), .int (nI y)] T I J R (aPure (some (.int (0))) T (a_u I 44 61 2) J R) := by
  refine a_met (by decide +kernel) a_le (fun X hC hq => ?_)
  show AW X 0 0 0 [some (.ref 44), some (.int (nI x)), some (.int (nI y)), none] [] T I J R
  refine aw_aload_n hC dX12_move_0 rfl ?_
  refine aw_aload_n hC dX12_move_1 rfl ?_
  refine aw_iload_n hC dX12_move_2 rfl ?_
  refine kX12_374 hC rfl (m_X12_isName (I := I) (J := J) hT hR (nI x) (g := g) hg hg4) dX12_move_3 (tg_44 hT) rfl a_le a_le a_le a_le a_le rfl aPure_x (aPure_k ?_)
  show AW X 0 0 6 [some (.ref 44), some (.int (nI x)), some (.int (nI y)), none] [.int (bI (decide (0 ≤ (nI x) ∧ (nI x) < nI (16 * g)))), .ref 44] T I J R
  rw [show bI (decide (0 ≤ (nI x) ∧ (nI x) < nI (16 * g))) = 1 from bI_one (nI_btw hx (by omega))]
  refine aw_if_eq (tgt := 21) hC dX12_move_6 (by decide) (fun h1 => absurd h1 (by decide)) (fun _ => ?_)
  show AW X 0 0 9 [some (.ref 44), some (.int (nI x)), some (.int (nI y)), none] [.ref 44] T I J R
  refine aw_aload_n hC dX12_move_9 rfl ?_
  refine aw_iload_n hC dX12_move_10 rfl ?_
  refine kX12_374 hC rfl (m_X12_isName (I := I) (J := J) hT hR (nI y) (g := g) hg hg4) dX12_move_11 (tg_44 hT) rfl a_le a_le a_le a_le a_le rfl aPure_x (aPure_k ?_)
  show AW X 0 0 14 [some (.ref 44), some (.int (nI x)), some (.int (nI y)), none] [.int (bI (decide (0 ≤ (nI y) ∧ (nI y) < nI (16 * g)))), .ref 44] T I J R
  rw [show bI (decide (0 ≤ (nI y) ∧ (nI y) < nI (16 * g))) = 1 from bI_one (nI_btw hy (by omega))]
  refine aw_if_eq (tgt := 21) hC dX12_move_14 (by decide) (fun h2 => absurd h2 (by decide)) (fun _ => ?_)
  show AW X 0 0 17 [some (.ref 44), some (.int (nI x)), some (.int (nI y)), none] [.ref 44] T I J R
  refine aw_iconst (v := 0) hC dX12_move_17 (by decide) ?_
  refine aw_goto (tgt := 22) hC dX12_move_18 (by decide) ?_
  refine aw_putI hC dX12_move_22 aF_X12_166 rfl rfl (tg_44 hT) ?_
  refine aw_aload_n hC dX12_move_25 rfl ?_
  refine aw_getI hC dX12_move_26 aF_X12_166 rfl (tg_44 hT) ?_
  rw [a_u_self (f := I) (o := 44) (k := 61) (v := 0)]
  refine aw_if_le (tgt := 34) hC dX12_move_29 (by decide) (fun _ => ?_) (fun h3 => absurd h3 (by decide))
  show AW X 0 0 34 [some (.ref 44), some (.int (nI x)), some (.int (nI y)), none] [] T (a_u I 44 61 0) J R
  refine aw_aload_n hC dX12_move_34 rfl ?_
  refine aw_aload_n hC dX12_move_35 rfl ?_
  refine aw_getI hC dX12_move_36 aF_X12_123 rfl (tg_44 hT) ?_
  rw [a_u_ne (f := I) (o := 44) (k := 61) (a := 44) (b := 45) (v := 0) (fun q => absurd q.2 (by decide))]
  refine aw_if_ge (tgt := 81) hC dX12_move_39 (by decide) (fun h4 => ?_) (fun h4 => ?_)
  · show AW X 0 0 81 [some (.ref 44), some (.int (nI x)), some (.int (nI y)), none] [.ref 44] T (a_u I 44 61 0) J R
    refine aw_iconst (v := 2) hC dX12_move_81 (by decide) ?_
    refine aw_goto (tgt := 86) hC dX12_move_82 (by decide) ?_
    refine aw_putI hC dX12_move_86 aF_X12_166 rfl rfl (tg_44 hT) ?_
    refine aw_aload_n hC dX12_move_89 rfl ?_
    refine aw_getI hC dX12_move_90 aF_X12_166 rfl (tg_44 hT) ?_
    rw [a_u_self (f := a_u I 44 61 0) (o := 44) (k := 61) (v := 2)]
    refine aw_if_le (tgt := 98) hC dX12_move_93 (by decide) (fun h5 => absurd h5 (by decide)) (fun _ => ?_)
    show AW X 0 0 96 [some (.ref 44), some (.int (nI x)), some (.int (nI y)), none] [] T (a_u (a_u I 44 61 0) 44 61 2) J R
    refine aw_iconst (v := 0) hC dX12_move_96 (by decide) ?_
    exact aw_ireturn hC hq rfl dX12_move_97 a_le a_le (aPure_e (by clear hC hq; (try simp only [bI_e0, bI_n0, decide_eq_false_iff_not, decide_eq_true_eq, Classical.not_not] at *) <;> first | grind [nI_p1, a_u_2] | (exfalso; (simp only [i_le, i_lt, i_eq, Int32.reduceToInt] at *); omega)) (by clear hC hq; (try simp only [bI_e0, bI_n0, decide_eq_false_iff_not, decide_eq_true_eq, Classical.not_not] at *) <;> first | grind [nI_p1, a_u_2] | (exfalso; (simp only [i_le, i_lt, i_eq, Int32.reduceToInt] at *); omega)) rfl rfl)
  · show AW X 0 0 42 [some (.ref 44), some (.int (nI x)), some (.int (nI y)), none] [.ref 44] T (a_u I 44 61 0) J R
    refine aw_aload_n hC dX12_move_42 rfl ?_
    refine aw_getR hC dX12_move_43 aF_X12_83 rfl (tg_44 hT) (pr_44_29 hR) ?_
    refine aw_iload_n hC dX12_move_46 rfl ?_
    refine aw_iaload_k (j := x) hC dX12_move_47 (tg_69 hT) (nI_clamp (by omega)) (vp_in_nI (by omega) (by decide)) ?_
    rw [a_u_ne (f := I) (o := 44) (k := 61) (a := 69) (b := x) (v := 0) (fun q => absurd q.1 (by decide))]
    refine aw_if_eq (tgt := 81) hC dX12_move_48 (by decide) (fun h6 => ?_) (fun h6 => ?_)
    · show AW X 0 0 81 [some (.ref 44), some (.int (nI x)), some (.int (nI y)), none] [.ref 44] T (a_u I 44 61 0) J R
      refine aw_iconst (v := 2) hC dX12_move_81 (by decide) ?_
      refine aw_goto (tgt := 86) hC dX12_move_82 (by decide) ?_
      refine aw_putI hC dX12_move_86 aF_X12_166 rfl rfl (tg_44 hT) ?_
      refine aw_aload_n hC dX12_move_89 rfl ?_
      refine aw_getI hC dX12_move_90 aF_X12_166 rfl (tg_44 hT) ?_
      rw [a_u_self (f := a_u I 44 61 0) (o := 44) (k := 61) (v := 2)]
      refine aw_if_le (tgt := 98) hC dX12_move_93 (by decide) (fun h7 => absurd h7 (by decide)) (fun _ => ?_)
      show AW X 0 0 96 [some (.ref 44), some (.int (nI x)), some (.int (nI y)), none] [] T (a_u (a_u I 44 61 0) 44 61 2) J R
      refine aw_iconst (v := 0) hC dX12_move_96 (by decide) ?_
      exact aw_ireturn hC hq rfl dX12_move_97 a_le a_le (aPure_e (by clear hC hq; (try simp only [bI_e0, bI_n0, decide_eq_false_iff_not, decide_eq_true_eq, Classical.not_not] at *) <;> first | grind [nI_p1, a_u_2] | (exfalso; (simp only [i_le, i_lt, i_eq, Int32.reduceToInt] at *); omega)) (by clear hC hq; (try simp only [bI_e0, bI_n0, decide_eq_false_iff_not, decide_eq_true_eq, Classical.not_not] at *) <;> first | grind [nI_p1, a_u_2] | (exfalso; (simp only [i_le, i_lt, i_eq, Int32.reduceToInt] at *); omega)) rfl rfl)
    · show AW X 0 0 51 [some (.ref 44), some (.int (nI x)), some (.int (nI y)), none] [.ref 44] T (a_u I 44 61 0) J R
      refine aw_aload_n hC dX12_move_51 rfl ?_
      refine aw_getR hC dX12_move_52 aF_X12_83 rfl (tg_44 hT) (pr_44_29 hR) ?_
      refine aw_iload_n hC dX12_move_55 rfl ?_
      refine aw_iaload_k (j := y) hC dX12_move_56 (tg_69 hT) (nI_clamp (by omega)) (vp_in_nI (by omega) (by decide)) ?_
      rw [a_u_ne (f := I) (o := 44) (k := 61) (a := 69) (b := y) (v := 0) (fun q => absurd q.1 (by decide))]
      refine aw_if_gt (tgt := 81) hC dX12_move_57 (by decide) (fun h8 => ?_) (fun h8 => ?_)
      · show AW X 0 0 81 [some (.ref 44), some (.int (nI x)), some (.int (nI y)), none] [.ref 44] T (a_u I 44 61 0) J R
        refine aw_iconst (v := 2) hC dX12_move_81 (by decide) ?_
        refine aw_goto (tgt := 86) hC dX12_move_82 (by decide) ?_
        refine aw_putI hC dX12_move_86 aF_X12_166 rfl rfl (tg_44 hT) ?_
        refine aw_aload_n hC dX12_move_89 rfl ?_
        refine aw_getI hC dX12_move_90 aF_X12_166 rfl (tg_44 hT) ?_
        rw [a_u_self (f := a_u I 44 61 0) (o := 44) (k := 61) (v := 2)]
        refine aw_if_le (tgt := 98) hC dX12_move_93 (by decide) (fun h9 => absurd h9 (by decide)) (fun _ => ?_)
        show AW X 0 0 96 [some (.ref 44), some (.int (nI x)), some (.int (nI y)), none] [] T (a_u (a_u I 44 61 0) 44 61 2) J R
        refine aw_iconst (v := 0) hC dX12_move_96 (by decide) ?_
        exact aw_ireturn hC hq rfl dX12_move_97 a_le a_le (aPure_e (by clear hC hq; (try simp only [bI_e0, bI_n0, decide_eq_false_iff_not, decide_eq_true_eq, Classical.not_not] at *) <;> first | grind [nI_p1, a_u_2] | (exfalso; (simp only [i_le, i_lt, i_eq, Int32.reduceToInt] at *); omega)) (by clear hC hq; (try simp only [bI_e0, bI_n0, decide_eq_false_iff_not, decide_eq_true_eq, Classical.not_not] at *) <;> first | grind [nI_p1, a_u_2] | (exfalso; (simp only [i_le, i_lt, i_eq, Int32.reduceToInt] at *); omega)) rfl rfl)
      · show AW X 0 0 60 [some (.ref 44), some (.int (nI x)), some (.int (nI y)), none] [.ref 44] T (a_u I 44 61 0) J R
        refine aw_aload_n hC dX12_move_60 rfl ?_
        refine aw_getR hC dX12_move_61 aF_X12_62 rfl (tg_44 hT) (pr_44_21 hR) ?_
        refine aw_iload_n hC dX12_move_64 rfl ?_
        refine aw_bipush (v := 16) hC dX12_move_65 (by decide) ?_
        refine aw_idiv hC dX12_move_67 (by decide) ?_
        rw [show (nI x) / 16 = nI (x / 16) from pk_div (a := x) (d := 16) (by omega) (by decide) (by decide)]
        refine aw_iaload_k (j := (x / 16)) hC dX12_move_68 (tg_62 hT) (nI_clamp (by omega)) (vp_in_nI (by omega) (by decide)) ?_
        rw [a_u_ne (f := I) (o := 44) (k := 61) (a := 62) (b := (x / 16)) (v := 0) (fun q => absurd q.1 (by decide))]
        refine aw_aload_n hC dX12_move_69 rfl ?_
        refine aw_getR hC dX12_move_70 aF_X12_62 rfl (tg_44 hT) (pr_44_21 hR) ?_
        refine aw_iload_n hC dX12_move_73 rfl ?_
        refine aw_bipush (v := 16) hC dX12_move_74 (by decide) ?_
        refine aw_idiv hC dX12_move_76 (by decide) ?_
        rw [show (nI y) / 16 = nI (y / 16) from pk_div (a := y) (d := 16) (by omega) (by decide) (by decide)]
        refine aw_iaload_k (j := (y / 16)) hC dX12_move_77 (tg_62 hT) (nI_clamp (by omega)) (vp_in_nI (by omega) (by decide)) ?_
        rw [a_u_ne (f := I) (o := 44) (k := 61) (a := 62) (b := (y / 16)) (v := 0) (fun q => absurd q.1 (by decide))]
        refine aw_icmp_eq (tgt := 85) hC dX12_move_78 (by decide) (fun h10 => ?_) (fun h10 => ?_)
        · show AW X 0 0 85 [some (.ref 44), some (.int (nI x)), some (.int (nI y)), none] [.ref 44] T (a_u I 44 61 0) J R
          exfalso; apply hb; (try simp only [bI_e0, bI_n0, decide_eq_false_iff_not, decide_eq_true_eq, Classical.not_not] at *); exact ⟨by first | assumption | exact Int32.not_le.mp (by assumption), by assumption, by first | assumption | exact Int32.not_lt.mpr (by assumption), by assumption⟩
        · show AW X 0 0 81 [some (.ref 44), some (.int (nI x)), some (.int (nI y)), none] [.ref 44] T (a_u I 44 61 0) J R
          refine aw_iconst (v := 2) hC dX12_move_81 (by decide) ?_
          refine aw_goto (tgt := 86) hC dX12_move_82 (by decide) ?_
          refine aw_putI hC dX12_move_86 aF_X12_166 rfl rfl (tg_44 hT) ?_
          refine aw_aload_n hC dX12_move_89 rfl ?_
          refine aw_getI hC dX12_move_90 aF_X12_166 rfl (tg_44 hT) ?_
          rw [a_u_self (f := a_u I 44 61 0) (o := 44) (k := 61) (v := 2)]
          refine aw_if_le (tgt := 98) hC dX12_move_93 (by decide) (fun h11 => absurd h11 (by decide)) (fun _ => ?_)
          show AW X 0 0 96 [some (.ref 44), some (.int (nI x)), some (.int (nI y)), none] [] T (a_u (a_u I 44 61 0) 44 61 2) J R
          refine aw_iconst (v := 0) hC dX12_move_96 (by decide) ?_
          exact aw_ireturn hC hq rfl dX12_move_97 a_le a_le (aPure_e (by clear hC hq; (try simp only [bI_e0, bI_n0, decide_eq_false_iff_not, decide_eq_true_eq, Classical.not_not] at *) <;> first | grind [nI_p1, a_u_2] | (exfalso; (simp only [i_le, i_lt, i_eq, Int32.reduceToInt] at *); omega)) (by clear hC hq; (try simp only [bI_e0, bI_n0, decide_eq_false_iff_not, decide_eq_true_eq, Classical.not_not] at *) <;> first | grind [nI_p1, a_u_2] | (exfalso; (simp only [i_le, i_lt, i_eq, Int32.reduceToInt] at *); omega)) rfl rfl)
set_option maxRecDepth 100000 in
theorem m_X12_moveT {T : List aT} {I : aI} {J : aJ} {R : aR} (hT : aPT T) (hR : aPR R) {g : Nat} (hg : I 44 20 = nI g) (hg4 : g ≤ 4) {x y : Nat} (hx : x < 16 * g) (hy : y < 16 * g) (hm : canMv I x y) (h71 : B01 I 71) (hpe : ∀ {j : Nat}, I 69 j ≠ 0 → 0 < I 69 j) : MX12_move 0 0 [.ref 44, .int (nI x), .int (nI y)] T I J R (aPure (some (.int (I 44 35 + 1))) T (mvS I x y) J R) := by
  refine a_met (by decide +kernel) a_le (fun X hC hq => ?_)
  show AW X 0 0 0 [some (.ref 44), some (.int (nI x)), some (.int (nI y)), none] [] T I J R
  have h71x : I 71 x = 0 ∨ I 71 x = 1 := h71 x
  refine aw_aload_n hC dX12_move_0 rfl ?_
  refine aw_aload_n hC dX12_move_1 rfl ?_
  refine aw_iload_n hC dX12_move_2 rfl ?_
  refine kX12_374 hC rfl (m_X12_isName (I := I) (J := J) hT hR (nI x) (g := g) hg hg4) dX12_move_3 (tg_44 hT) rfl a_le a_le a_le a_le a_le rfl aPure_x (aPure_k ?_)
  show AW X 0 0 6 [some (.ref 44), some (.int (nI x)), some (.int (nI y)), none] [.int (bI (decide (0 ≤ (nI x) ∧ (nI x) < nI (16 * g)))), .ref 44] T I J R
  rw [show bI (decide (0 ≤ (nI x) ∧ (nI x) < nI (16 * g))) = 1 from bI_one (nI_btw hx (by omega))]
  refine aw_if_eq (tgt := 21) hC dX12_move_6 (by decide) (fun h1 => absurd h1 (by decide)) (fun _ => ?_)
  show AW X 0 0 9 [some (.ref 44), some (.int (nI x)), some (.int (nI y)), none] [.ref 44] T I J R
  refine aw_aload_n hC dX12_move_9 rfl ?_
  refine aw_iload_n hC dX12_move_10 rfl ?_
  refine kX12_374 hC rfl (m_X12_isName (I := I) (J := J) hT hR (nI y) (g := g) hg hg4) dX12_move_11 (tg_44 hT) rfl a_le a_le a_le a_le a_le rfl aPure_x (aPure_k ?_)
  show AW X 0 0 14 [some (.ref 44), some (.int (nI x)), some (.int (nI y)), none] [.int (bI (decide (0 ≤ (nI y) ∧ (nI y) < nI (16 * g)))), .ref 44] T I J R
  rw [show bI (decide (0 ≤ (nI y) ∧ (nI y) < nI (16 * g))) = 1 from bI_one (nI_btw hy (by omega))]
  refine aw_if_eq (tgt := 21) hC dX12_move_14 (by decide) (fun h2 => absurd h2 (by decide)) (fun _ => ?_)
  show AW X 0 0 17 [some (.ref 44), some (.int (nI x)), some (.int (nI y)), none] [.ref 44] T I J R
  refine aw_iconst (v := 0) hC dX12_move_17 (by decide) ?_
  refine aw_goto (tgt := 22) hC dX12_move_18 (by decide) ?_
  refine aw_putI hC dX12_move_22 aF_X12_166 rfl rfl (tg_44 hT) ?_
  refine aw_aload_n hC dX12_move_25 rfl ?_
  refine aw_getI hC dX12_move_26 aF_X12_166 rfl (tg_44 hT) ?_
  rw [a_u_self (f := I) (o := 44) (k := 61) (v := 0)]
  refine aw_if_le (tgt := 34) hC dX12_move_29 (by decide) (fun _ => ?_) (fun h3 => absurd h3 (by decide))
  show AW X 0 0 34 [some (.ref 44), some (.int (nI x)), some (.int (nI y)), none] [] T (a_u I 44 61 0) J R
  refine aw_aload_n hC dX12_move_34 rfl ?_
  refine aw_aload_n hC dX12_move_35 rfl ?_
  refine aw_getI hC dX12_move_36 aF_X12_123 rfl (tg_44 hT) ?_
  rw [a_u_ne (f := I) (o := 44) (k := 61) (a := 44) (b := 45) (v := 0) (fun q => absurd q.2 (by decide))]
  refine aw_if_ge (tgt := 81) hC dX12_move_39 (by decide) (fun h => absurd hm.1 (Int32.not_lt.mpr h)) (fun _ => ?_)
  show AW X 0 0 42 [some (.ref 44), some (.int (nI x)), some (.int (nI y)), none] [.ref 44] T (a_u I 44 61 0) J R
  refine aw_aload_n hC dX12_move_42 rfl ?_
  refine aw_getR hC dX12_move_43 aF_X12_83 rfl (tg_44 hT) (pr_44_29 hR) ?_
  refine aw_iload_n hC dX12_move_46 rfl ?_
  refine aw_iaload_k (j := x) hC dX12_move_47 (tg_69 hT) (nI_clamp (by omega)) (vp_in_nI (by omega) (by decide)) ?_
  rw [a_u_ne (f := I) (o := 44) (k := 61) (a := 69) (b := x) (v := 0) (fun q => absurd q.1 (by decide))]
  refine aw_if_eq (tgt := 81) hC dX12_move_48 (by decide) (fun h => absurd h hm.2.1) (fun _ => ?_)
  show AW X 0 0 51 [some (.ref 44), some (.int (nI x)), some (.int (nI y)), none] [.ref 44] T (a_u I 44 61 0) J R
  refine aw_aload_n hC dX12_move_51 rfl ?_
  refine aw_getR hC dX12_move_52 aF_X12_83 rfl (tg_44 hT) (pr_44_29 hR) ?_
  refine aw_iload_n hC dX12_move_55 rfl ?_
  refine aw_iaload_k (j := y) hC dX12_move_56 (tg_69 hT) (nI_clamp (by omega)) (vp_in_nI (by omega) (by decide)) ?_
  rw [a_u_ne (f := I) (o := 44) (k := 61) (a := 69) (b := y) (v := 0) (fun q => absurd q.1 (by decide))]
  refine aw_if_gt (tgt := 81) hC dX12_move_57 (by decide) (fun h => absurd h hm.2.2.1) (fun _ => ?_)
  show AW X 0 0 60 [some (.ref 44), some (.int (nI x)), some (.int (nI y)), none] [.ref 44] T (a_u I 44 61 0) J R
  refine aw_aload_n hC dX12_move_60 rfl ?_
  refine aw_getR hC dX12_move_61 aF_X12_62 rfl (tg_44 hT) (pr_44_21 hR) ?_
  refine aw_iload_n hC dX12_move_64 rfl ?_
  refine aw_bipush (v := 16) hC dX12_move_65 (by decide) ?_
  refine aw_idiv hC dX12_move_67 (by decide) ?_
  rw [show (nI x) / 16 = nI (x / 16) from pk_div (a := x) (d := 16) (by omega) (by decide) (by decide)]
  refine aw_iaload_k (j := (x / 16)) hC dX12_move_68 (tg_62 hT) (nI_clamp (by omega)) (vp_in_nI (by omega) (by decide)) ?_
  rw [a_u_ne (f := I) (o := 44) (k := 61) (a := 62) (b := (x / 16)) (v := 0) (fun q => absurd q.1 (by decide))]
  refine aw_aload_n hC dX12_move_69 rfl ?_
  refine aw_getR hC dX12_move_70 aF_X12_62 rfl (tg_44 hT) (pr_44_21 hR) ?_
  refine aw_iload_n hC dX12_move_73 rfl ?_
  refine aw_bipush (v := 16) hC dX12_move_74 (by decide) ?_
  refine aw_idiv hC dX12_move_76 (by decide) ?_
  rw [show (nI y) / 16 = nI (y / 16) from pk_div (a := y) (d := 16) (by omega) (by decide) (by decide)]
  refine aw_iaload_k (j := (y / 16)) hC dX12_move_77 (tg_62 hT) (nI_clamp (by omega)) (vp_in_nI (by omega) (by decide)) ?_
  rw [a_u_ne (f := I) (o := 44) (k := 61) (a := 62) (b := (y / 16)) (v := 0) (fun q => absurd q.1 (by decide))]
  refine aw_icmp_eq (tgt := 85) hC dX12_move_78 (by decide) (fun _ => ?_) (fun h => absurd hm.2.2.2 h)
  show AW X 0 0 85 [some (.ref 44), some (.int (nI x)), some (.int (nI y)), none] [.ref 44] T (a_u I 44 61 0) J R
  refine aw_iconst (v := 0) hC dX12_move_85 (by decide) ?_
  refine aw_putI hC dX12_move_86 aF_X12_166 rfl rfl (tg_44 hT) ?_
  rw [a_u_2]
  refine aw_aload_n hC dX12_move_89 rfl ?_
  refine aw_getI hC dX12_move_90 aF_X12_166 rfl (tg_44 hT) ?_
  rw [a_u_self (f := I) (o := 44) (k := 61) (v := 0)]
  refine aw_if_le (tgt := 98) hC dX12_move_93 (by decide) (fun _ => ?_) (fun h4 => absurd h4 (by decide))
  show AW X 0 0 98 [some (.ref 44), some (.int (nI x)), some (.int (nI y)), none] [] T (a_u I 44 61 0) J R
  refine aw_aload_n hC dX12_move_98 rfl ?_
  refine aw_getR hC dX12_move_99 aF_X12_83 rfl (tg_44 hT) (pr_44_29 hR) ?_
  refine aw_iload_n hC dX12_move_102 rfl ?_
  refine aw_aload_n hC dX12_move_103 rfl ?_
  refine aw_getR hC dX12_move_104 aF_X12_83 rfl (tg_44 hT) (pr_44_29 hR) ?_
  refine aw_iload_n hC dX12_move_107 rfl ?_
  refine aw_iaload_k (j := x) hC dX12_move_108 (tg_69 hT) (nI_clamp (by omega)) (vp_in_nI (by omega) (by decide)) ?_
  rw [a_u_ne (f := I) (o := 44) (k := 61) (a := 69) (b := x) (v := 0) (fun q => absurd q.1 (by decide))]
  refine aw_iastore_k (j := y) hC dX12_move_109 (tg_69 hT) (nI_clamp (by omega)) (vp_in_nI (by omega) (by decide)) ?_
  refine aw_aload_n hC dX12_move_110 rfl ?_
  refine aw_getR hC dX12_move_111 aF_X12_89 rfl (tg_44 hT) (pr_44_31 hR) ?_
  refine aw_iload_n hC dX12_move_114 rfl ?_
  refine aw_aload_n hC dX12_move_115 rfl ?_
  refine aw_getR hC dX12_move_116 aF_X12_89 rfl (tg_44 hT) (pr_44_31 hR) ?_
  refine aw_iload_n hC dX12_move_119 rfl ?_
  refine aw_baload_k (j := x) hC dX12_move_120 (tg_71 hT) (nI_clamp (by omega)) (vp_in_nI (by omega) (by decide)) ?_
  rw [a_u_ne (f := a_u I 44 61 0) (o := 69) (k := y) (a := 71) (b := x) (v := I 69 x) (fun q => absurd q.1 (by decide))]
  rw [a_u_ne (f := I) (o := 44) (k := 61) (a := 71) (b := x) (v := 0) (fun q => absurd q.1 (by decide))]
  refine aw_bastore_k (j := y) hC dX12_move_121 (tg_71 hT) (nI_clamp (by omega)) (vp_in_nI (by omega) (by decide)) (by first | assumption | exact bI_01 _) ?_
  refine aw_aload_n hC dX12_move_122 rfl ?_
  refine aw_getR hC dX12_move_123 aF_X12_92 rfl (tg_44 hT) (pr_44_32 hR) ?_
  refine aw_iload_n hC dX12_move_126 rfl ?_
  refine aw_aload_n hC dX12_move_127 rfl ?_
  refine aw_getR hC dX12_move_128 aF_X12_92 rfl (tg_44 hT) (pr_44_32 hR) ?_
  refine aw_iload_n hC dX12_move_131 rfl ?_
  refine aw_iaload_k (j := x) hC dX12_move_132 (tg_72 hT) (nI_clamp (by omega)) (vp_in_nI (by omega) (by decide)) ?_
  rw [a_u_ne (f := a_u (a_u I 44 61 0) 69 y (I 69 x)) (o := 71) (k := y) (a := 72) (b := x) (v := I 71 x) (fun q => absurd q.1 (by decide))]
  rw [a_u_ne (f := a_u I 44 61 0) (o := 69) (k := y) (a := 72) (b := x) (v := I 69 x) (fun q => absurd q.1 (by decide))]
  rw [a_u_ne (f := I) (o := 44) (k := 61) (a := 72) (b := x) (v := 0) (fun q => absurd q.1 (by decide))]
  refine aw_iastore_k (j := y) hC dX12_move_133 (tg_72 hT) (nI_clamp (by omega)) (vp_in_nI (by omega) (by decide)) ?_
  refine aw_iconst (v := 0) hC dX12_move_134 (by decide) ?_
  refine aw_istore_n (L2 := [some (.ref 44), some (.int (nI x)), some (.int (nI y)), some (.int 0)]) hC dX12_move_135 rfl (by decide) rfl ?_
  have hxy : x ≠ y := fun q => by subst q; exact hm.2.2.1 (hpe hm.2.1)
  rw [show a_u (a_u (a_u (a_u I 44 61 0) 69 y (I 69 x)) 71 y (I 71 x)) 72 y (I 72 x) = a_ur (a_ur (a_u (a_u (a_u (a_u I 44 61 0) 69 y (I 69 x)) 71 y (I 71 x)) 72 y (I 72 x)) 70 (mvR I 70 x y 0)) 73 (mvR I 73 x y 0) from by rw [a_ur_id (f := a_u (a_u (a_u (a_u I 44 61 0) 69 y (I 69 x)) 71 y (I 71 x)) 72 y (I 72 x)) (o := 70) (fun j => by simp only [mvR]; rw [if_neg (by omega), a_u_row (by decide), a_u_row (by decide), a_u_row (by decide), a_u_row (by decide)]), a_ur_id (f := a_u (a_u (a_u (a_u I 44 61 0) 69 y (I 69 x)) 71 y (I 71 x)) 72 y (I 72 x)) (o := 73) (fun j => by simp only [mvR]; rw [if_neg (by omega), a_u_row (by decide), a_u_row (by decide), a_u_row (by decide), a_u_row (by decide)])]]
  have loop : ∀ k, k ≤ 3 → AW X 0 0 136 [some (.ref 44), some (.int (nI x)), some (.int (nI y)), some (.int (nI k))] [] T (a_ur (a_ur (a_u (a_u (a_u (a_u I 44 61 0) 69 y (I 69 x)) 71 y (I 71 x)) 72 y (I 72 x)) 70 (mvR I 70 x y k)) 73 (mvR I 73 x y k)) J R := by
    refine a_down 3 (fun k hkl ih => ?_)
    refine aw_iload_n hC dX12_move_136 rfl ?_
    refine aw_iconst (v := 3) hC dX12_move_137 (by decide) ?_
    refine aw_icmp_ge (tgt := 187) hC dX12_move_138 (by decide) (fun h5 => ?_) (fun h5 => ?_)
    · show AW X 0 0 187 [some (.ref 44), some (.int (nI x)), some (.int (nI y)), some (.int (nI k))] [] T (a_ur (a_ur (a_u (a_u (a_u (a_u I 44 61 0) 69 y (I 69 x)) 71 y (I 71 x)) 72 y (I 72 x)) 70 (mvR I 70 x y k)) 73 (mvR I 73 x y k)) J R
      have h5n : 3 ≤ k := (nI_leI (a := 3) (b := k) (by omega) (by omega)).mp h5
      have e9 : k = 3 := by omega
      rw [e9]
      obtain ⟨I5, hI5⟩ : ∃ I5, I5 = a_ur (a_ur (a_u (a_u (a_u (a_u I 44 61 0) 69 y (I 69 x)) 71 y (I 71 x)) 72 y (I 72 x)) 70 (mvR I 70 x y 3)) 73 (mvR I 73 x y 3) := ⟨_, rfl⟩
      rw [← hI5]
      have hm35 : I5 44 35 = I 44 35 := by rw [hI5, a_ur_ne (by decide), a_ur_ne (by decide), a_u_row (by decide), a_u_row (by decide), a_u_row (by decide), a_u_ne (fun q => absurd q.2 (by decide))]
      refine aw_aload_n hC dX12_move_187 rfl ?_
      refine aw_getR hC dX12_move_188 aF_X12_83 rfl (tg_44 hT) (pr_44_29 hR) ?_
      refine aw_iload_n hC dX12_move_191 rfl ?_
      refine aw_iconst (v := 0) hC dX12_move_192 (by decide) ?_
      refine aw_iastore_k (j := x) hC dX12_move_193 (tg_69 hT) (nI_clamp (by omega)) (vp_in_nI (by omega) (by decide)) ?_
      refine aw_aload_n hC dX12_move_194 rfl ?_
      refine aw_dup hC dX12_move_195 rfl ?_
      refine aw_getI hC dX12_move_196 aF_X12_343 rfl (tg_44 hT) ?_
      rw [a_u_ne (f := I5) (o := 69) (k := x) (a := 44) (b := 35) (v := 0) (fun q => absurd q.1 (by decide))]
      rw [hm35]
      refine aw_iconst (v := 1) hC dX12_move_199 (by decide) ?_
      refine aw_iadd hC dX12_move_200 ?_
      refine aw_putI hC dX12_move_201 aF_X12_343 rfl rfl (tg_44 hT) ?_
      refine aw_aload_n hC dX12_move_204 rfl ?_
      refine aw_getI hC dX12_move_205 aF_X12_343 rfl (tg_44 hT) ?_
      rw [a_u_self (f := a_u I5 69 x 0) (o := 44) (k := 35) (v := (I 44 35) + 1)]
      exact aw_ireturn hC hq rfl dX12_move_208 a_le a_le (aPure_e rfl (by rw [hI5]) rfl rfl)
    · show AW X 0 0 141 [some (.ref 44), some (.int (nI x)), some (.int (nI y)), some (.int (nI k))] [] T (a_ur (a_ur (a_u (a_u (a_u (a_u I 44 61 0) 69 y (I 69 x)) 71 y (I 71 x)) 72 y (I 72 x)) 70 (mvR I 70 x y k)) 73 (mvR I 73 x y k)) J R
      have h5n : ¬ 3 ≤ k := fun q9 => h5 ((nI_leI (a := 3) (b := k) (by omega) (by omega)).mpr q9)
      refine aw_aload_n hC dX12_move_141 rfl ?_
      refine aw_getR hC dX12_move_142 aF_X12_86 rfl (tg_44 hT) (pr_44_30 hR) ?_
      refine aw_iconst (v := 3) hC dX12_move_145 (by decide) ?_
      refine aw_iload_n hC dX12_move_146 rfl ?_
      refine aw_imul hC dX12_move_147 ?_
      rw [show 3 * (nI y) = nI (3 * y) from pk_mul 3 y]
      refine aw_iload_n hC dX12_move_148 rfl ?_
      refine aw_iadd hC dX12_move_149 ?_
      rw [show (nI (3 * y)) + (nI k) = nI ((3 * y) + k) from nI_add (3 * y) k]
      refine aw_aload_n hC dX12_move_150 rfl ?_
      refine aw_getR hC dX12_move_151 aF_X12_86 rfl (tg_44 hT) (pr_44_30 hR) ?_
      refine aw_iconst (v := 3) hC dX12_move_154 (by decide) ?_
      refine aw_iload_n hC dX12_move_155 rfl ?_
      refine aw_imul hC dX12_move_156 ?_
      rw [show 3 * (nI x) = nI (3 * x) from pk_mul 3 x]
      refine aw_iload_n hC dX12_move_157 rfl ?_
      refine aw_iadd hC dX12_move_158 ?_
      rw [show (nI (3 * x)) + (nI k) = nI ((3 * x) + k) from nI_add (3 * x) k]
      refine aw_iaload_k (j := ((3 * x) + k)) hC dX12_move_159 (tg_70 hT) (nI_clamp (by omega)) (vp_in_nI (by omega) (by decide)) ?_
      rw [a_ur_ne (f := a_ur (a_u (a_u (a_u (a_u I 44 61 0) 69 y (I 69 x)) 71 y (I 71 x)) 72 y (I 72 x)) 70 (mvR I 70 x y k)) (o := 73) (a := 70) (g := mvR I 73 x y k) (by decide)]
      rw [a_ur_self (f := a_u (a_u (a_u (a_u I 44 61 0) 69 y (I 69 x)) 71 y (I 71 x)) 72 y (I 72 x)) (o := 70) (g := mvR I 70 x y k)]
      refine aw_iastore_k (j := ((3 * y) + k)) hC dX12_move_160 (tg_70 hT) (nI_clamp (by omega)) (vp_in_nI (by omega) (by decide)) ?_
      rw [show a_u (a_ur (a_ur (a_u (a_u (a_u (a_u I 44 61 0) 69 y (I 69 x)) 71 y (I 71 x)) 72 y (I 72 x)) 70 (mvR I 70 x y k)) 73 (mvR I 73 x y k)) 70 ((3 * y) + k) ((mvR I 70 x y k) ((3 * x) + k)) = a_ur (a_ur (a_u (a_u (a_u (a_u I 44 61 0) 69 y (I 69 x)) 71 y (I 71 x)) 72 y (I 72 x)) 70 (fun j => if j = ((3 * y) + k) then (mvR I 70 x y k) ((3 * x) + k) else (mvR I 70 x y k) j)) 73 (mvR I 73 x y k) from by rw [a_u_swap (by first | decide | omega), a_ur_put]]
      refine aw_aload_n hC dX12_move_161 rfl ?_
      refine aw_getR hC dX12_move_162 aF_X12_95 rfl (tg_44 hT) (pr_44_33 hR) ?_
      refine aw_iconst (v := 3) hC dX12_move_165 (by decide) ?_
      refine aw_iload_n hC dX12_move_166 rfl ?_
      refine aw_imul hC dX12_move_167 ?_
      rw [show 3 * (nI y) = nI (3 * y) from pk_mul 3 y]
      refine aw_iload_n hC dX12_move_168 rfl ?_
      refine aw_iadd hC dX12_move_169 ?_
      rw [show (nI (3 * y)) + (nI k) = nI ((3 * y) + k) from nI_add (3 * y) k]
      refine aw_aload_n hC dX12_move_170 rfl ?_
      refine aw_getR hC dX12_move_171 aF_X12_95 rfl (tg_44 hT) (pr_44_33 hR) ?_
      refine aw_iconst (v := 3) hC dX12_move_174 (by decide) ?_
      refine aw_iload_n hC dX12_move_175 rfl ?_
      refine aw_imul hC dX12_move_176 ?_
      rw [show 3 * (nI x) = nI (3 * x) from pk_mul 3 x]
      refine aw_iload_n hC dX12_move_177 rfl ?_
      refine aw_iadd hC dX12_move_178 ?_
      rw [show (nI (3 * x)) + (nI k) = nI ((3 * x) + k) from nI_add (3 * x) k]
      refine aw_iaload_k (j := ((3 * x) + k)) hC dX12_move_179 (tg_73 hT) (nI_clamp (by omega)) (vp_in_nI (by omega) (by decide)) ?_
      rw [a_ur_self (f := a_ur (a_u (a_u (a_u (a_u I 44 61 0) 69 y (I 69 x)) 71 y (I 71 x)) 72 y (I 72 x)) 70 (fun j => if j = ((3 * y) + k) then (mvR I 70 x y k) ((3 * x) + k) else (mvR I 70 x y k) j)) (o := 73) (g := mvR I 73 x y k)]
      refine aw_iastore_k (j := ((3 * y) + k)) hC dX12_move_180 (tg_73 hT) (nI_clamp (by omega)) (vp_in_nI (by omega) (by decide)) ?_
      rw [show a_u (a_ur (a_ur (a_u (a_u (a_u (a_u I 44 61 0) 69 y (I 69 x)) 71 y (I 71 x)) 72 y (I 72 x)) 70 (fun j => if j = ((3 * y) + k) then (mvR I 70 x y k) ((3 * x) + k) else (mvR I 70 x y k) j)) 73 (mvR I 73 x y k)) 73 ((3 * y) + k) ((mvR I 73 x y k) ((3 * x) + k)) = a_ur (a_ur (a_u (a_u (a_u (a_u I 44 61 0) 69 y (I 69 x)) 71 y (I 71 x)) 72 y (I 72 x)) 70 (fun j => if j = ((3 * y) + k) then (mvR I 70 x y k) ((3 * x) + k) else (mvR I 70 x y k) j)) 73 (fun j => if j = ((3 * y) + k) then (mvR I 73 x y k) ((3 * x) + k) else (mvR I 73 x y k) j) from by rw [a_ur_put]]
      refine aw_iinc (v := nI (k + 1)) (L2 := [some (.ref 44), some (.int (nI x)), some (.int (nI y)), some (.int (nI (k + 1)))]) hC dX12_move_181 rfl (nI_inc _) (by decide) rfl ?_
      refine aw_goto (tgt := 136) hC dX12_move_184 (by decide) ?_
      rw [show a_ur (a_ur (a_u (a_u (a_u (a_u I 44 61 0) 69 y (I 69 x)) 71 y (I 71 x)) 72 y (I 72 x)) 70 (fun j => if j = ((3 * y) + k) then (mvR I 70 x y k) ((3 * x) + k) else (mvR I 70 x y k) j)) 73 (fun j => if j = ((3 * y) + k) then (mvR I 73 x y k) ((3 * x) + k) else (mvR I 73 x y k) j) = a_ur (a_ur (a_u (a_u (a_u (a_u I 44 61 0) 69 y (I 69 x)) 71 y (I 71 x)) 72 y (I 72 x)) 70 (mvR I 70 x y (k + 1))) 73 (mvR I 73 x y (k + 1)) from a_ur_cg (a_ur_ext (mv_put hxy (by omega))) (mv_put hxy (by omega))]
      exact ih (by omega)
  exact loop 0 (Nat.zero_le _)
abbrev tkB (I : aI) (r : Nat) : Bool := anyB (fun k => decide (I 69 k = nI (r + 1))) 64
abbrev canTk (I : aI) (x r : Nat) : Prop := I 44 45 < 0 ∧ ¬ 0 < I 69 x ∧ I 68 r = 0 ∧ tkB I r = false ∧ I 62 (x / 16) = I 66 r
abbrev tkR (I : aI) (x r k : Nat) : Nat → Int32 := fun j => if (3 * x ≤ j ∧ j < 3 * x + k) ∧ I 58 (3 * iN I 62 (x / 16) + (j - 3 * x)) &&& 4 ≠ 0 then 0 else wrS I x r 3 j
theorem tk_put {I : aI} {x r k : Nat} {v : Int32} (hv : (I 58 (3 * iN I 62 (x / 16) + k) &&& 4 ≠ 0 ∧ v = 0) ∨ (I 58 (3 * iN I 62 (x / 16) + k) &&& 4 = 0 ∧ v = tkR I x r k (3 * x + k))) (j : Nat) : (if j = 3 * x + k then v else tkR I x r k j) = tkR I x r (k + 1) j := by
  by_cases e : j = 3 * x + k
  · subst e; rw [if_pos rfl]
    rcases hv with ⟨h, hv⟩ | ⟨h, hv⟩
    · rw [hv]; simp only [tkR]; rw [if_pos ⟨by omega, by rw [show 3 * x + k - 3 * x = k by omega]; exact h⟩]
    · rw [hv]; simp only [tkR]; rw [if_neg (fun q => by omega), if_neg (fun q => by rw [show 3 * x + k - 3 * x = k by omega] at q; exact q.2 h)]
  · rw [if_neg e]; simp only [tkR]
    by_cases c : 3 * x ≤ j ∧ j < 3 * x + k
    · have c2 : 3 * x ≤ j ∧ j < 3 * x + (k + 1) := by omega
      simp only [c, c2]
    · have c2 : ¬ (3 * x ≤ j ∧ j < 3 * x + (k + 1)) := by omega
      simp only [c, c2, false_and, if_false]
abbrev tkS (I : aI) (x r : Nat) : aI := a_u (a_ur (wrT (a_u I 44 61 0) x r) 70 (tkR I x r 3)) 44 35 (I 44 35 + 1)
set_option maxRecDepth 100000 in
theorem m_X12_takeF1 {T : List aT} {I : aI} {J : aJ} {R : aR} (hT : aPT T) (hR : aPR R) {g : Nat} (hg : I 44 20 = nI g) (hg4 : g ≤ 4) {r : Nat} (hr : I 44 25 = nI r) (hr9 : r ≤ 60) (x y : Int32) (hx : ¬ ((0 ≤ x ∧ x < nI (16 * g)) ∧ (0 ≤ y ∧ y < nI r))) : MX12_take 0 0 [.ref 44, .int x, .int y] T I J R (aPure (some (.int (0))) T (a_u I 44 61 1) J R) := by
  refine a_met (by decide +kernel) a_le (fun X hC hq => ?_)
  show AW X 0 0 0 [some (.ref 44), some (.int x), some (.int y), none, none] [] T I J R
  refine aw_aload_n hC dX12_take_0 rfl ?_
  refine aw_aload_n hC dX12_take_1 rfl ?_
  refine aw_iload_n hC dX12_take_2 rfl ?_
  refine kX12_374 hC rfl (m_X12_isName (I := I) (J := J) hT hR x (g := g) hg hg4) dX12_take_3 (tg_44 hT) rfl a_le a_le a_le a_le a_le rfl aPure_x (aPure_k ?_)
  show AW X 0 0 6 [some (.ref 44), some (.int x), some (.int y), none, none] [.int (bI (decide (0 ≤ x ∧ x < nI (16 * g)))), .ref 44] T I J R
  refine aw_if_eq (tgt := 21) hC dX12_take_6 (by decide) (fun h1 => ?_) (fun h1 => ?_)
  · show AW X 0 0 21 [some (.ref 44), some (.int x), some (.int y), none, none] [.ref 44] T I J R
    refine aw_iconst (v := 1) hC dX12_take_21 (by decide) ?_
    refine aw_putI hC dX12_take_22 aF_X12_166 rfl rfl (tg_44 hT) ?_
    refine aw_aload_n hC dX12_take_25 rfl ?_
    refine aw_getI hC dX12_take_26 aF_X12_166 rfl (tg_44 hT) ?_
    rw [a_u_self (f := I) (o := 44) (k := 61) (v := 1)]
    refine aw_if_le (tgt := 34) hC dX12_take_29 (by decide) (fun h2 => absurd h2 (by decide)) (fun _ => ?_)
    show AW X 0 0 32 [some (.ref 44), some (.int x), some (.int y), none, none] [] T (a_u I 44 61 1) J R
    refine aw_iconst (v := 0) hC dX12_take_32 (by decide) ?_
    exact aw_ireturn hC hq rfl dX12_take_33 a_le a_le (aPure_e (by clear hC hq; (try simp only [bI_e0, bI_n0, decide_eq_false_iff_not, decide_eq_true_eq, Classical.not_not] at *) <;> first | grind [nI_p1, a_u_2] | (exfalso; (simp only [i_le, i_lt, i_eq, Int32.reduceToInt] at *); omega)) (by clear hC hq; (try simp only [bI_e0, bI_n0, decide_eq_false_iff_not, decide_eq_true_eq, Classical.not_not] at *) <;> first | grind [nI_p1, a_u_2] | (exfalso; (simp only [i_le, i_lt, i_eq, Int32.reduceToInt] at *); omega)) rfl rfl)
  · show AW X 0 0 9 [some (.ref 44), some (.int x), some (.int y), none, none] [.ref 44] T I J R
    refine aw_aload_n hC dX12_take_9 rfl ?_
    refine aw_iload_n hC dX12_take_10 rfl ?_
    refine kX12_422 hC rfl (m_X12_isResource (I := I) (J := J) hT hR y (r := r) hr (by omega)) dX12_take_11 (tg_44 hT) rfl a_le a_le a_le a_le a_le rfl aPure_x (aPure_k ?_)
    show AW X 0 0 14 [some (.ref 44), some (.int x), some (.int y), none, none] [.int (bI (decide (0 ≤ y ∧ y < nI r))), .ref 44] T I J R
    refine aw_if_eq (tgt := 21) hC dX12_take_14 (by decide) (fun h3 => ?_) (fun h3 => ?_)
    · show AW X 0 0 21 [some (.ref 44), some (.int x), some (.int y), none, none] [.ref 44] T I J R
      refine aw_iconst (v := 1) hC dX12_take_21 (by decide) ?_
      refine aw_putI hC dX12_take_22 aF_X12_166 rfl rfl (tg_44 hT) ?_
      refine aw_aload_n hC dX12_take_25 rfl ?_
      refine aw_getI hC dX12_take_26 aF_X12_166 rfl (tg_44 hT) ?_
      rw [a_u_self (f := I) (o := 44) (k := 61) (v := 1)]
      refine aw_if_le (tgt := 34) hC dX12_take_29 (by decide) (fun h4 => absurd h4 (by decide)) (fun _ => ?_)
      show AW X 0 0 32 [some (.ref 44), some (.int x), some (.int y), none, none] [] T (a_u I 44 61 1) J R
      refine aw_iconst (v := 0) hC dX12_take_32 (by decide) ?_
      exact aw_ireturn hC hq rfl dX12_take_33 a_le a_le (aPure_e (by clear hC hq; (try simp only [bI_e0, bI_n0, decide_eq_false_iff_not, decide_eq_true_eq, Classical.not_not] at *) <;> first | grind [nI_p1, a_u_2] | (exfalso; (simp only [i_le, i_lt, i_eq, Int32.reduceToInt] at *); omega)) (by clear hC hq; (try simp only [bI_e0, bI_n0, decide_eq_false_iff_not, decide_eq_true_eq, Classical.not_not] at *) <;> first | grind [nI_p1, a_u_2] | (exfalso; (simp only [i_le, i_lt, i_eq, Int32.reduceToInt] at *); omega)) rfl rfl)
    · show AW X 0 0 17 [some (.ref 44), some (.int x), some (.int y), none, none] [.ref 44] T I J R
      exfalso; clear hC hq; (try simp only [bI_e0, bI_n0, decide_eq_false_iff_not, decide_eq_true_eq, Classical.not_not] at *); grind
set_option maxRecDepth 100000 in
theorem m_X12_takeF2 {T : List aT} {I : aI} {J : aJ} {R : aR} (hT : aPT T) (hR : aPR R) {g : Nat} (hg : I 44 20 = nI g) (hg4 : g ≤ 4) {r : Nat} (hr : I 44 25 = nI r) (hr9 : r ≤ 60) {x y : Nat} (hx : x < 16 * g) (hy : y < r) (hb : ¬ canTk I x y) : MX12_take 0 0 [.ref 44, .int (nI x), .int (nI y)] T I J R (aPure (some (.int (0))) T (a_u I 44 61 2) J R) := by
  refine a_met (by decide +kernel) a_le (fun X hC hq => ?_)
  show AW X 0 0 0 [some (.ref 44), some (.int (nI x)), some (.int (nI y)), none, none] [] T I J R
  refine aw_aload_n hC dX12_take_0 rfl ?_
  refine aw_aload_n hC dX12_take_1 rfl ?_
  refine aw_iload_n hC dX12_take_2 rfl ?_
  refine kX12_374 hC rfl (m_X12_isName (I := I) (J := J) hT hR (nI x) (g := g) hg hg4) dX12_take_3 (tg_44 hT) rfl a_le a_le a_le a_le a_le rfl aPure_x (aPure_k ?_)
  show AW X 0 0 6 [some (.ref 44), some (.int (nI x)), some (.int (nI y)), none, none] [.int (bI (decide (0 ≤ (nI x) ∧ (nI x) < nI (16 * g)))), .ref 44] T I J R
  rw [show bI (decide (0 ≤ (nI x) ∧ (nI x) < nI (16 * g))) = 1 from bI_one (nI_btw hx (by omega))]
  refine aw_if_eq (tgt := 21) hC dX12_take_6 (by decide) (fun h1 => absurd h1 (by decide)) (fun _ => ?_)
  show AW X 0 0 9 [some (.ref 44), some (.int (nI x)), some (.int (nI y)), none, none] [.ref 44] T I J R
  refine aw_aload_n hC dX12_take_9 rfl ?_
  refine aw_iload_n hC dX12_take_10 rfl ?_
  refine kX12_422 hC rfl (m_X12_isResource (I := I) (J := J) hT hR (nI y) (r := r) hr (by omega)) dX12_take_11 (tg_44 hT) rfl a_le a_le a_le a_le a_le rfl aPure_x (aPure_k ?_)
  show AW X 0 0 14 [some (.ref 44), some (.int (nI x)), some (.int (nI y)), none, none] [.int (bI (decide (0 ≤ (nI y) ∧ (nI y) < nI r))), .ref 44] T I J R
  rw [show bI (decide (0 ≤ (nI y) ∧ (nI y) < nI r)) = 1 from bI_one (nI_btw hy (by omega))]
  refine aw_if_eq (tgt := 21) hC dX12_take_14 (by decide) (fun h2 => absurd h2 (by decide)) (fun _ => ?_)
  show AW X 0 0 17 [some (.ref 44), some (.int (nI x)), some (.int (nI y)), none, none] [.ref 44] T I J R
  refine aw_iconst (v := 0) hC dX12_take_17 (by decide) ?_
  refine aw_goto (tgt := 22) hC dX12_take_18 (by decide) ?_
  refine aw_putI hC dX12_take_22 aF_X12_166 rfl rfl (tg_44 hT) ?_
  refine aw_aload_n hC dX12_take_25 rfl ?_
  refine aw_getI hC dX12_take_26 aF_X12_166 rfl (tg_44 hT) ?_
  rw [a_u_self (f := I) (o := 44) (k := 61) (v := 0)]
  refine aw_if_le (tgt := 34) hC dX12_take_29 (by decide) (fun _ => ?_) (fun h3 => absurd h3 (by decide))
  show AW X 0 0 34 [some (.ref 44), some (.int (nI x)), some (.int (nI y)), none, none] [] T (a_u I 44 61 0) J R
  refine aw_iconst (v := 0) hC dX12_take_34 (by decide) ?_
  refine aw_istore_n (L2 := [some (.ref 44), some (.int (nI x)), some (.int (nI y)), some (.int 0), none]) hC dX12_take_35 rfl (by decide) rfl ?_
  refine aw_iconst (v := 0) hC dX12_take_36 (by decide) ?_
  refine aw_istore (L2 := [some (.ref 44), some (.int (nI x)), some (.int (nI y)), some (.int 0), some (.int 0)]) hC dX12_take_37 (by decide) rfl ?_
  have loop1 : ∀ k, k ≤ 64 → ∀ c : Bool, c = anyB (fun j => decide (I 69 j = nI (y + 1))) k → AW X 0 0 39 [some (.ref 44), some (.int (nI x)), some (.int (nI y)), some (.int (bI c)), some (.int (nI k))] [] T (a_u I 44 61 0) J R := by
    refine a_down 64 (fun k hk1 ih1 => ?_)
    intro c hc
    refine aw_iload hC dX12_take_39 rfl ?_
    refine aw_bipush (v := 64) hC dX12_take_41 (by decide) ?_
    refine aw_icmp_ge (tgt := 73) hC dX12_take_43 (by decide) (fun h4 => ?_) (fun h4 => ?_)
    · show AW X 0 0 73 [some (.ref 44), some (.int (nI x)), some (.int (nI y)), some (.int (bI c)), some (.int (nI k))] [] T (a_u I 44 61 0) J R
      have h4n : 64 ≤ k := (nI_leI (a := 64) (b := k) (by omega) (by omega)).mp h4
      refine aw_aload_n hC dX12_take_73 rfl ?_
      refine aw_aload_n hC dX12_take_74 rfl ?_
      refine aw_getI hC dX12_take_75 aF_X12_123 rfl (tg_44 hT) ?_
      rw [a_u_ne (f := I) (o := 44) (k := 61) (a := 44) (b := 45) (v := 0) (fun q => absurd q.2 (by decide))]
      refine aw_if_ge (tgt := 121) hC dX12_take_78 (by decide) (fun h5 => ?_) (fun h5 => ?_)
      · show AW X 0 0 121 [some (.ref 44), some (.int (nI x)), some (.int (nI y)), some (.int (bI c)), some (.int (nI k))] [.ref 44] T (a_u I 44 61 0) J R
        refine aw_iconst (v := 2) hC dX12_take_121 (by decide) ?_
        refine aw_goto (tgt := 126) hC dX12_take_122 (by decide) ?_
        refine aw_putI hC dX12_take_126 aF_X12_166 rfl rfl (tg_44 hT) ?_
        refine aw_aload_n hC dX12_take_129 rfl ?_
        refine aw_getI hC dX12_take_130 aF_X12_166 rfl (tg_44 hT) ?_
        rw [a_u_self (f := a_u I 44 61 0) (o := 44) (k := 61) (v := 2)]
        refine aw_if_le (tgt := 138) hC dX12_take_133 (by decide) (fun h6 => absurd h6 (by decide)) (fun _ => ?_)
        show AW X 0 0 136 [some (.ref 44), some (.int (nI x)), some (.int (nI y)), some (.int (bI c)), some (.int (nI k))] [] T (a_u (a_u I 44 61 0) 44 61 2) J R
        refine aw_iconst (v := 0) hC dX12_take_136 (by decide) ?_
        exact aw_ireturn hC hq rfl dX12_take_137 a_le a_le (aPure_e rfl (by rw [a_u_2]) rfl rfl)
      · show AW X 0 0 81 [some (.ref 44), some (.int (nI x)), some (.int (nI y)), some (.int (bI c)), some (.int (nI k))] [.ref 44] T (a_u I 44 61 0) J R
        refine aw_aload_n hC dX12_take_81 rfl ?_
        refine aw_getR hC dX12_take_82 aF_X12_83 rfl (tg_44 hT) (pr_44_29 hR) ?_
        refine aw_iload_n hC dX12_take_85 rfl ?_
        refine aw_iaload_k (j := x) hC dX12_take_86 (tg_69 hT) (nI_clamp (by omega)) (vp_in_nI (by omega) (by decide)) ?_
        rw [a_u_ne (f := I) (o := 44) (k := 61) (a := 69) (b := x) (v := 0) (fun q => absurd q.1 (by decide))]
        refine aw_if_gt (tgt := 121) hC dX12_take_87 (by decide) (fun h7 => ?_) (fun h7 => ?_)
        · show AW X 0 0 121 [some (.ref 44), some (.int (nI x)), some (.int (nI y)), some (.int (bI c)), some (.int (nI k))] [.ref 44] T (a_u I 44 61 0) J R
          refine aw_iconst (v := 2) hC dX12_take_121 (by decide) ?_
          refine aw_goto (tgt := 126) hC dX12_take_122 (by decide) ?_
          refine aw_putI hC dX12_take_126 aF_X12_166 rfl rfl (tg_44 hT) ?_
          refine aw_aload_n hC dX12_take_129 rfl ?_
          refine aw_getI hC dX12_take_130 aF_X12_166 rfl (tg_44 hT) ?_
          rw [a_u_self (f := a_u I 44 61 0) (o := 44) (k := 61) (v := 2)]
          refine aw_if_le (tgt := 138) hC dX12_take_133 (by decide) (fun h8 => absurd h8 (by decide)) (fun _ => ?_)
          show AW X 0 0 136 [some (.ref 44), some (.int (nI x)), some (.int (nI y)), some (.int (bI c)), some (.int (nI k))] [] T (a_u (a_u I 44 61 0) 44 61 2) J R
          refine aw_iconst (v := 0) hC dX12_take_136 (by decide) ?_
          exact aw_ireturn hC hq rfl dX12_take_137 a_le a_le (aPure_e rfl (by rw [a_u_2]) rfl rfl)
        · show AW X 0 0 90 [some (.ref 44), some (.int (nI x)), some (.int (nI y)), some (.int (bI c)), some (.int (nI k))] [.ref 44] T (a_u I 44 61 0) J R
          refine aw_aload_n hC dX12_take_90 rfl ?_
          refine aw_getR hC dX12_take_91 aF_X12_80 rfl (tg_44 hT) (pr_44_28 hR) ?_
          refine aw_iload_n hC dX12_take_94 rfl ?_
          refine aw_baload_k (j := y) hC dX12_take_95 (tg_68 hT) (nI_clamp (by omega)) (vp_in_nI (by omega) (by decide)) ?_
          rw [a_u_ne (f := I) (o := 44) (k := 61) (a := 68) (b := y) (v := 0) (fun q => absurd q.1 (by decide))]
          refine aw_if_ne (tgt := 121) hC dX12_take_96 (by decide) (fun h9 => ?_) (fun h9 => ?_)
          · show AW X 0 0 121 [some (.ref 44), some (.int (nI x)), some (.int (nI y)), some (.int (bI c)), some (.int (nI k))] [.ref 44] T (a_u I 44 61 0) J R
            refine aw_iconst (v := 2) hC dX12_take_121 (by decide) ?_
            refine aw_goto (tgt := 126) hC dX12_take_122 (by decide) ?_
            refine aw_putI hC dX12_take_126 aF_X12_166 rfl rfl (tg_44 hT) ?_
            refine aw_aload_n hC dX12_take_129 rfl ?_
            refine aw_getI hC dX12_take_130 aF_X12_166 rfl (tg_44 hT) ?_
            rw [a_u_self (f := a_u I 44 61 0) (o := 44) (k := 61) (v := 2)]
            refine aw_if_le (tgt := 138) hC dX12_take_133 (by decide) (fun h10 => absurd h10 (by decide)) (fun _ => ?_)
            show AW X 0 0 136 [some (.ref 44), some (.int (nI x)), some (.int (nI y)), some (.int (bI c)), some (.int (nI k))] [] T (a_u (a_u I 44 61 0) 44 61 2) J R
            refine aw_iconst (v := 0) hC dX12_take_136 (by decide) ?_
            exact aw_ireturn hC hq rfl dX12_take_137 a_le a_le (aPure_e rfl (by rw [a_u_2]) rfl rfl)
          · show AW X 0 0 99 [some (.ref 44), some (.int (nI x)), some (.int (nI y)), some (.int (bI c)), some (.int (nI k))] [.ref 44] T (a_u I 44 61 0) J R
            refine aw_iload_n hC dX12_take_99 rfl ?_
            refine aw_if_ne (tgt := 121) hC dX12_take_100 (by decide) (fun h11 => ?_) (fun h11 => ?_)
            · show AW X 0 0 121 [some (.ref 44), some (.int (nI x)), some (.int (nI y)), some (.int (bI c)), some (.int (nI k))] [.ref 44] T (a_u I 44 61 0) J R
              refine aw_iconst (v := 2) hC dX12_take_121 (by decide) ?_
              refine aw_goto (tgt := 126) hC dX12_take_122 (by decide) ?_
              refine aw_putI hC dX12_take_126 aF_X12_166 rfl rfl (tg_44 hT) ?_
              refine aw_aload_n hC dX12_take_129 rfl ?_
              refine aw_getI hC dX12_take_130 aF_X12_166 rfl (tg_44 hT) ?_
              rw [a_u_self (f := a_u I 44 61 0) (o := 44) (k := 61) (v := 2)]
              refine aw_if_le (tgt := 138) hC dX12_take_133 (by decide) (fun h12 => absurd h12 (by decide)) (fun _ => ?_)
              show AW X 0 0 136 [some (.ref 44), some (.int (nI x)), some (.int (nI y)), some (.int (bI c)), some (.int (nI k))] [] T (a_u (a_u I 44 61 0) 44 61 2) J R
              refine aw_iconst (v := 0) hC dX12_take_136 (by decide) ?_
              exact aw_ireturn hC hq rfl dX12_take_137 a_le a_le (aPure_e rfl (by rw [a_u_2]) rfl rfl)
            · show AW X 0 0 103 [some (.ref 44), some (.int (nI x)), some (.int (nI y)), some (.int (bI c)), some (.int (nI k))] [.ref 44] T (a_u I 44 61 0) J R
              refine aw_aload_n hC dX12_take_103 rfl ?_
              refine aw_getR hC dX12_take_104 aF_X12_62 rfl (tg_44 hT) (pr_44_21 hR) ?_
              refine aw_iload_n hC dX12_take_107 rfl ?_
              refine aw_bipush (v := 16) hC dX12_take_108 (by decide) ?_
              refine aw_idiv hC dX12_take_110 (by decide) ?_
              rw [show (nI x) / 16 = nI (x / 16) from pk_div (a := x) (d := 16) (by omega) (by decide) (by decide)]
              refine aw_iaload_k (j := (x / 16)) hC dX12_take_111 (tg_62 hT) (nI_clamp (by omega)) (vp_in_nI (by omega) (by decide)) ?_
              rw [a_u_ne (f := I) (o := 44) (k := 61) (a := 62) (b := (x / 16)) (v := 0) (fun q => absurd q.1 (by decide))]
              refine aw_aload_n hC dX12_take_112 rfl ?_
              refine aw_getR hC dX12_take_113 aF_X12_74 rfl (tg_44 hT) (pr_44_26 hR) ?_
              refine aw_iload_n hC dX12_take_116 rfl ?_
              refine aw_iaload_k (j := y) hC dX12_take_117 (tg_66 hT) (nI_clamp (by omega)) (vp_in_nI (by omega) (by decide)) ?_
              rw [a_u_ne (f := I) (o := 44) (k := 61) (a := 66) (b := y) (v := 0) (fun q => absurd q.1 (by decide))]
              refine aw_icmp_eq (tgt := 125) hC dX12_take_118 (by decide) (fun h13 => ?_) (fun h13 => ?_)
              · show AW X 0 0 125 [some (.ref 44), some (.int (nI x)), some (.int (nI y)), some (.int (bI c)), some (.int (nI k))] [.ref 44] T (a_u I 44 61 0) J R
                exfalso; apply hb; rw [show k = 64 from by omega] at hc; exact ⟨by first | assumption | exact Int32.not_le.mp (by assumption), by first | assumption | exact Int32.not_lt.mpr (by assumption), by assumption, by show anyB _ 64 = false; rw [← hc]; exact bI_e0.mp (by assumption), by assumption⟩
              · show AW X 0 0 121 [some (.ref 44), some (.int (nI x)), some (.int (nI y)), some (.int (bI c)), some (.int (nI k))] [.ref 44] T (a_u I 44 61 0) J R
                refine aw_iconst (v := 2) hC dX12_take_121 (by decide) ?_
                refine aw_goto (tgt := 126) hC dX12_take_122 (by decide) ?_
                refine aw_putI hC dX12_take_126 aF_X12_166 rfl rfl (tg_44 hT) ?_
                refine aw_aload_n hC dX12_take_129 rfl ?_
                refine aw_getI hC dX12_take_130 aF_X12_166 rfl (tg_44 hT) ?_
                rw [a_u_self (f := a_u I 44 61 0) (o := 44) (k := 61) (v := 2)]
                refine aw_if_le (tgt := 138) hC dX12_take_133 (by decide) (fun h14 => absurd h14 (by decide)) (fun _ => ?_)
                show AW X 0 0 136 [some (.ref 44), some (.int (nI x)), some (.int (nI y)), some (.int (bI c)), some (.int (nI k))] [] T (a_u (a_u I 44 61 0) 44 61 2) J R
                refine aw_iconst (v := 0) hC dX12_take_136 (by decide) ?_
                exact aw_ireturn hC hq rfl dX12_take_137 a_le a_le (aPure_e rfl (by rw [a_u_2]) rfl rfl)
    · show AW X 0 0 46 [some (.ref 44), some (.int (nI x)), some (.int (nI y)), some (.int (bI c)), some (.int (nI k))] [] T (a_u I 44 61 0) J R
      have h4n : ¬ 64 ≤ k := fun q9 => h4 ((nI_leI (a := 64) (b := k) (by omega) (by omega)).mpr q9)
      refine aw_iload_n hC dX12_take_46 rfl ?_
      refine aw_aload_n hC dX12_take_47 rfl ?_
      refine aw_getR hC dX12_take_48 aF_X12_83 rfl (tg_44 hT) (pr_44_29 hR) ?_
      refine aw_iload hC dX12_take_51 rfl ?_
      refine aw_iaload_k (j := k) hC dX12_take_53 (tg_69 hT) (nI_clamp (by omega)) (vp_in_nI (by omega) (by decide)) ?_
      rw [a_u_ne (f := I) (o := 44) (k := 61) (a := 69) (b := k) (v := 0) (fun q => absurd q.1 (by decide))]
      refine aw_iload_n hC dX12_take_54 rfl ?_
      refine aw_iconst (v := 1) hC dX12_take_55 (by decide) ?_
      refine aw_iadd hC dX12_take_56 ?_
      rw [show (nI y) + 1 = nI (y + 1) from nI_add y 1]
      refine aw_icmp_ne (tgt := 64) hC dX12_take_57 (by decide) (fun h15 => ?_) (fun h15 => ?_)
      · show AW X 0 0 64 [some (.ref 44), some (.int (nI x)), some (.int (nI y)), some (.int (bI c)), some (.int (nI k))] [.int (bI c)] T (a_u I 44 61 0) J R
        refine aw_iconst (v := 0) hC dX12_take_64 (by decide) ?_
        refine aw_ior hC dX12_take_65 ?_
        rw [bI_or0 _]
        refine aw_istore_n (L2 := [some (.ref 44), some (.int (nI x)), some (.int (nI y)), some (.int (bI c)), some (.int (nI k))]) hC dX12_take_66 rfl (by decide) rfl ?_
        refine aw_iinc (v := nI (k + 1)) (L2 := [some (.ref 44), some (.int (nI x)), some (.int (nI y)), some (.int (bI c)), some (.int (nI (k + 1)))]) hC dX12_take_67 rfl (nI_inc _) (by decide) rfl ?_
        refine aw_goto (tgt := 39) hC dX12_take_70 (by decide) ?_
        exact ih1 (by omega) c (by rw [anyB, ← hc]; simp_all)
      · show AW X 0 0 60 [some (.ref 44), some (.int (nI x)), some (.int (nI y)), some (.int (bI c)), some (.int (nI k))] [.int (bI c)] T (a_u I 44 61 0) J R
        refine aw_iconst (v := 1) hC dX12_take_60 (by decide) ?_
        refine aw_goto (tgt := 65) hC dX12_take_61 (by decide) ?_
        refine aw_ior hC dX12_take_65 ?_
        rw [bI_or1 _]
        refine aw_istore_n (L2 := [some (.ref 44), some (.int (nI x)), some (.int (nI y)), some (.int (bI true)), some (.int (nI k))]) hC dX12_take_66 rfl (by decide) rfl ?_
        refine aw_iinc (v := nI (k + 1)) (L2 := [some (.ref 44), some (.int (nI x)), some (.int (nI y)), some (.int (bI true)), some (.int (nI (k + 1)))]) hC dX12_take_67 rfl (nI_inc _) (by decide) rfl ?_
        refine aw_goto (tgt := 39) hC dX12_take_70 (by decide) ?_
        exact ih1 (by omega) true (by rw [anyB, ← hc]; simp_all)
  exact loop1 0 (Nat.zero_le _) false rfl
set_option maxRecDepth 100000 in
theorem m_X12_takeT {T : List aT} {I : aI} {J : aJ} {R : aR} (hT : aPT T) (hR : aPR R) {g : Nat} (hG : GW I g) {r : Nat} (hr : I 44 25 = nI r) (hr9 : r ≤ 60) {x y : Nat} (hx : x < 16 * g) (hy : y < r) (hm : canTk I x y) : MX12_take 0 0 [.ref 44, .int (nI x), .int (nI y)] T I J R (aPure (some (.int (I 44 35 + 1))) T (tkS I x y) J R) := by
  refine a_met (by decide +kernel) a_le (fun X hC hq => ?_)
  show AW X 0 0 0 [some (.ref 44), some (.int (nI x)), some (.int (nI y)), none, none] [] T I J R
  have hg4 := hG.g4
  refine aw_aload_n hC dX12_take_0 rfl ?_
  refine aw_aload_n hC dX12_take_1 rfl ?_
  refine aw_iload_n hC dX12_take_2 rfl ?_
  refine kX12_374 hC rfl (m_X12_isName (I := I) (J := J) hT hR (nI x) (g := g) hG.gn hG.g4) dX12_take_3 (tg_44 hT) rfl a_le a_le a_le a_le a_le rfl aPure_x (aPure_k ?_)
  show AW X 0 0 6 [some (.ref 44), some (.int (nI x)), some (.int (nI y)), none, none] [.int (bI (decide (0 ≤ nI x ∧ nI x < nI (16 * g)))), .ref 44] T I J R
  rw [show bI (decide (0 ≤ nI x ∧ nI x < nI (16 * g))) = 1 from bI_one (nI_btw hx (by omega))]
  refine aw_if_eq (tgt := 21) hC dX12_take_6 (by decide) (fun h1 => absurd h1 (by decide)) (fun _ => ?_)
  show AW X 0 0 9 [some (.ref 44), some (.int (nI x)), some (.int (nI y)), none, none] [.ref 44] T I J R
  refine aw_aload_n hC dX12_take_9 rfl ?_
  refine aw_iload_n hC dX12_take_10 rfl ?_
  refine kX12_422 hC rfl (m_X12_isResource (I := I) (J := J) hT hR (nI y) (r := r) hr (by omega)) dX12_take_11 (tg_44 hT) rfl a_le a_le a_le a_le a_le rfl aPure_x (aPure_k ?_)
  show AW X 0 0 14 [some (.ref 44), some (.int (nI x)), some (.int (nI y)), none, none] [.int (bI (decide (0 ≤ (nI y) ∧ (nI y) < nI r))), .ref 44] T I J R
  rw [show bI (decide (0 ≤ (nI y) ∧ (nI y) < nI r)) = 1 from bI_one (nI_btw hy (by omega))]
  refine aw_if_eq (tgt := 21) hC dX12_take_14 (by decide) (fun h2 => absurd h2 (by decide)) (fun _ => ?_)
  show AW X 0 0 17 [some (.ref 44), some (.int (nI x)), some (.int (nI y)), none, none] [.ref 44] T I J R
  refine aw_iconst (v := 0) hC dX12_take_17 (by decide) ?_
  refine aw_goto (tgt := 22) hC dX12_take_18 (by decide) ?_
  refine aw_putI hC dX12_take_22 aF_X12_166 rfl rfl (tg_44 hT) ?_
  refine aw_aload_n hC dX12_take_25 rfl ?_
  refine aw_getI hC dX12_take_26 aF_X12_166 rfl (tg_44 hT) ?_
  rw [a_u_self (f := I) (o := 44) (k := 61) (v := 0)]
  refine aw_if_le (tgt := 34) hC dX12_take_29 (by decide) (fun _ => ?_) (fun h3 => absurd h3 (by decide))
  show AW X 0 0 34 [some (.ref 44), some (.int (nI x)), some (.int (nI y)), none, none] [] T (a_u I 44 61 0) J R
  refine aw_iconst (v := 0) hC dX12_take_34 (by decide) ?_
  refine aw_istore_n (L2 := [some (.ref 44), some (.int (nI x)), some (.int (nI y)), some (.int 0), none]) hC dX12_take_35 rfl (by decide) rfl ?_
  refine aw_iconst (v := 0) hC dX12_take_36 (by decide) ?_
  refine aw_istore (L2 := [some (.ref 44), some (.int (nI x)), some (.int (nI y)), some (.int 0), some (.int 0)]) hC dX12_take_37 (by decide) rfl ?_
  have loop1 : ∀ k, k ≤ 64 → ∀ c : Bool, c = anyB (fun j => decide (I 69 j = nI (y + 1))) k → AW X 0 0 39 [some (.ref 44), some (.int (nI x)), some (.int (nI y)), some (.int (bI c)), some (.int (nI k))] [] T (a_u I 44 61 0) J R := by
    refine a_down 64 (fun k hk1 ih1 => ?_)
    intro c hc
    refine aw_iload hC dX12_take_39 rfl ?_
    refine aw_bipush (v := 64) hC dX12_take_41 (by decide) ?_
    refine aw_icmp_ge (tgt := 73) hC dX12_take_43 (by decide) (fun h4 => ?_) (fun h4 => ?_)
    · show AW X 0 0 73 [some (.ref 44), some (.int (nI x)), some (.int (nI y)), some (.int (bI c)), some (.int (nI k))] [] T (a_u I 44 61 0) J R
      have h4n : 64 ≤ k := (nI_leI (a := 64) (b := k) (by omega) (by omega)).mp h4
      refine aw_aload_n hC dX12_take_73 rfl ?_
      refine aw_aload_n hC dX12_take_74 rfl ?_
      refine aw_getI hC dX12_take_75 aF_X12_123 rfl (tg_44 hT) ?_
      rw [a_u_ne (f := I) (o := 44) (k := 61) (a := 44) (b := 45) (v := 0) (fun q => absurd q.2 (by decide))]
      refine aw_if_ge (tgt := 121) hC dX12_take_78 (by decide) (fun h => absurd hm.1 (Int32.not_lt.mpr h)) (fun _ => ?_)
      show AW X 0 0 81 [some (.ref 44), some (.int (nI x)), some (.int (nI y)), some (.int (bI c)), some (.int (nI k))] [.ref 44] T (a_u I 44 61 0) J R
      refine aw_aload_n hC dX12_take_81 rfl ?_
      refine aw_getR hC dX12_take_82 aF_X12_83 rfl (tg_44 hT) (pr_44_29 hR) ?_
      refine aw_iload_n hC dX12_take_85 rfl ?_
      refine aw_iaload_k (j := x) hC dX12_take_86 (tg_69 hT) (nI_clamp (by omega)) (vp_in_nI (by omega) (by decide)) ?_
      rw [a_u_ne (f := I) (o := 44) (k := 61) (a := 69) (b := x) (v := 0) (fun q => absurd q.1 (by decide))]
      refine aw_if_gt (tgt := 121) hC dX12_take_87 (by decide) (fun h => absurd h hm.2.1) (fun _ => ?_)
      show AW X 0 0 90 [some (.ref 44), some (.int (nI x)), some (.int (nI y)), some (.int (bI c)), some (.int (nI k))] [.ref 44] T (a_u I 44 61 0) J R
      refine aw_aload_n hC dX12_take_90 rfl ?_
      refine aw_getR hC dX12_take_91 aF_X12_80 rfl (tg_44 hT) (pr_44_28 hR) ?_
      refine aw_iload_n hC dX12_take_94 rfl ?_
      refine aw_baload_k (j := y) hC dX12_take_95 (tg_68 hT) (nI_clamp (by omega)) (vp_in_nI (by omega) (by decide)) ?_
      rw [a_u_ne (f := I) (o := 44) (k := 61) (a := 68) (b := y) (v := 0) (fun q => absurd q.1 (by decide))]
      refine aw_if_ne (tgt := 121) hC dX12_take_96 (by decide) (fun h => absurd hm.2.2.1 h) (fun _ => ?_)
      show AW X 0 0 99 [some (.ref 44), some (.int (nI x)), some (.int (nI y)), some (.int (bI c)), some (.int (nI k))] [.ref 44] T (a_u I 44 61 0) J R
      refine aw_iload_n hC dX12_take_99 rfl ?_
      rw [show k = 64 from by omega] at hc
      refine aw_if_ne (tgt := 121) hC dX12_take_100 (by decide) (fun h => absurd (hc.trans hm.2.2.2.1) (by rw [bI_n0.mp h]; simp)) (fun _ => ?_)
      show AW X 0 0 103 [some (.ref 44), some (.int (nI x)), some (.int (nI y)), some (.int (bI c)), some (.int (nI k))] [.ref 44] T (a_u I 44 61 0) J R
      refine aw_aload_n hC dX12_take_103 rfl ?_
      refine aw_getR hC dX12_take_104 aF_X12_62 rfl (tg_44 hT) (pr_44_21 hR) ?_
      refine aw_iload_n hC dX12_take_107 rfl ?_
      refine aw_bipush (v := 16) hC dX12_take_108 (by decide) ?_
      refine aw_idiv hC dX12_take_110 (by decide) ?_
      rw [show (nI x) / 16 = nI (x / 16) from pk_div (a := x) (d := 16) (by omega) (by decide) (by decide)]
      refine aw_iaload_k (j := (x / 16)) hC dX12_take_111 (tg_62 hT) (nI_clamp (by omega)) (vp_in_nI (by omega) (by decide)) ?_
      rw [a_u_ne (f := I) (o := 44) (k := 61) (a := 62) (b := (x / 16)) (v := 0) (fun q => absurd q.1 (by decide))]
      refine aw_aload_n hC dX12_take_112 rfl ?_
      refine aw_getR hC dX12_take_113 aF_X12_74 rfl (tg_44 hT) (pr_44_26 hR) ?_
      refine aw_iload_n hC dX12_take_116 rfl ?_
      refine aw_iaload_k (j := y) hC dX12_take_117 (tg_66 hT) (nI_clamp (by omega)) (vp_in_nI (by omega) (by decide)) ?_
      rw [a_u_ne (f := I) (o := 44) (k := 61) (a := 66) (b := y) (v := 0) (fun q => absurd q.1 (by decide))]
      refine aw_icmp_eq (tgt := 125) hC dX12_take_118 (by decide) (fun _ => ?_) (fun h => absurd hm.2.2.2.2 h)
      show AW X 0 0 125 [some (.ref 44), some (.int (nI x)), some (.int (nI y)), some (.int (bI c)), some (.int (nI k))] [.ref 44] T (a_u I 44 61 0) J R
      refine aw_iconst (v := 0) hC dX12_take_125 (by decide) ?_
      refine aw_putI hC dX12_take_126 aF_X12_166 rfl rfl (tg_44 hT) ?_
      rw [a_u_2]
      refine aw_aload_n hC dX12_take_129 rfl ?_
      refine aw_getI hC dX12_take_130 aF_X12_166 rfl (tg_44 hT) ?_
      rw [a_u_self (f := I) (o := 44) (k := 61) (v := 0)]
      refine aw_if_le (tgt := 138) hC dX12_take_133 (by decide) (fun _ => ?_) (fun h5 => absurd h5 (by decide))
      show AW X 0 0 138 [some (.ref 44), some (.int (nI x)), some (.int (nI y)), some (.int (bI c)), some (.int (nI k))] [] T (a_u I 44 61 0) J R
      refine aw_aload_n hC dX12_take_138 rfl ?_
      refine aw_iload_n hC dX12_take_139 rfl ?_
      refine aw_iload_n hC dX12_take_140 rfl ?_
      refine kX12_398 hC rfl (m_X12_writes (I := a_u I 44 61 0) (J := J) hT hR (x := x) (r := y) (by omega) (by omega)) dX12_take_141 (tg_44 hT) rfl a_le a_le a_le a_le a_le rfl aPure_x (aPure_k ?_)
      obtain ⟨I6, hI6⟩ : ∃ I6, I6 = wrT (a_u I 44 61 0) x y := ⟨_, rfl⟩
      refine aw_setI (I2 := I6) hI6.symm ?_
      have hwf6 : ∀ o, o ≠ 44 ∧ o ≠ 69 ∧ o ≠ 70 ∧ o ≠ 71 ∧ o ≠ 72 → I6 o = I o := fun o ho => by rw [hI6]; show a_ur (a_u (a_u (a_u _ 69 x _) 71 x 0) 72 x 0) 70 _ o = _; rw [a_ur_ne ho.2.2.1, a_u_row ho.2.2.2.2, a_u_row ho.2.2.2.1, a_u_row ho.2.1, a_u_row ho.1]
      have hw635 : I6 44 35 = I 44 35 := by rw [hI6]; show a_ur (a_u (a_u (a_u _ 69 x _) 71 x 0) 72 x 0) 70 _ 44 35 = _; rw [a_ur_ne (by decide), a_u_row (by decide), a_u_row (by decide), a_u_row (by decide), a_u_ne (fun q => absurd q.2 (by decide))]
      show AW X 0 0 144 [some (.ref 44), some (.int (nI x)), some (.int (nI y)), some (.int (bI c)), some (.int (nI k))] [] T I6 J R
      refine aw_iconst (v := 0) hC dX12_take_144 (by decide) ?_
      refine aw_istore (L2 := [some (.ref 44), some (.int (nI x)), some (.int (nI y)), some (.int (bI c)), some (.int 0)]) hC dX12_take_145 (by decide) rfl ?_
      have hw70 : I6 70 = wrS I x y 3 := by rw [hI6]; show a_ur (a_u (a_u (a_u _ 69 x _) 71 x 0) 72 x 0) 70 _ 70 = _; rw [a_ur_self]; funext j; simp only [wrS]; rw [a_u_row (by decide), a_u_row (by decide)]
      refine aw_setI (I2 := a_ur I6 70 (tkR I x y 0)) (a_ur_id (fun j => by simp only [tkR]; rw [if_neg (by omega), hw70])).symm ?_
      have loop : ∀ k, k ≤ 3 → AW X 0 0 147 [some (.ref 44), some (.int (nI x)), some (.int (nI y)), some (.int (bI c)), some (.int (nI k))] [] T (a_ur I6 70 (tkR I x y k)) J R := by
        refine a_down 3 (fun k hkl ih => ?_)
        refine aw_iload hC dX12_take_147 rfl ?_
        refine aw_iconst (v := 3) hC dX12_take_149 (by decide) ?_
        refine aw_icmp_ge (tgt := 204) hC dX12_take_150 (by decide) (fun h6 => ?_) (fun h6 => ?_)
        · show AW X 0 0 204 [some (.ref 44), some (.int (nI x)), some (.int (nI y)), some (.int (bI c)), some (.int (nI k))] [] T (a_ur I6 70 (tkR I x y k)) J R
          have h6n : 3 ≤ k := (nI_leI (a := 3) (b := k) (by omega) (by omega)).mp h6
          refine aw_aload_n hC dX12_take_204 rfl ?_
          refine aw_dup hC dX12_take_205 rfl ?_
          refine aw_getI hC dX12_take_206 aF_X12_343 rfl (tg_44 hT) ?_
          rw [a_ur_ne (f := I6) (o := 70) (a := 44) (g := tkR I x y k) (by decide)]
          rw [hw635]
          refine aw_iconst (v := 1) hC dX12_take_209 (by decide) ?_
          refine aw_iadd hC dX12_take_210 ?_
          refine aw_putI hC dX12_take_211 aF_X12_343 rfl rfl (tg_44 hT) ?_
          refine aw_aload_n hC dX12_take_214 rfl ?_
          refine aw_getI hC dX12_take_215 aF_X12_343 rfl (tg_44 hT) ?_
          rw [a_u_self (f := a_ur I6 70 (tkR I x y k)) (o := 44) (k := 35) (v := (I 44 35) + 1)]
          exact aw_ireturn hC hq rfl dX12_take_218 a_le a_le (aPure_e rfl (by rw [show k = 3 from by omega, hI6]) rfl rfl)
        · show AW X 0 0 153 [some (.ref 44), some (.int (nI x)), some (.int (nI y)), some (.int (bI c)), some (.int (nI k))] [] T (a_ur I6 70 (tkR I x y k)) J R
          have h6n : ¬ 3 ≤ k := fun q9 => h6 ((nI_leI (a := 3) (b := k) (by omega) (by omega)).mpr q9)
          refine aw_aload_n hC dX12_take_153 rfl ?_
          refine aw_getR hC dX12_take_154 aF_X12_86 rfl (tg_44 hT) (pr_44_30 hR) ?_
          refine aw_iconst (v := 3) hC dX12_take_157 (by decide) ?_
          refine aw_iload_n hC dX12_take_158 rfl ?_
          refine aw_imul hC dX12_take_159 ?_
          rw [show 3 * (nI x) = nI (3 * x) from pk_mul 3 x]
          refine aw_iload hC dX12_take_160 rfl ?_
          refine aw_iadd hC dX12_take_162 ?_
          rw [show (nI (3 * x)) + (nI k) = nI ((3 * x) + k) from nI_add (3 * x) k]
          refine aw_aload_n hC dX12_take_163 rfl ?_
          refine aw_aload_n hC dX12_take_164 rfl ?_
          refine aw_getR hC dX12_take_165 aF_X12_62 rfl (tg_44 hT) (pr_44_21 hR) ?_
          refine aw_iload_n hC dX12_take_168 rfl ?_
          refine aw_bipush (v := 16) hC dX12_take_169 (by decide) ?_
          refine aw_idiv hC dX12_take_171 (by decide) ?_
          rw [show (nI x) / 16 = nI (x / 16) from pk_div (a := x) (d := 16) (by omega) (by decide) (by decide)]
          refine aw_iaload_k (j := (x / 16)) hC dX12_take_172 (tg_62 hT) (nI_clamp (by omega)) (vp_in_nI (by omega) (by decide)) ?_
          rw [a_ur_ne (f := I6) (o := 70) (a := 62) (g := tkR I x y k) (by decide)]
          rw [hwf6 62 (by decide)]
          have hb7 := hG.ty (x / 16) (by omega)
          rw [hb7.1]
          refine aw_iload hC dX12_take_173 rfl ?_
          refine aw_iconst (v := 4) hC dX12_take_175 (by decide) ?_
          refine kX12_330 hC rfl (m_X12_hasN hT hR (t := (iN I 62 (x / 16))) (a := k) (by omega) (by omega) (4 : Int32)) dX12_take_176 (tg_44 hT) rfl a_le a_le a_le a_le a_le rfl aPure_x (aPure_k ?_)
          show AW X 0 0 179 [some (.ref 44), some (.int (nI x)), some (.int (nI y)), some (.int (bI c)), some (.int (nI k))] [.int (bI (decide ((a_ur I6 70 (tkR I x y k)) 58 (3 * (iN I 62 (x / 16)) + k) &&& (4 : Int32) ≠ 0))), .int (nI ((3 * x) + k)), .ref 70] T (a_ur I6 70 (tkR I x y k)) J R
          rw [a_ur_ne (f := I6) (o := 70) (a := 58) (g := tkR I x y k) (by decide)]
          rw [hwf6 58 (by decide)]
          refine aw_if_eq (tgt := 186) hC dX12_take_179 (by decide) (fun h8 => ?_) (fun h8 => ?_)
          · show AW X 0 0 186 [some (.ref 44), some (.int (nI x)), some (.int (nI y)), some (.int (bI c)), some (.int (nI k))] [.int (nI ((3 * x) + k)), .ref 70] T (a_ur I6 70 (tkR I x y k)) J R
            refine aw_aload_n hC dX12_take_186 rfl ?_
            refine aw_getR hC dX12_take_187 aF_X12_86 rfl (tg_44 hT) (pr_44_30 hR) ?_
            refine aw_iconst (v := 3) hC dX12_take_190 (by decide) ?_
            refine aw_iload_n hC dX12_take_191 rfl ?_
            refine aw_imul hC dX12_take_192 ?_
            rw [show 3 * (nI x) = nI (3 * x) from pk_mul 3 x]
            refine aw_iload hC dX12_take_193 rfl ?_
            refine aw_iadd hC dX12_take_195 ?_
            rw [show (nI (3 * x)) + (nI k) = nI ((3 * x) + k) from nI_add (3 * x) k]
            refine aw_iaload_k (j := ((3 * x) + k)) hC dX12_take_196 (tg_70 hT) (nI_clamp (by omega)) (vp_in_nI (by omega) (by decide)) ?_
            rw [a_ur_self (f := I6) (o := 70) (g := tkR I x y k)]
            refine aw_iastore_k (j := ((3 * x) + k)) hC dX12_take_197 (tg_70 hT) (nI_clamp (by omega)) (vp_in_nI (by omega) (by decide)) ?_
            refine aw_iinc (v := nI (k + 1)) (L2 := [some (.ref 44), some (.int (nI x)), some (.int (nI y)), some (.int (bI c)), some (.int (nI (k + 1)))]) hC dX12_take_198 rfl (nI_inc _) (by decide) rfl ?_
            refine aw_goto (tgt := 147) hC dX12_take_201 (by decide) ?_
            rw [show a_u (a_ur I6 70 (tkR I x y k)) 70 ((3 * x) + k) ((tkR I x y k) ((3 * x) + k)) = a_ur I6 70 (tkR I x y (k + 1)) from by rw [a_ur_put]; exact a_ur_ext (tk_put (by first | exact Or.inl ⟨bI_dn.mp (by assumption), rfl⟩ | exact Or.inr ⟨Decidable.not_not.mp (bI_d0.mp (by assumption)), rfl⟩))]
            exact ih (by omega)
          · show AW X 0 0 182 [some (.ref 44), some (.int (nI x)), some (.int (nI y)), some (.int (bI c)), some (.int (nI k))] [.int (nI ((3 * x) + k)), .ref 70] T (a_ur I6 70 (tkR I x y k)) J R
            refine aw_iconst (v := 0) hC dX12_take_182 (by decide) ?_
            refine aw_goto (tgt := 197) hC dX12_take_183 (by decide) ?_
            refine aw_iastore_k (j := ((3 * x) + k)) hC dX12_take_197 (tg_70 hT) (nI_clamp (by omega)) (vp_in_nI (by omega) (by decide)) ?_
            refine aw_iinc (v := nI (k + 1)) (L2 := [some (.ref 44), some (.int (nI x)), some (.int (nI y)), some (.int (bI c)), some (.int (nI (k + 1)))]) hC dX12_take_198 rfl (nI_inc _) (by decide) rfl ?_
            refine aw_goto (tgt := 147) hC dX12_take_201 (by decide) ?_
            rw [show a_u (a_ur I6 70 (tkR I x y k)) 70 ((3 * x) + k) 0 = a_ur I6 70 (tkR I x y (k + 1)) from by rw [a_ur_put]; exact a_ur_ext (tk_put (by first | exact Or.inl ⟨bI_dn.mp (by assumption), rfl⟩ | exact Or.inr ⟨Decidable.not_not.mp (bI_d0.mp (by assumption)), rfl⟩))]
            exact ih (by omega)
      exact loop 0 (Nat.zero_le _)
    · show AW X 0 0 46 [some (.ref 44), some (.int (nI x)), some (.int (nI y)), some (.int (bI c)), some (.int (nI k))] [] T (a_u I 44 61 0) J R
      have h4n : ¬ 64 ≤ k := fun q9 => h4 ((nI_leI (a := 64) (b := k) (by omega) (by omega)).mpr q9)
      refine aw_iload_n hC dX12_take_46 rfl ?_
      refine aw_aload_n hC dX12_take_47 rfl ?_
      refine aw_getR hC dX12_take_48 aF_X12_83 rfl (tg_44 hT) (pr_44_29 hR) ?_
      refine aw_iload hC dX12_take_51 rfl ?_
      refine aw_iaload_k (j := k) hC dX12_take_53 (tg_69 hT) (nI_clamp (by omega)) (vp_in_nI (by omega) (by decide)) ?_
      rw [a_u_ne (f := I) (o := 44) (k := 61) (a := 69) (b := k) (v := 0) (fun q => absurd q.1 (by decide))]
      refine aw_iload_n hC dX12_take_54 rfl ?_
      refine aw_iconst (v := 1) hC dX12_take_55 (by decide) ?_
      refine aw_iadd hC dX12_take_56 ?_
      rw [show (nI y) + 1 = nI (y + 1) from nI_add y 1]
      refine aw_icmp_ne (tgt := 64) hC dX12_take_57 (by decide) (fun h9 => ?_) (fun h9 => ?_)
      · show AW X 0 0 64 [some (.ref 44), some (.int (nI x)), some (.int (nI y)), some (.int (bI c)), some (.int (nI k))] [.int (bI c)] T (a_u I 44 61 0) J R
        refine aw_iconst (v := 0) hC dX12_take_64 (by decide) ?_
        refine aw_ior hC dX12_take_65 ?_
        rw [bI_or0 _]
        refine aw_istore_n (L2 := [some (.ref 44), some (.int (nI x)), some (.int (nI y)), some (.int (bI c)), some (.int (nI k))]) hC dX12_take_66 rfl (by decide) rfl ?_
        refine aw_iinc (v := nI (k + 1)) (L2 := [some (.ref 44), some (.int (nI x)), some (.int (nI y)), some (.int (bI c)), some (.int (nI (k + 1)))]) hC dX12_take_67 rfl (nI_inc _) (by decide) rfl ?_
        refine aw_goto (tgt := 39) hC dX12_take_70 (by decide) ?_
        exact ih1 (by omega) c (by rw [anyB, ← hc]; simp_all)
      · show AW X 0 0 60 [some (.ref 44), some (.int (nI x)), some (.int (nI y)), some (.int (bI c)), some (.int (nI k))] [.int (bI c)] T (a_u I 44 61 0) J R
        refine aw_iconst (v := 1) hC dX12_take_60 (by decide) ?_
        refine aw_goto (tgt := 65) hC dX12_take_61 (by decide) ?_
        refine aw_ior hC dX12_take_65 ?_
        rw [bI_or1 _]
        refine aw_istore_n (L2 := [some (.ref 44), some (.int (nI x)), some (.int (nI y)), some (.int (bI true)), some (.int (nI k))]) hC dX12_take_66 rfl (by decide) rfl ?_
        refine aw_iinc (v := nI (k + 1)) (L2 := [some (.ref 44), some (.int (nI x)), some (.int (nI y)), some (.int (bI true)), some (.int (nI (k + 1)))]) hC dX12_take_67 rfl (nI_inc _) (by decide) rfl ?_
        refine aw_goto (tgt := 39) hC dX12_take_70 (by decide) ?_
        exact ih1 (by omega) true (by rw [anyB, ← hc]; simp_all)
  exact loop1 0 (Nat.zero_le _) false rfl
