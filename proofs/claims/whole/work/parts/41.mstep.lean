/-- left out, by the names that have failed -/
abbrev loF (I : aI) (F : Nat → Int32) (x : Nat) : Nat → Bool := fun k => decide (10 ≤ I 65 (3 * (x / 16) + k)) && decide (F (16 * ((iN I 65 (3 * (x / 16) + k) - 10) / 3) + x % 16) ≠ 0)
def loB (I : aI) (F : Nat → Int32) (x : Nat) : Bool := decide (F x ≠ 0) || anyB (loF I F x) 3
abbrev acN (I : aI) (p a : Nat) : Nat := iN I 80 (128 * p + a) % 100
/-- passing over what is left out -/
def psF (I : aI) (p : Nat) : Nat → Nat → (Nat → Int32) → Nat × (Nat → Int32)
  | 0, a, F => (a, F)
  | m + 1, a, F => if loB I F (acN I p a) = true then psF I p m (a + 1) (fun j => if j = acN I p a then 1 else F j) else (a, F)
theorem psF_le (I : aI) (p : Nat) : ∀ (m a : Nat) (F : Nat → Int32), a ≤ (psF I p m a F).1 ∧ (psF I p m a F).1 ≤ a + m
  | 0, a, F => ⟨Nat.le_refl _, Nat.le_refl _⟩
  | m + 1, a, F => by
    simp only [psF]; split
    · have := psF_le I p m (a + 1) (fun j => if j = acN I p a then 1 else F j); omega
    · exact ⟨Nat.le_refl _, by omega⟩
theorem psF_01 (I : aI) (p : Nat) : ∀ (m a : Nat) (F : Nat → Int32), (∀ j, F j = 0 ∨ F j = 1) → ∀ j, (psF I p m a F).2 j = 0 ∨ (psF I p m a F).2 j = 1
  | 0, a, F, h => h
  | m + 1, a, F, h => by
    simp only [psF]; split
    · exact psF_01 I p m (a + 1) _ (fun j => by (try dsimp only); split; exact Or.inr rfl; exact h j)
    · exact h
abbrev psT (I : aI) (a : Nat) (F : Nat → Int32) : aI := a_ur (a_u I 44 44 (nI a)) 81 F
def psS (I : aI) (p a : Nat) : aI :=
  if (psF I p (iN I 79 p - a) a (I 81)).1 = iN I 79 p then a_u (a_u (psT I (psF I p (iN I 79 p - a) a (I 81)).1 (psF I p (iN I 79 p - a) a (I 81)).2) 44 43 (-1)) 44 45 (-1)
  else psT I (psF I p (iN I 79 p - a) a (I 81)).1 (psF I p (iN I 79 p - a) a (I 81)).2
/-- the actions of a plan are numbers with names -/
abbrev AcW (I : aI) (p : Nat) : Prop := iN I 79 p ≤ 128 ∧ I 79 p = nI (iN I 79 p) ∧ ∀ k, k < iN I 79 p → I 80 (128 * p + k) = nI (iN I 80 (128 * p + k)) ∧ iN I 80 (128 * p + k) < 500 ∧ acN I p k < 64
theorem SOK_cg {I I2 : aI} (h : I2 65 = I 65) (g : SOK I) : SOK I2 := by unfold SOK iN at *; rw [h]; exact g
theorem loB_eq {I I2 : aI} {F : Nat → Int32} {x : Nat} (h65 : I2 65 = I 65) (h81 : I2 81 = F) : (decide (I2 81 x ≠ 0) || anyB (loS I2 x) 3) = loB I F x := by
  unfold loB; rw [h81]
  have e : anyB (loS I2 x) 3 = anyB (loF I F x) 3 := anyB_cg (fun j _ => by simp only [loS, loF]; unfold iN; rw [h65, h81])
  rw [e]
theorem psF_y {I : aI} {p m a : Nat} {F : Nat → Int32} {R : Nat × (Nat → Int32)} (h : psF I p (m + 1) a F = R) (hb : loB I F (acN I p a) = true) : psF I p m (a + 1) (fun j => if j = acN I p a then 1 else F j) = R := by rw [psF, if_pos hb] at h; exact h
theorem psF_n {I : aI} {p m a : Nat} {F : Nat → Int32} {R : Nat × (Nat → Int32)} (h : psF I p (m + 1) a F = R) (hb : loB I F (acN I p a) = false) : R = (a, F) := by rw [psF, if_neg (by rw [hb]; simp)] at h; exact h.symm
theorem a_u_id {α : Type} {f : Nat → Nat → α} {o k : Nat} : a_u f o k (f o k) = f := by
  funext a b; simp only [a_u]; split
  · next h => rw [h.1, h.2]
  · rfl
set_option maxRecDepth 100000 in
theorem m_X12_passes {T : List aT} {I : aI} {J : aJ} {R : aR} (hT : aPT T) (hR : aPR R) {p a0 : Nat} (hp : I 44 43 = nI p) (hp9 : p < 40) (ha0 : I 44 44 = nI a0) (hle : a0 ≤ iN I 79 p) (hac : AcW I p) (hso : SOK I) (h81 : B01 I 81) : MX12_passes 0 0 [.ref 44] T I J R (aPure none T (psS I p a0) J R) := by
  refine a_met (by decide +kernel) a_le (fun X hC hq => ?_)
  show AW X 0 0 0 [some (.ref 44), none, none] [] T I J R
  refine aw_iconst (v := 1) hC dX12_passes_0 (by decide) ?_
  refine aw_istore_n (L2 := [some (.ref 44), some (.int 1), none]) hC dX12_passes_1 rfl (by decide) rfl ?_
  obtain ⟨M, hM⟩ : ∃ M, M = iN I 79 p := ⟨_, rfl⟩
  obtain ⟨Rr, hRr⟩ : ∃ Rr, Rr = psF I p (M - a0) a0 (I 81) := ⟨_, rfl⟩
  have hMa := hac.1
  rw [← hM] at hMa
  have hr1 : a0 ≤ Rr.1 ∧ Rr.1 ≤ a0 + (M - a0) := by rw [hRr]; exact psF_le I p _ _ _
  have h79 : I 79 p = nI M := by rw [hM]; exact hac.2.1
  have fin : AW X 0 0 74 [some (.ref 44), none, none] [] T (a_ur (a_u I 44 44 (nI Rr.1)) 81 Rr.2) J R := by
    refine aw_aload_n hC dX12_passes_74 rfl ?_
    refine aw_getI hC dX12_passes_75 aF_X12_392 rfl (tg_44 hT) ?_
    rw [a_ur_ne (f := a_u I 44 44 (nI Rr.1)) (o := 81) (a := 44) (g := Rr.2) (by decide)]
    rw [a_u_self (f := I) (o := 44) (k := 44) (v := nI Rr.1)]
    refine aw_aload_n hC dX12_passes_78 rfl ?_
    refine aw_getR hC dX12_passes_79 aF_X12_113 rfl (tg_44 hT) (pr_44_41 hR) ?_
    refine aw_aload_n hC dX12_passes_82 rfl ?_
    refine aw_getI hC dX12_passes_83 aF_X12_119 rfl (tg_44 hT) ?_
    rw [a_ur_ne (f := a_u I 44 44 (nI Rr.1)) (o := 81) (a := 44) (g := Rr.2) (by decide)]
    rw [a_u_ne (f := I) (o := 44) (k := 44) (a := 44) (b := 43) (v := nI Rr.1) (fun q => absurd q.2 (by decide))]
    rw [hp]
    refine aw_iaload_k (j := p) hC dX12_passes_86 (tg_79 hT) (nI_clamp (by omega)) (vp_in_nI (by omega) (by decide)) ?_
    rw [a_ur_ne (f := a_u I 44 44 (nI Rr.1)) (o := 81) (a := 79) (g := Rr.2) (by decide)]
    rw [a_u_ne (f := I) (o := 44) (k := 44) (a := 79) (b := p) (v := nI Rr.1) (fun q => absurd q.1 (by decide))]
    rw [h79]
    refine aw_icmp_ne (tgt := 94) hC dX12_passes_87 (by decide) (fun h1 => ?_) (fun h1 => ?_)
    · show AW X 0 0 94 [some (.ref 44), none, none] [] T (a_ur (a_u I 44 44 (nI Rr.1)) 81 Rr.2) J R
      have h1n : ¬ Rr.1 = M := fun q9 => h1 ((nI_eq (a := Rr.1) (b := M) (by omega) (by omega)).mpr q9)
      exact aw_return hC hq rfl dX12_passes_94 a_le a_le (aPure_ev (by rw [hM] at hRr; rw [psS, ← hRr, ← hM]; rw [if_neg (by omega)]) rfl rfl)
    · show AW X 0 0 90 [some (.ref 44), none, none] [] T (a_ur (a_u I 44 44 (nI Rr.1)) 81 Rr.2) J R
      have h1n : Rr.1 = M := (nI_eq (a := Rr.1) (b := M) (by omega) (by omega)).mp h1
      refine aw_aload_n hC dX12_passes_90 rfl ?_
      refine kX12_196 hC rfl (m_X12_ends hT hR) dX12_passes_91 (tg_44 hT) rfl a_le a_le a_le a_le a_le rfl aPure_x (aPure_k ?_)
      rw [show a_u (a_ur (a_u I 44 44 (nI Rr.1)) 81 Rr.2) 44 43 (-1) = a_ur (a_u (a_u I 44 44 (nI Rr.1)) 44 43 (-1)) 81 Rr.2 from by rw [a_u_swap (by first | decide | omega)]]
      rw [show a_u (a_ur (a_u (a_u I 44 44 (nI Rr.1)) 44 43 (-1)) 81 Rr.2) 44 45 (-1) = a_ur (a_u (a_u (a_u I 44 44 (nI Rr.1)) 44 43 (-1)) 44 45 (-1)) 81 Rr.2 from by rw [a_u_swap (by first | decide | omega)]]
      show AW X 0 0 94 [some (.ref 44), none, none] [] T (a_ur (a_u (a_u (a_u I 44 44 (nI Rr.1)) 44 43 (-1)) 44 45 (-1)) 81 Rr.2) J R
      exact aw_return hC hq rfl dX12_passes_94 a_le a_le (aPure_ev (by rw [hM] at hRr; rw [psS, ← hRr, ← hM]; rw [if_pos (by omega)]; simp only [psT]; rw [a_u_swap (by decide), a_u_swap (by decide)]) rfl rfl)
  have loop : ∀ m a (F : Nat → Int32), a + m = M → (∀ j, F j = 0 ∨ F j = 1) → psF I p m a F = Rr → AW X 0 0 2 [some (.ref 44), some (.int 1), none] [] T (a_ur (a_u I 44 44 (nI a)) 81 F) J R := by
    intro m
    induction m with
    | zero =>
      intro a F ham hF hps
      have e9 : Rr = (a, F) := hps.symm
      refine aw_iload_n hC dX12_passes_2 rfl ?_
      refine aw_if_eq (tgt := 74) hC dX12_passes_3 (by decide) (fun h2 => absurd h2 (by decide)) (fun _ => ?_)
      show AW X 0 0 6 [some (.ref 44), some (.int 1), none] [] T (a_ur (a_u I 44 44 (nI a)) 81 F) J R
      refine aw_aload_n hC dX12_passes_6 rfl ?_
      refine aw_getI hC dX12_passes_7 aF_X12_392 rfl (tg_44 hT) ?_
      rw [a_ur_ne (f := a_u I 44 44 (nI a)) (o := 81) (a := 44) (g := F) (by decide)]
      rw [a_u_self (f := I) (o := 44) (k := 44) (v := nI a)]
      refine aw_aload_n hC dX12_passes_10 rfl ?_
      refine aw_getR hC dX12_passes_11 aF_X12_113 rfl (tg_44 hT) (pr_44_41 hR) ?_
      refine aw_aload_n hC dX12_passes_14 rfl ?_
      refine aw_getI hC dX12_passes_15 aF_X12_119 rfl (tg_44 hT) ?_
      rw [a_ur_ne (f := a_u I 44 44 (nI a)) (o := 81) (a := 44) (g := F) (by decide)]
      rw [a_u_ne (f := I) (o := 44) (k := 44) (a := 44) (b := 43) (v := nI a) (fun q => absurd q.2 (by decide))]
      rw [hp]
      refine aw_iaload_k (j := p) hC dX12_passes_18 (tg_79 hT) (nI_clamp (by omega)) (vp_in_nI (by omega) (by decide)) ?_
      rw [a_ur_ne (f := a_u I 44 44 (nI a)) (o := 81) (a := 79) (g := F) (by decide)]
      rw [a_u_ne (f := I) (o := 44) (k := 44) (a := 79) (b := p) (v := nI a) (fun q => absurd q.1 (by decide))]
      rw [h79]
      refine aw_icmp_ge (tgt := 74) hC dX12_passes_19 (by decide) (fun _ => ?_) (fun h => absurd (nI_le (a := M) (b := a) (by omega) (by omega)) h)
      show AW X 0 0 74 [some (.ref 44), some (.int 1), none] [] T (a_ur (a_u I 44 44 (nI a)) 81 F) J R
      refine aw_forget 1 (L2 := [some (.ref 44), none, none]) rfl ?_
      rw [e9] at fin
      exact fin
    | succ m ih =>
      intro a F ham hF hps
      have hak := hac.2.2 a (by omega)
      refine aw_iload_n hC dX12_passes_2 rfl ?_
      refine aw_if_eq (tgt := 74) hC dX12_passes_3 (by decide) (fun h3 => absurd h3 (by decide)) (fun _ => ?_)
      show AW X 0 0 6 [some (.ref 44), some (.int 1), none] [] T (a_ur (a_u I 44 44 (nI a)) 81 F) J R
      refine aw_aload_n hC dX12_passes_6 rfl ?_
      refine aw_getI hC dX12_passes_7 aF_X12_392 rfl (tg_44 hT) ?_
      rw [a_ur_ne (f := a_u I 44 44 (nI a)) (o := 81) (a := 44) (g := F) (by decide)]
      rw [a_u_self (f := I) (o := 44) (k := 44) (v := nI a)]
      refine aw_aload_n hC dX12_passes_10 rfl ?_
      refine aw_getR hC dX12_passes_11 aF_X12_113 rfl (tg_44 hT) (pr_44_41 hR) ?_
      refine aw_aload_n hC dX12_passes_14 rfl ?_
      refine aw_getI hC dX12_passes_15 aF_X12_119 rfl (tg_44 hT) ?_
      rw [a_ur_ne (f := a_u I 44 44 (nI a)) (o := 81) (a := 44) (g := F) (by decide)]
      rw [a_u_ne (f := I) (o := 44) (k := 44) (a := 44) (b := 43) (v := nI a) (fun q => absurd q.2 (by decide))]
      rw [hp]
      refine aw_iaload_k (j := p) hC dX12_passes_18 (tg_79 hT) (nI_clamp (by omega)) (vp_in_nI (by omega) (by decide)) ?_
      rw [a_ur_ne (f := a_u I 44 44 (nI a)) (o := 81) (a := 79) (g := F) (by decide)]
      rw [a_u_ne (f := I) (o := 44) (k := 44) (a := 79) (b := p) (v := nI a) (fun q => absurd q.1 (by decide))]
      rw [h79]
      refine aw_icmp_ge (tgt := 74) hC dX12_passes_19 (by decide) (fun h => absurd ((nI_leI (a := M) (b := a) (by omega) (by omega)).mp h) (by omega)) (fun _ => ?_)
      show AW X 0 0 22 [some (.ref 44), some (.int 1), none] [] T (a_ur (a_u I 44 44 (nI a)) 81 F) J R
      refine aw_aload_n hC dX12_passes_22 rfl ?_
      refine aw_getR hC dX12_passes_23 aF_X12_116 rfl (tg_44 hT) (pr_44_42 hR) ?_
      refine aw_sipush (v := 128) hC dX12_passes_26 (by decide) ?_
      refine aw_aload_n hC dX12_passes_29 rfl ?_
      refine aw_getI hC dX12_passes_30 aF_X12_119 rfl (tg_44 hT) ?_
      rw [a_ur_ne (f := a_u I 44 44 (nI a)) (o := 81) (a := 44) (g := F) (by decide)]
      rw [a_u_ne (f := I) (o := 44) (k := 44) (a := 44) (b := 43) (v := nI a) (fun q => absurd q.2 (by decide))]
      rw [hp]
      refine aw_imul hC dX12_passes_33 ?_
      rw [show 128 * (nI p) = nI (128 * p) from pk_mul 128 p]
      refine aw_aload_n hC dX12_passes_34 rfl ?_
      refine aw_getI hC dX12_passes_35 aF_X12_392 rfl (tg_44 hT) ?_
      rw [a_ur_ne (f := a_u I 44 44 (nI a)) (o := 81) (a := 44) (g := F) (by decide)]
      rw [a_u_self (f := I) (o := 44) (k := 44) (v := nI a)]
      refine aw_iadd hC dX12_passes_38 ?_
      rw [show (nI (128 * p)) + (nI a) = nI ((128 * p) + a) from nI_add (128 * p) a]
      refine aw_iaload_k (j := ((128 * p) + a)) hC dX12_passes_39 (tg_80 hT) (nI_clamp (by omega)) (vp_in_nI (by omega) (by decide)) ?_
      rw [a_ur_ne (f := a_u I 44 44 (nI a)) (o := 81) (a := 80) (g := F) (by decide)]
      rw [a_u_ne (f := I) (o := 44) (k := 44) (a := 80) (b := ((128 * p) + a)) (v := nI a) (fun q => absurd q.1 (by decide))]
      rw [show I 80 ((128 * p) + a) = nI (iN I 80 (128 * p + a)) from hak.1]
      refine aw_bipush (v := 100) hC dX12_passes_40 (by decide) ?_
      refine aw_irem hC dX12_passes_42 (by decide) ?_
      rw [show (nI (iN I 80 (128 * p + a))) - (nI (iN I 80 (128 * p + a))) / 100 * 100 = nI ((iN I 80 (128 * p + a)) % 100) from pk_rem (a := (iN I 80 (128 * p + a))) (d := 100) (by omega) (by decide) (by decide)]
      have hxn : acN I p a < 64 := hak.2.2
      refine aw_istore_n (L2 := [some (.ref 44), some (.int 1), some (.int (nI (acN I p a)))]) hC dX12_passes_43 rfl (by decide) rfl ?_
      refine aw_aload_n hC dX12_passes_44 rfl ?_
      refine aw_iload_n hC dX12_passes_45 rfl ?_
      refine kX12_395 hC rfl (m_X12_isLeftOut (I := a_ur (a_u I 44 44 (nI a)) 81 F) (J := J) hT hR (x := (acN I p a)) (by omega) (SOK_cg (by rw [a_ur_ne (by decide), a_u_row (by decide)]) hso) (fun j => by rw [a_ur_self]; exact hF j)) dX12_passes_46 (tg_44 hT) rfl a_le a_le a_le a_le a_le rfl aPure_x (aPure_k ?_)
      show AW X 0 0 49 [some (.ref 44), some (.int 1), some (.int (nI (acN I p a)))] [.int (bI (decide ((a_ur (a_u I 44 44 (nI a)) 81 F) 81 (acN I p a) ≠ 0) || anyB (loS (a_ur (a_u I 44 44 (nI a)) 81 F) (acN I p a)) 3))] T (a_ur (a_u I 44 44 (nI a)) 81 F) J R
      rw [loB_eq (I := I) (I2 := a_ur (a_u I 44 44 (nI a)) 81 F) (F := F) (x := (acN I p a)) (by rw [a_ur_ne (by decide), a_u_row (by decide)]) a_ur_self]
      refine aw_istore_n (L2 := [some (.ref 44), some (.int (bI (loB I F (acN I p a)))), some (.int (nI (acN I p a)))]) hC dX12_passes_49 rfl (by decide) rfl ?_
      refine aw_iload_n hC dX12_passes_50 rfl ?_
      refine aw_if_eq (tgt := 71) hC dX12_passes_51 (by decide) (fun h51 => ?_) (fun h51 => ?_)
      · rw [h51]
        show AW X 0 0 71 [some (.ref 44), some (.int 0), some (.int (nI (acN I p a)))] [] T (a_ur (a_u I 44 44 (nI a)) 81 F) J R
        refine aw_goto (tgt := 2) hC dX12_passes_71 (by decide) ?_
        refine aw_iload_n hC dX12_passes_2 rfl ?_
        refine aw_if_eq (tgt := 74) hC dX12_passes_3 (by decide) (fun _ => ?_) (fun h4 => absurd h4 (by decide))
        show AW X 0 0 74 [some (.ref 44), some (.int 0), some (.int (nI (acN I p a)))] [] T (a_ur (a_u I 44 44 (nI a)) 81 F) J R
        have e9 : Rr = (a, F) := psF_n hps (bI_e0.mp (by assumption))
        refine aw_forget 1 (L2 := [some (.ref 44), none, some (.int (nI (acN I p a)))]) rfl ?_
        refine aw_forget 2 (L2 := [some (.ref 44), none, none]) rfl ?_
        rw [e9] at fin
        exact fin
      · rw [show bI (loB I F (acN I p a)) = 1 from by rw [bI_n0.mp h51]; rfl]
        show AW X 0 0 54 [some (.ref 44), some (.int 1), some (.int (nI (acN I p a)))] [] T (a_ur (a_u I 44 44 (nI a)) 81 F) J R
        refine aw_aload_n hC dX12_passes_54 rfl ?_
        refine aw_getR hC dX12_passes_55 aF_X12_126 rfl (tg_44 hT) (pr_44_46 hR) ?_
        refine aw_iload_n hC dX12_passes_58 rfl ?_
        refine aw_iconst (v := 1) hC dX12_passes_59 (by decide) ?_
        refine aw_bastore_k (j := (acN I p a)) hC dX12_passes_60 (tg_81 hT) (nI_clamp (by omega)) (vp_in_nI (by omega) (by decide)) (Or.inr rfl) ?_
        rw [show a_u (a_ur (a_u I 44 44 (nI a)) 81 F) 81 (acN I p a) 1 = a_ur (a_u I 44 44 (nI a)) 81 (fun j => if j = (acN I p a) then 1 else F j) from by rw [a_ur_put]]
        refine aw_aload_n hC dX12_passes_61 rfl ?_
        refine aw_dup hC dX12_passes_62 rfl ?_
        refine aw_getI hC dX12_passes_63 aF_X12_392 rfl (tg_44 hT) ?_
        rw [a_ur_ne (f := a_u I 44 44 (nI a)) (o := 81) (a := 44) (g := fun j => if j = (acN I p a) then 1 else F j) (by decide)]
        rw [a_u_self (f := I) (o := 44) (k := 44) (v := nI a)]
        refine aw_iconst (v := 1) hC dX12_passes_66 (by decide) ?_
        refine aw_iadd hC dX12_passes_67 ?_
        rw [show (nI a) + 1 = nI (a + 1) from nI_add a 1]
        refine aw_putI hC dX12_passes_68 aF_X12_392 rfl rfl (tg_44 hT) ?_
        rw [show a_u (a_ur (a_u I 44 44 (nI a)) 81 (fun j => if j = (acN I p a) then 1 else F j)) 44 44 (nI (a + 1)) = a_ur (a_u (a_u I 44 44 (nI a)) 44 44 (nI (a + 1))) 81 (fun j => if j = (acN I p a) then 1 else F j) from by rw [a_u_swap (by first | decide | omega)]]
        refine aw_goto (tgt := 2) hC dX12_passes_71 (by decide) ?_
        refine aw_forget 2 (L2 := [some (.ref 44), some (.int 1), none]) rfl ?_
        rw [a_u_2]
        exact ih (a + 1) _ (by omega) (fun j => by (try dsimp only); split; exact Or.inr rfl; exact hF j) (psF_y hps (bI_n0.mp (by assumption)))
  rw [show I = psT I a0 (I 81) from by simp only [psT]; rw [← ha0, a_u_id, a_ur_id (fun _ => rfl)]]
  exact loop (M - a0) a0 (I 81) (by omega) h81 hRr.symm
noncomputable def cgS (I : aI) (J : aJ) (x : Nat) (md : Bool) : Nat → Bool := fun k => !(if md = true then decide (I 58 (3 * iN I 62 (x / 16) + k) &&& 2 = 0) else sDf I J x k) || decide (0 ≤ sGives I J x k)
theorem cg_n0 {I : aI} {J : aJ} {x k : Nat} {md : Bool} (h : md = true) (h2 : ¬ I 58 (3 * iN I 62 (x / 16) + k) &&& 2 = 0) : cgS I J x md k = true := by unfold cgS; rw [if_pos h, decide_eq_false h2]; rfl
theorem cg_n1 {I : aI} {J : aJ} {x k : Nat} {md : Bool} (h : md = false) (h2 : sDf I J x k = false) : cgS I J x md k = true := by unfold cgS; rw [h, h2]; rfl
theorem cg_g {I : aI} {J : aJ} {x k : Nat} {md : Bool} (h : 0 ≤ sGives I J x k) : cgS I J x md k = true := by unfold cgS; rw [decide_eq_true h, Bool.or_true]
theorem cg_f0 {I : aI} {J : aJ} {x k : Nat} {md : Bool} (h : md = true) (h2 : I 58 (3 * iN I 62 (x / 16) + k) &&& 2 = 0) (h3 : sGives I J x k < 0) : cgS I J x md k = false := by unfold cgS; rw [if_pos h, decide_eq_true h2, decide_eq_false (Int32.not_le.mpr h3)]; rfl
theorem cg_f1 {I : aI} {J : aJ} {x k : Nat} {md : Bool} (h : md = false) (h2 : sDf I J x k = true) (h3 : sGives I J x k < 0) : cgS I J x md k = false := by unfold cgS; rw [h, h2, decide_eq_false (Int32.not_le.mpr h3)]; rfl
theorem all_y {p : Nat → Bool} {acc : Bool} {k : Nat} (h : acc = allB p k) (hp : p k = true) : acc = allB p (k + 1) := by rw [allB, hp, Bool.and_true]; exact h
theorem all_n {p : Nat → Bool} {k : Nat} (hp : p k = false) : false = allB p (k + 1) := by rw [allB, hp, Bool.and_false]
set_option maxRecDepth 100000 in
theorem m_X12_canGive {T : List aT} {I : aI} {J : aJ} {R : aR} (hT : aPT T) (hR : aPR R) {g x : Nat} (hg : GW I g) (hx : x < 64) (md : Bool) : MX12_canGive 0 0 [.ref 44, .int (nI x), .int (bI md)] T I J R (aPure (some (.int (bI (allB (cgS I J x md) 3)))) T I J R) := by
  refine a_met (by decide +kernel) a_le (fun X hC hq => ?_)
  show AW X 0 0 0 [some (.ref 44), some (.int (nI x)), some (.int (bI md)), none, none, none] [] T I J R
  refine aw_iconst (v := 1) hC dX12_canGive_0 (by decide) ?_
  refine aw_istore_n (L2 := [some (.ref 44), some (.int (nI x)), some (.int (bI md)), some (.int 1), none, none]) hC dX12_canGive_1 rfl (by decide) rfl ?_
  refine aw_iconst (v := 0) hC dX12_canGive_2 (by decide) ?_
  refine aw_istore (L2 := [some (.ref 44), some (.int (nI x)), some (.int (bI md)), some (.int 1), some (.int 0), none]) hC dX12_canGive_3 (by decide) rfl ?_
  have loop : ∀ k, k ≤ 3 → ∀ c : Bool, c = allB (cgS I J x md) k → AW X 0 0 5 [some (.ref 44), some (.int (nI x)), some (.int (bI md)), some (.int (bI c)), some (.int (nI k)), none] [] T I J R := by
    refine a_down 3 (fun k hkl ih => ?_)
    intro c hc
    refine aw_iload hC dX12_canGive_5 rfl ?_
    refine aw_iconst (v := 3) hC dX12_canGive_7 (by decide) ?_
    refine aw_icmp_ge (tgt := 80) hC dX12_canGive_8 (by decide) (fun h1 => ?_) (fun h1 => ?_)
    · show AW X 0 0 80 [some (.ref 44), some (.int (nI x)), some (.int (bI md)), some (.int (bI c)), some (.int (nI k)), none] [] T I J R
      have h1n : 3 ≤ k := (nI_leI (a := 3) (b := k) (by omega) (by omega)).mp h1
      refine aw_iload_n hC dX12_canGive_80 rfl ?_
      exact aw_zreturn hC hq rfl (bI_01 _) dX12_canGive_81 a_le a_le (aPure_i (congrArg bI (by rw [hc, show k = 3 from by omega])))
    · show AW X 0 0 11 [some (.ref 44), some (.int (nI x)), some (.int (bI md)), some (.int (bI c)), some (.int (nI k)), none] [] T I J R
      have h1n : ¬ 3 ≤ k := fun q9 => h1 ((nI_leI (a := 3) (b := k) (by omega) (by omega)).mpr q9)
      refine aw_iload_n hC dX12_canGive_11 rfl ?_
      refine aw_if_eq (tgt := 42) hC dX12_canGive_12 (by decide) (fun h2 => ?_) (fun h2 => ?_)
      · show AW X 0 0 42 [some (.ref 44), some (.int (nI x)), some (.int (bI md)), some (.int (bI c)), some (.int (nI k)), none] [] T I J R
        refine aw_aload_n hC dX12_canGive_42 rfl ?_
        refine aw_iload_n hC dX12_canGive_43 rfl ?_
        refine aw_iload hC dX12_canGive_44 rfl ?_
        refine kX12_352 hC rfl (m_X12_differs (I := I) (J := J) hT hR (x := x) (a := k) (by omega) (by omega) hg.so.s2 hg.ty hg.up) dX12_canGive_46 (tg_44 hT) rfl a_le a_le a_le a_le a_le rfl aPure_x (aPure_k ?_)
        show AW X 0 0 49 [some (.ref 44), some (.int (nI x)), some (.int (bI md)), some (.int (bI c)), some (.int (nI k)), none] [.int (bI (sDf I J x k))] T I J R
        refine aw_istore (L2 := [some (.ref 44), some (.int (nI x)), some (.int (bI md)), some (.int (bI c)), some (.int (nI k)), some (.int (bI (sDf I J x k)))]) hC dX12_canGive_49 (by decide) rfl ?_
        refine aw_iload_n hC dX12_canGive_51 rfl ?_
        refine aw_iload hC dX12_canGive_52 rfl ?_
        refine aw_if_eq (tgt := 67) hC dX12_canGive_54 (by decide) (fun h3 => ?_) (fun h3 => ?_)
        · show AW X 0 0 67 [some (.ref 44), some (.int (nI x)), some (.int (bI md)), some (.int (bI c)), some (.int (nI k)), some (.int (bI (sDf I J x k)))] [.int (bI c)] T I J R
          refine aw_iconst (v := 1) hC dX12_canGive_67 (by decide) ?_
          refine aw_goto (tgt := 72) hC dX12_canGive_68 (by decide) ?_
          refine aw_iand hC dX12_canGive_72 ?_
          rw [bI_and1 _]
          refine aw_istore_n (L2 := [some (.ref 44), some (.int (nI x)), some (.int (bI md)), some (.int (bI c)), some (.int (nI k)), some (.int (bI (sDf I J x k)))]) hC dX12_canGive_73 rfl (by decide) rfl ?_
          refine aw_iinc (v := nI (k + 1)) (L2 := [some (.ref 44), some (.int (nI x)), some (.int (bI md)), some (.int (bI c)), some (.int (nI (k + 1))), some (.int (bI (sDf I J x k)))]) hC dX12_canGive_74 rfl (nI_inc _) (by decide) rfl ?_
          refine aw_goto (tgt := 5) hC dX12_canGive_77 (by decide) ?_
          refine aw_forget 5 (L2 := [some (.ref 44), some (.int (nI x)), some (.int (bI md)), some (.int (bI c)), some (.int (nI (k + 1))), none]) rfl ?_
          exact ih (by omega) c (all_y hc (by first | exact cg_g (Int32.not_lt.mp (by assumption)) | exact cg_n0 (bI_n0.mp (by assumption)) (bI_dn.mp (by assumption)) | exact cg_n1 (bI_e0.mp (by assumption)) (bI_e0.mp (by assumption)) | (exfalso; contradiction)))
        · show AW X 0 0 57 [some (.ref 44), some (.int (nI x)), some (.int (bI md)), some (.int (bI c)), some (.int (nI k)), some (.int (bI (sDf I J x k)))] [.int (bI c)] T I J R
          refine aw_aload_n hC dX12_canGive_57 rfl ?_
          refine aw_iload_n hC dX12_canGive_58 rfl ?_
          refine aw_iload hC dX12_canGive_59 rfl ?_
          refine kX12_346 hC rfl (m_X12_gives (I := I) (J := J) hT hR (x := x) (a := k) (by omega) (by omega) hg.so.s2 hg.ty hg.up) dX12_canGive_61 (tg_44 hT) rfl a_le a_le a_le a_le a_le rfl aPure_x (aPure_k ?_)
          show AW X 0 0 64 [some (.ref 44), some (.int (nI x)), some (.int (bI md)), some (.int (bI c)), some (.int (nI k)), some (.int (bI (sDf I J x k)))] [.int (sGives I J x k), .int (bI c)] T I J R
          refine aw_if_lt (tgt := 71) hC dX12_canGive_64 (by decide) (fun h4 => ?_) (fun h4 => ?_)
          · show AW X 0 0 71 [some (.ref 44), some (.int (nI x)), some (.int (bI md)), some (.int (bI c)), some (.int (nI k)), some (.int (bI (sDf I J x k)))] [.int (bI c)] T I J R
            refine aw_iconst (v := 0) hC dX12_canGive_71 (by decide) ?_
            refine aw_iand hC dX12_canGive_72 ?_
            rw [bI_and0 _]
            refine aw_istore_n (L2 := [some (.ref 44), some (.int (nI x)), some (.int (bI md)), some (.int (bI false)), some (.int (nI k)), some (.int (bI (sDf I J x k)))]) hC dX12_canGive_73 rfl (by decide) rfl ?_
            refine aw_iinc (v := nI (k + 1)) (L2 := [some (.ref 44), some (.int (nI x)), some (.int (bI md)), some (.int (bI false)), some (.int (nI (k + 1))), some (.int (bI (sDf I J x k)))]) hC dX12_canGive_74 rfl (nI_inc _) (by decide) rfl ?_
            refine aw_goto (tgt := 5) hC dX12_canGive_77 (by decide) ?_
            refine aw_forget 5 (L2 := [some (.ref 44), some (.int (nI x)), some (.int (bI md)), some (.int (bI false)), some (.int (nI (k + 1))), none]) rfl ?_
            exact ih (by omega) false (all_n (by first | exact cg_f0 (bI_n0.mp (by assumption)) (Decidable.not_not.mp (bI_d0.mp (by assumption))) (by assumption) | exact cg_f1 (bI_e0.mp (by assumption)) (bI_n0.mp (by assumption)) (by assumption) | (exfalso; contradiction)))
          · show AW X 0 0 67 [some (.ref 44), some (.int (nI x)), some (.int (bI md)), some (.int (bI c)), some (.int (nI k)), some (.int (bI (sDf I J x k)))] [.int (bI c)] T I J R
            refine aw_iconst (v := 1) hC dX12_canGive_67 (by decide) ?_
            refine aw_goto (tgt := 72) hC dX12_canGive_68 (by decide) ?_
            refine aw_iand hC dX12_canGive_72 ?_
            rw [bI_and1 _]
            refine aw_istore_n (L2 := [some (.ref 44), some (.int (nI x)), some (.int (bI md)), some (.int (bI c)), some (.int (nI k)), some (.int (bI (sDf I J x k)))]) hC dX12_canGive_73 rfl (by decide) rfl ?_
            refine aw_iinc (v := nI (k + 1)) (L2 := [some (.ref 44), some (.int (nI x)), some (.int (bI md)), some (.int (bI c)), some (.int (nI (k + 1))), some (.int (bI (sDf I J x k)))]) hC dX12_canGive_74 rfl (nI_inc _) (by decide) rfl ?_
            refine aw_goto (tgt := 5) hC dX12_canGive_77 (by decide) ?_
            refine aw_forget 5 (L2 := [some (.ref 44), some (.int (nI x)), some (.int (bI md)), some (.int (bI c)), some (.int (nI (k + 1))), none]) rfl ?_
            exact ih (by omega) c (all_y hc (by first | exact cg_g (Int32.not_lt.mp (by assumption)) | exact cg_n0 (bI_n0.mp (by assumption)) (bI_dn.mp (by assumption)) | exact cg_n1 (bI_e0.mp (by assumption)) (bI_e0.mp (by assumption)) | (exfalso; contradiction)))
      · show AW X 0 0 15 [some (.ref 44), some (.int (nI x)), some (.int (bI md)), some (.int (bI c)), some (.int (nI k)), none] [] T I J R
        refine aw_aload_n hC dX12_canGive_15 rfl ?_
        refine aw_aload_n hC dX12_canGive_16 rfl ?_
        refine aw_getR hC dX12_canGive_17 aF_X12_62 rfl (tg_44 hT) (pr_44_21 hR) ?_
        refine aw_iload_n hC dX12_canGive_20 rfl ?_
        refine aw_bipush (v := 16) hC dX12_canGive_21 (by decide) ?_
        refine aw_idiv hC dX12_canGive_23 (by decide) ?_
        rw [show (nI x) / 16 = nI (x / 16) from pk_div (a := x) (d := 16) (by omega) (by decide) (by decide)]
        refine aw_iaload_k (j := (x / 16)) hC dX12_canGive_24 (tg_62 hT) (nI_clamp (by omega)) (vp_in_nI (by omega) (by decide)) ?_
        have hb5 := hg.ty (x / 16) (by omega)
        rw [hb5.1]
        refine aw_iload hC dX12_canGive_25 rfl ?_
        refine aw_iconst (v := 2) hC dX12_canGive_27 (by decide) ?_
        refine kX12_330 hC rfl (m_X12_hasN hT hR (t := (iN I 62 (x / 16))) (a := k) (by omega) (by omega) (2 : Int32)) dX12_canGive_28 (tg_44 hT) rfl a_le a_le a_le a_le a_le rfl aPure_x (aPure_k ?_)
        show AW X 0 0 31 [some (.ref 44), some (.int (nI x)), some (.int (bI md)), some (.int (bI c)), some (.int (nI k)), none] [.int (bI (decide (I 58 (3 * (iN I 62 (x / 16)) + k) &&& (2 : Int32) ≠ 0)))] T I J R
        refine aw_if_ne (tgt := 38) hC dX12_canGive_31 (by decide) (fun h6 => ?_) (fun h6 => ?_)
        · show AW X 0 0 38 [some (.ref 44), some (.int (nI x)), some (.int (bI md)), some (.int (bI c)), some (.int (nI k)), none] [] T I J R
          refine aw_iconst (v := 0) hC dX12_canGive_38 (by decide) ?_
          refine aw_goto (tgt := 49) hC dX12_canGive_39 (by decide) ?_
          refine aw_istore (L2 := [some (.ref 44), some (.int (nI x)), some (.int (bI md)), some (.int (bI c)), some (.int (nI k)), some (.int 0)]) hC dX12_canGive_49 (by decide) rfl ?_
          refine aw_iload_n hC dX12_canGive_51 rfl ?_
          refine aw_iload hC dX12_canGive_52 rfl ?_
          refine aw_if_eq (tgt := 67) hC dX12_canGive_54 (by decide) (fun _ => ?_) (fun h7 => absurd h7 (by decide))
          show AW X 0 0 67 [some (.ref 44), some (.int (nI x)), some (.int (bI md)), some (.int (bI c)), some (.int (nI k)), some (.int 0)] [.int (bI c)] T I J R
          refine aw_iconst (v := 1) hC dX12_canGive_67 (by decide) ?_
          refine aw_goto (tgt := 72) hC dX12_canGive_68 (by decide) ?_
          refine aw_iand hC dX12_canGive_72 ?_
          rw [bI_and1 _]
          refine aw_istore_n (L2 := [some (.ref 44), some (.int (nI x)), some (.int (bI md)), some (.int (bI c)), some (.int (nI k)), some (.int 0)]) hC dX12_canGive_73 rfl (by decide) rfl ?_
          refine aw_iinc (v := nI (k + 1)) (L2 := [some (.ref 44), some (.int (nI x)), some (.int (bI md)), some (.int (bI c)), some (.int (nI (k + 1))), some (.int 0)]) hC dX12_canGive_74 rfl (nI_inc _) (by decide) rfl ?_
          refine aw_goto (tgt := 5) hC dX12_canGive_77 (by decide) ?_
          refine aw_forget 5 (L2 := [some (.ref 44), some (.int (nI x)), some (.int (bI md)), some (.int (bI c)), some (.int (nI (k + 1))), none]) rfl ?_
          exact ih (by omega) c (all_y hc (by first | exact cg_g (Int32.not_lt.mp (by assumption)) | exact cg_n0 (bI_n0.mp (by assumption)) (bI_dn.mp (by assumption)) | exact cg_n1 (bI_e0.mp (by assumption)) (bI_e0.mp (by assumption)) | (exfalso; contradiction)))
        · show AW X 0 0 34 [some (.ref 44), some (.int (nI x)), some (.int (bI md)), some (.int (bI c)), some (.int (nI k)), none] [] T I J R
          refine aw_iconst (v := 1) hC dX12_canGive_34 (by decide) ?_
          refine aw_goto (tgt := 49) hC dX12_canGive_35 (by decide) ?_
          refine aw_istore (L2 := [some (.ref 44), some (.int (nI x)), some (.int (bI md)), some (.int (bI c)), some (.int (nI k)), some (.int 1)]) hC dX12_canGive_49 (by decide) rfl ?_
          refine aw_iload_n hC dX12_canGive_51 rfl ?_
          refine aw_iload hC dX12_canGive_52 rfl ?_
          refine aw_if_eq (tgt := 67) hC dX12_canGive_54 (by decide) (fun h8 => absurd h8 (by decide)) (fun _ => ?_)
          show AW X 0 0 57 [some (.ref 44), some (.int (nI x)), some (.int (bI md)), some (.int (bI c)), some (.int (nI k)), some (.int 1)] [.int (bI c)] T I J R
          refine aw_aload_n hC dX12_canGive_57 rfl ?_
          refine aw_iload_n hC dX12_canGive_58 rfl ?_
          refine aw_iload hC dX12_canGive_59 rfl ?_
          refine kX12_346 hC rfl (m_X12_gives (I := I) (J := J) hT hR (x := x) (a := k) (by omega) (by omega) hg.so.s2 hg.ty hg.up) dX12_canGive_61 (tg_44 hT) rfl a_le a_le a_le a_le a_le rfl aPure_x (aPure_k ?_)
          show AW X 0 0 64 [some (.ref 44), some (.int (nI x)), some (.int (bI md)), some (.int (bI c)), some (.int (nI k)), some (.int 1)] [.int (sGives I J x k), .int (bI c)] T I J R
          refine aw_if_lt (tgt := 71) hC dX12_canGive_64 (by decide) (fun h9 => ?_) (fun h9 => ?_)
          · show AW X 0 0 71 [some (.ref 44), some (.int (nI x)), some (.int (bI md)), some (.int (bI c)), some (.int (nI k)), some (.int 1)] [.int (bI c)] T I J R
            refine aw_iconst (v := 0) hC dX12_canGive_71 (by decide) ?_
            refine aw_iand hC dX12_canGive_72 ?_
            rw [bI_and0 _]
            refine aw_istore_n (L2 := [some (.ref 44), some (.int (nI x)), some (.int (bI md)), some (.int (bI false)), some (.int (nI k)), some (.int 1)]) hC dX12_canGive_73 rfl (by decide) rfl ?_
            refine aw_iinc (v := nI (k + 1)) (L2 := [some (.ref 44), some (.int (nI x)), some (.int (bI md)), some (.int (bI false)), some (.int (nI (k + 1))), some (.int 1)]) hC dX12_canGive_74 rfl (nI_inc _) (by decide) rfl ?_
            refine aw_goto (tgt := 5) hC dX12_canGive_77 (by decide) ?_
            refine aw_forget 5 (L2 := [some (.ref 44), some (.int (nI x)), some (.int (bI md)), some (.int (bI false)), some (.int (nI (k + 1))), none]) rfl ?_
            exact ih (by omega) false (all_n (by first | exact cg_f0 (bI_n0.mp (by assumption)) (Decidable.not_not.mp (bI_d0.mp (by assumption))) (by assumption) | exact cg_f1 (bI_e0.mp (by assumption)) (bI_n0.mp (by assumption)) (by assumption) | (exfalso; contradiction)))
          · show AW X 0 0 67 [some (.ref 44), some (.int (nI x)), some (.int (bI md)), some (.int (bI c)), some (.int (nI k)), some (.int 1)] [.int (bI c)] T I J R
            refine aw_iconst (v := 1) hC dX12_canGive_67 (by decide) ?_
            refine aw_goto (tgt := 72) hC dX12_canGive_68 (by decide) ?_
            refine aw_iand hC dX12_canGive_72 ?_
            rw [bI_and1 _]
            refine aw_istore_n (L2 := [some (.ref 44), some (.int (nI x)), some (.int (bI md)), some (.int (bI c)), some (.int (nI k)), some (.int 1)]) hC dX12_canGive_73 rfl (by decide) rfl ?_
            refine aw_iinc (v := nI (k + 1)) (L2 := [some (.ref 44), some (.int (nI x)), some (.int (bI md)), some (.int (bI c)), some (.int (nI (k + 1))), some (.int 1)]) hC dX12_canGive_74 rfl (nI_inc _) (by decide) rfl ?_
            refine aw_goto (tgt := 5) hC dX12_canGive_77 (by decide) ?_
            refine aw_forget 5 (L2 := [some (.ref 44), some (.int (nI x)), some (.int (bI md)), some (.int (bI c)), some (.int (nI (k + 1))), none]) rfl ?_
            exact ih (by omega) c (all_y hc (by first | exact cg_g (Int32.not_lt.mp (by assumption)) | exact cg_n0 (bI_n0.mp (by assumption)) (bI_dn.mp (by assumption)) | exact cg_n1 (bI_e0.mp (by assumption)) (bI_e0.mp (by assumption)) | (exfalso; contradiction)))
  exact loop 0 (Nat.zero_le _) true rfl
def mkV (I : aI) (J : aJ) (x k : Nat) : Int32 := if I 58 (3 * iN I 62 (x / 16) + k) &&& 2 ≠ 0 then nI ((x + 7 * iN I 74 x) % 64) <<< (nI (iN I 61 (iN I 62 (x / 16))) &&& 31) else sGives I J x k
abbrev mkR (I : aI) (J : aJ) (x r k : Nat) : Nat → Int32 := fun j => if 3 * r ≤ j ∧ j < 3 * r + k then mkV I J x (j - 3 * r) else I 67 j
theorem mkR_put {I : aI} {J : aJ} {x r k : Nat} {v : Int32} (hv : v = mkV I J x k) (j : Nat) : (if j = 3 * r + k then v else mkR I J x r k j) = mkR I J x r (k + 1) j := by
  simp only [mkR]
  by_cases e : j = 3 * r + k
  · subst e; rw [if_pos rfl, if_pos (by omega), show 3 * r + k - 3 * r = k by omega]; exact hv
  · rw [if_neg e]
    by_cases c : 3 * r ≤ j ∧ j < 3 * r + k
    · rw [if_pos c, if_pos (by omega)]
    · rw [if_neg c, if_neg (by omega)]
abbrev mkA (I : aI) (J : aJ) (x r : Nat) : aI := a_ur (a_u (a_u (a_u I 66 r (nI (iN I 62 (x / 16)))) 68 r 0) 44 25 (nI (r + 1))) 67 (mkR I J x r 3)
abbrev mkB (I : aI) (J : aJ) (x r : Nat) : aI := a_u (mkA I J x r) 74 x (nI (iN I 74 x + 1))
abbrev wrT (I : aI) (x r : Nat) : aI := a_ur (a_u (a_u (a_u I 69 x (nI (r + 1))) 71 x 0) 72 x 0) 70 (wrS I x r 3)
def mkS (I : aI) (J : aJ) (x r : Nat) (w t : Bool) : aI := if w = true then a_u (wrT (a_u (mkB I J x r) 82 x (I 69 x)) x r) 71 x (bI t) else mkB I J x r
set_option maxRecDepth 100000 in
theorem m_X12_makes {T : List aT} {I : aI} {J : aJ} {R : aR} (hT : aPT T) (hR : aPR R) {g x r : Nat} (hg : GW I g) (hx : x < 64) (hr : I 44 25 = nI r) (hr9 : r < 60) (hmd : NR I 74 64 61) (w t : Bool) : MX12_makes 0 0 [.ref 44, .int (nI x), .int (bI w), .int (bI t)] T I J R (aPure none T (mkS I J x r w t) J R) := by
  refine a_met (by decide +kernel) a_le (fun X hC hq => ?_)
  show AW X 0 0 0 [some (.ref 44), some (.int (nI x)), some (.int (bI w)), some (.int (bI t)), none, none, none] [] T I J R
  refine aw_aload_n hC dX12_makes_0 rfl ?_
  refine aw_getR hC dX12_makes_1 aF_X12_62 rfl (tg_44 hT) (pr_44_21 hR) ?_
  refine aw_iload_n hC dX12_makes_4 rfl ?_
  refine aw_bipush (v := 16) hC dX12_makes_5 (by decide) ?_
  refine aw_idiv hC dX12_makes_7 (by decide) ?_
  rw [show (nI x) / 16 = nI (x / 16) from pk_div (a := x) (d := 16) (by omega) (by decide) (by decide)]
  refine aw_iaload_k (j := (x / 16)) hC dX12_makes_8 (tg_62 hT) (nI_clamp (by omega)) (vp_in_nI (by omega) (by decide)) ?_
  have hb1 := hg.ty (x / 16) (by omega)
  rw [hb1.1]
  refine aw_istore (L2 := [some (.ref 44), some (.int (nI x)), some (.int (bI w)), some (.int (bI t)), some (.int (nI (iN I 62 (x / 16)))), none, none]) hC dX12_makes_9 (by decide) rfl ?_
  refine aw_aload_n hC dX12_makes_11 rfl ?_
  refine aw_getI hC dX12_makes_12 aF_X12_315 rfl (tg_44 hT) ?_
  rw [hr]
  refine aw_istore (L2 := [some (.ref 44), some (.int (nI x)), some (.int (bI w)), some (.int (bI t)), some (.int (nI (iN I 62 (x / 16)))), some (.int (nI r)), none]) hC dX12_makes_15 (by decide) rfl ?_
  refine aw_aload_n hC dX12_makes_17 rfl ?_
  refine aw_getR hC dX12_makes_18 aF_X12_74 rfl (tg_44 hT) (pr_44_26 hR) ?_
  refine aw_iload hC dX12_makes_21 rfl ?_
  refine aw_iload hC dX12_makes_23 rfl ?_
  refine aw_iastore_k (j := r) hC dX12_makes_25 (tg_66 hT) (nI_clamp (by omega)) (vp_in_nI (by omega) (by decide)) ?_
  refine aw_aload_n hC dX12_makes_26 rfl ?_
  refine aw_getR hC dX12_makes_27 aF_X12_80 rfl (tg_44 hT) (pr_44_28 hR) ?_
  refine aw_iload hC dX12_makes_30 rfl ?_
  refine aw_iconst (v := 0) hC dX12_makes_32 (by decide) ?_
  refine aw_bastore_k (j := r) hC dX12_makes_33 (tg_68 hT) (nI_clamp (by omega)) (vp_in_nI (by omega) (by decide)) (Or.inl rfl) ?_
  refine aw_aload_n hC dX12_makes_34 rfl ?_
  refine aw_dup hC dX12_makes_35 rfl ?_
  refine aw_getI hC dX12_makes_36 aF_X12_315 rfl (tg_44 hT) ?_
  rw [a_u_ne (f := a_u I 66 r (nI (iN I 62 (x / 16)))) (o := 68) (k := r) (a := 44) (b := 25) (v := 0) (fun q => absurd q.1 (by decide))]
  rw [a_u_ne (f := I) (o := 66) (k := r) (a := 44) (b := 25) (v := nI (iN I 62 (x / 16))) (fun q => absurd q.1 (by decide))]
  rw [hr]
  refine aw_iconst (v := 1) hC dX12_makes_39 (by decide) ?_
  refine aw_iadd hC dX12_makes_40 ?_
  rw [show (nI r) + 1 = nI (r + 1) from nI_add r 1]
  refine aw_putI hC dX12_makes_41 aF_X12_315 rfl rfl (tg_44 hT) ?_
  refine aw_iconst (v := 0) hC dX12_makes_44 (by decide) ?_
  refine aw_istore (L2 := [some (.ref 44), some (.int (nI x)), some (.int (bI w)), some (.int (bI t)), some (.int (nI (iN I 62 (x / 16)))), some (.int (nI r)), some (.int 0)]) hC dX12_makes_45 (by decide) rfl ?_
  rw [show a_u (a_u (a_u I 66 r (nI (iN I 62 (x / 16)))) 68 r 0) 44 25 (nI (r + 1)) = a_ur (a_u (a_u (a_u I 66 r (nI (iN I 62 (x / 16)))) 68 r 0) 44 25 (nI (r + 1))) 67 (mkR I J x r 0) from (a_ur_id (fun j => by simp only [mkR]; rw [if_neg (by omega), a_u_row (by decide), a_u_row (by decide), a_u_row (by decide)])).symm]
  have loop : ∀ k, k ≤ 3 → AW X 0 0 47 [some (.ref 44), some (.int (nI x)), some (.int (bI w)), some (.int (bI t)), some (.int (nI (iN I 62 (x / 16)))), some (.int (nI r)), some (.int (nI k))] [] T (a_ur (a_u (a_u (a_u I 66 r (nI (iN I 62 (x / 16)))) 68 r 0) 44 25 (nI (r + 1))) 67 (mkR I J x r k)) J R := by
    refine a_down 3 (fun k hkl ih => ?_)
    have hgS : GW (a_ur (a_u (a_u (a_u I 66 r (nI (iN I 62 (x / 16)))) 68 r 0) 44 25 (nI (r + 1))) 67 (mkR I J x r k)) g := GW_cg (by rw [a_ur_ne (by decide), a_u_ne (fun q => absurd q.2 (by decide)), a_u_row (by decide), a_u_row (by decide)]) (by rw [a_ur_ne (by decide), a_u_row (by decide), a_u_row (by decide), a_u_row (by decide)]) (by rw [a_ur_ne (by decide), a_u_row (by decide), a_u_row (by decide), a_u_row (by decide)]) (by rw [a_ur_ne (by decide), a_u_row (by decide), a_u_row (by decide), a_u_row (by decide)]) (by rw [a_ur_ne (by decide), a_u_row (by decide), a_u_row (by decide), a_u_row (by decide)]) (by rw [a_ur_ne (by decide), a_u_row (by decide), a_u_row (by decide), a_u_row (by decide)]) hg
    have hgv : ∀ q, q < 3 → sGives (a_ur (a_u (a_u (a_u I 66 r (nI (iN I 62 (x / 16)))) 68 r 0) 44 25 (nI (r + 1))) 67 (mkR I J x r k)) J x q = sGives I J x q := fun q hq => sGives_cg hg.so hx hq (by rw [a_ur_ne (by decide), a_u_ne (fun q => absurd q.2 (by decide)), a_u_row (by decide), a_u_row (by decide)]) rfl (by rw [a_ur_ne (by decide), a_u_row (by decide), a_u_row (by decide), a_u_row (by decide)]) (by rw [a_ur_ne (by decide), a_u_row (by decide), a_u_row (by decide), a_u_row (by decide)]) (by rw [a_ur_ne (by decide), a_u_row (by decide), a_u_row (by decide), a_u_row (by decide)]) (by rw [a_ur_ne (by decide), a_u_row (by decide), a_u_row (by decide), a_u_row (by decide)]) (by rw [a_ur_ne (by decide), a_u_row (by decide), a_u_row (by decide), a_u_row (by decide)]) (by rw [a_ur_ne (by decide), a_u_row (by decide), a_u_row (by decide), a_u_row (by decide)]) (fun y _ => by rw [a_ur_ne (by decide), a_u_row (by decide), a_u_row (by decide), a_u_row (by decide)])
    refine aw_iload hC dX12_makes_47 rfl ?_
    refine aw_iconst (v := 3) hC dX12_makes_49 (by decide) ?_
    refine aw_icmp_ge (tgt := 115) hC dX12_makes_50 (by decide) (fun h2 => ?_) (fun h2 => ?_)
    · show AW X 0 0 115 [some (.ref 44), some (.int (nI x)), some (.int (bI w)), some (.int (bI t)), some (.int (nI (iN I 62 (x / 16)))), some (.int (nI r)), some (.int (nI k))] [] T (a_ur (a_u (a_u (a_u I 66 r (nI (iN I 62 (x / 16)))) 68 r 0) 44 25 (nI (r + 1))) 67 (mkR I J x r k)) J R
      have h2n : 3 ≤ k := (nI_leI (a := 3) (b := k) (by omega) (by omega)).mp h2
      obtain rfl : k = 3 := by omega
      obtain ⟨I5, hI5⟩ : ∃ I5, I5 = a_ur (a_u (a_u (a_u I 66 r (nI (iN I 62 (x / 16)))) 68 r 0) 44 25 (nI (r + 1))) 67 (mkR I J x r 3) := ⟨_, rfl⟩
      rw [← hI5]
      have h5 : ∀ o, o ≠ 44 ∧ o ≠ 66 ∧ o ≠ 67 ∧ o ≠ 68 → I5 o = I o := fun o ho => by rw [hI5, a_ur_ne ho.2.2.1, a_u_row ho.1, a_u_row ho.2.2.2, a_u_row ho.2.1]
      refine aw_aload_n hC dX12_makes_115 rfl ?_
      refine aw_getR hC dX12_makes_116 aF_X12_98 rfl (tg_44 hT) (pr_44_34 hR) ?_
      refine aw_iload_n hC dX12_makes_119 rfl ?_
      refine aw_dup2 hC dX12_makes_120 rfl rfl ?_
      refine aw_iaload_k (j := x) hC dX12_makes_121 (tg_74 hT) (nI_clamp (by omega)) (vp_in_nI (by omega) (by decide)) ?_
      rw [h5 74 (by decide)]
      have hb3 := hmd x (by omega)
      rw [hb3.1]
      refine aw_iconst (v := 1) hC dX12_makes_122 (by decide) ?_
      refine aw_iadd hC dX12_makes_123 ?_
      rw [show (nI (iN I 74 x)) + 1 = nI ((iN I 74 x) + 1) from nI_add (iN I 74 x) 1]
      refine aw_iastore_k (j := x) hC dX12_makes_124 (tg_74 hT) (nI_clamp (by omega)) (vp_in_nI (by omega) (by decide)) ?_
      refine aw_iload_n hC dX12_makes_125 rfl ?_
      refine aw_if_eq (tgt := 155) hC dX12_makes_126 (by decide) (fun h4 => ?_) (fun h4 => ?_)
      · show AW X 0 0 155 [some (.ref 44), some (.int (nI x)), some (.int (bI w)), some (.int (bI t)), some (.int (nI (iN I 62 (x / 16)))), some (.int (nI r)), some (.int (nI 3))] [] T (a_u I5 74 x (nI ((iN I 74 x) + 1))) J R
        exact aw_return hC hq rfl dX12_makes_155 a_le a_le (aPure_ev (by rw [hI5, mkS, if_neg (fun q => absurd (by assumption) (bI_n0.mpr q))]) rfl rfl)
      · show AW X 0 0 129 [some (.ref 44), some (.int (nI x)), some (.int (bI w)), some (.int (bI t)), some (.int (nI (iN I 62 (x / 16)))), some (.int (nI r)), some (.int (nI 3))] [] T (a_u I5 74 x (nI ((iN I 74 x) + 1))) J R
        refine aw_aload_n hC dX12_makes_129 rfl ?_
        refine aw_getR hC dX12_makes_130 aF_X12_129 rfl (tg_44 hT) (pr_44_47 hR) ?_
        refine aw_iload_n hC dX12_makes_133 rfl ?_
        refine aw_aload_n hC dX12_makes_134 rfl ?_
        refine aw_getR hC dX12_makes_135 aF_X12_83 rfl (tg_44 hT) (pr_44_29 hR) ?_
        refine aw_iload_n hC dX12_makes_138 rfl ?_
        refine aw_iaload_k (j := x) hC dX12_makes_139 (tg_69 hT) (nI_clamp (by omega)) (vp_in_nI (by omega) (by decide)) ?_
        rw [a_u_ne (f := I5) (o := 74) (k := x) (a := 69) (b := x) (v := nI ((iN I 74 x) + 1)) (fun q => absurd q.1 (by decide))]
        rw [h5 69 (by decide)]
        refine aw_iastore_k (j := x) hC dX12_makes_140 (tg_82 hT) (nI_clamp (by omega)) (vp_in_nI (by omega) (by decide)) ?_
        refine aw_aload_n hC dX12_makes_141 rfl ?_
        refine aw_iload_n hC dX12_makes_142 rfl ?_
        refine aw_iload hC dX12_makes_143 rfl ?_
        refine kX12_398 hC rfl (m_X12_writes (I := a_u (a_u I5 74 x (nI ((iN I 74 x) + 1))) 82 x (I 69 x)) (J := J) hT hR (x := x) (r := r) (by omega) (by omega)) dX12_makes_145 (tg_44 hT) rfl a_le a_le a_le a_le a_le rfl aPure_x (aPure_k ?_)
        obtain ⟨I6, hI6⟩ : ∃ I6, I6 = wrT (a_u (a_u I5 74 x (nI ((iN I 74 x) + 1))) 82 x (I 69 x)) x r := ⟨_, rfl⟩
        show AW _ _ _ _ _ _ _ (wrT (a_u (a_u I5 74 x (nI ((iN I 74 x) + 1))) 82 x (I 69 x)) x r) _ _
        rw [← hI6]
        show AW X 0 0 148 [some (.ref 44), some (.int (nI x)), some (.int (bI w)), some (.int (bI t)), some (.int (nI (iN I 62 (x / 16)))), some (.int (nI r)), some (.int (nI 3))] [] T I6 J R
        refine aw_aload_n hC dX12_makes_148 rfl ?_
        refine aw_getR hC dX12_makes_149 aF_X12_89 rfl (tg_44 hT) (pr_44_31 hR) ?_
        refine aw_iload_n hC dX12_makes_152 rfl ?_
        refine aw_iload_n hC dX12_makes_153 rfl ?_
        refine aw_bastore_k (j := x) hC dX12_makes_154 (tg_71 hT) (nI_clamp (by omega)) (vp_in_nI (by omega) (by decide)) (bI_01 _) ?_
        exact aw_return hC hq rfl dX12_makes_155 a_le a_le (aPure_ev (by rw [hI6, hI5, mkS, if_pos (bI_n0.mp (by assumption))]) rfl rfl)
    · show AW X 0 0 53 [some (.ref 44), some (.int (nI x)), some (.int (bI w)), some (.int (bI t)), some (.int (nI (iN I 62 (x / 16)))), some (.int (nI r)), some (.int (nI k))] [] T (a_ur (a_u (a_u (a_u I 66 r (nI (iN I 62 (x / 16)))) 68 r 0) 44 25 (nI (r + 1))) 67 (mkR I J x r k)) J R
      have h2n : ¬ 3 ≤ k := fun q9 => h2 ((nI_leI (a := 3) (b := k) (by omega) (by omega)).mpr q9)
      refine aw_aload_n hC dX12_makes_53 rfl ?_
      refine aw_getR hC dX12_makes_54 aF_X12_77 rfl (tg_44 hT) (pr_44_27 hR) ?_
      refine aw_iconst (v := 3) hC dX12_makes_57 (by decide) ?_
      refine aw_iload hC dX12_makes_58 rfl ?_
      refine aw_imul hC dX12_makes_60 ?_
      rw [show 3 * (nI r) = nI (3 * r) from pk_mul 3 r]
      refine aw_iload hC dX12_makes_61 rfl ?_
      refine aw_iadd hC dX12_makes_63 ?_
      rw [show (nI (3 * r)) + (nI k) = nI ((3 * r) + k) from nI_add (3 * r) k]
      refine aw_aload_n hC dX12_makes_64 rfl ?_
      refine aw_iload hC dX12_makes_65 rfl ?_
      refine aw_iload hC dX12_makes_67 rfl ?_
      refine aw_iconst (v := 2) hC dX12_makes_69 (by decide) ?_
      refine kX12_330 hC rfl (m_X12_hasN hT hR (t := (iN I 62 (x / 16))) (a := k) (by omega) (by omega) (2 : Int32)) dX12_makes_70 (tg_44 hT) rfl a_le a_le a_le a_le a_le rfl aPure_x (aPure_k ?_)
      show AW X 0 0 73 [some (.ref 44), some (.int (nI x)), some (.int (bI w)), some (.int (bI t)), some (.int (nI (iN I 62 (x / 16)))), some (.int (nI r)), some (.int (nI k))] [.int (bI (decide ((a_ur (a_u (a_u (a_u I 66 r (nI (iN I 62 (x / 16)))) 68 r 0) 44 25 (nI (r + 1))) 67 (mkR I J x r k)) 58 (3 * (iN I 62 (x / 16)) + k) &&& (2 : Int32) ≠ 0))), .int (nI ((3 * r) + k)), .ref 67] T (a_ur (a_u (a_u (a_u I 66 r (nI (iN I 62 (x / 16)))) 68 r 0) 44 25 (nI (r + 1))) 67 (mkR I J x r k)) J R
      rw [a_ur_ne (f := a_u (a_u (a_u I 66 r (nI (iN I 62 (x / 16)))) 68 r 0) 44 25 (nI (r + 1))) (o := 67) (a := 58) (g := mkR I J x r k) (by decide)]
      rw [a_u_ne (f := a_u (a_u I 66 r (nI (iN I 62 (x / 16)))) 68 r 0) (o := 44) (k := 25) (a := 58) (b := (3 * (iN I 62 (x / 16)) + k)) (v := nI (r + 1)) (fun q => absurd q.1 (by decide))]
      rw [a_u_ne (f := a_u I 66 r (nI (iN I 62 (x / 16)))) (o := 68) (k := r) (a := 58) (b := (3 * (iN I 62 (x / 16)) + k)) (v := 0) (fun q => absurd q.1 (by decide))]
      rw [a_u_ne (f := I) (o := 66) (k := r) (a := 58) (b := (3 * (iN I 62 (x / 16)) + k)) (v := nI (iN I 62 (x / 16))) (fun q => absurd q.1 (by decide))]
      refine aw_if_eq (tgt := 101) hC dX12_makes_73 (by decide) (fun h5 => ?_) (fun h5 => ?_)
      · show AW X 0 0 101 [some (.ref 44), some (.int (nI x)), some (.int (bI w)), some (.int (bI t)), some (.int (nI (iN I 62 (x / 16)))), some (.int (nI r)), some (.int (nI k))] [.int (nI ((3 * r) + k)), .ref 67] T (a_ur (a_u (a_u (a_u I 66 r (nI (iN I 62 (x / 16)))) 68 r 0) 44 25 (nI (r + 1))) 67 (mkR I J x r k)) J R
        refine aw_aload_n hC dX12_makes_101 rfl ?_
        refine aw_iload_n hC dX12_makes_102 rfl ?_
        refine aw_iload hC dX12_makes_103 rfl ?_
        refine kX12_346 hC rfl (m_X12_gives (I := a_ur (a_u (a_u (a_u I 66 r (nI (iN I 62 (x / 16)))) 68 r 0) 44 25 (nI (r + 1))) 67 (mkR I J x r k)) (J := J) hT hR (x := x) (a := k) (by omega) (by omega) hgS.so.s2 hgS.ty hgS.up) dX12_makes_105 (tg_44 hT) rfl a_le a_le a_le a_le a_le rfl aPure_x (aPure_k ?_)
        show AW X 0 0 108 [some (.ref 44), some (.int (nI x)), some (.int (bI w)), some (.int (bI t)), some (.int (nI (iN I 62 (x / 16)))), some (.int (nI r)), some (.int (nI k))] [.int (sGives (a_ur (a_u (a_u (a_u I 66 r (nI (iN I 62 (x / 16)))) 68 r 0) 44 25 (nI (r + 1))) 67 (mkR I J x r k)) J x k), .int (nI ((3 * r) + k)), .ref 67] T (a_ur (a_u (a_u (a_u I 66 r (nI (iN I 62 (x / 16)))) 68 r 0) 44 25 (nI (r + 1))) 67 (mkR I J x r k)) J R
        rw [hgv k (by omega)]
        refine aw_iastore_k (j := ((3 * r) + k)) hC dX12_makes_108 (tg_67 hT) (nI_clamp (by omega)) (vp_in_nI (by omega) (by decide)) ?_
        refine aw_iinc (v := nI (k + 1)) (L2 := [some (.ref 44), some (.int (nI x)), some (.int (bI w)), some (.int (bI t)), some (.int (nI (iN I 62 (x / 16)))), some (.int (nI r)), some (.int (nI (k + 1)))]) hC dX12_makes_109 rfl (nI_inc _) (by decide) rfl ?_
        refine aw_goto (tgt := 47) hC dX12_makes_112 (by decide) ?_
        rw [show a_u (a_ur (a_u (a_u (a_u I 66 r (nI (iN I 62 (x / 16)))) 68 r 0) 44 25 (nI (r + 1))) 67 (mkR I J x r k)) 67 ((3 * r) + k) (sGives I J x k) = a_ur (a_u (a_u (a_u I 66 r (nI (iN I 62 (x / 16)))) 68 r 0) 44 25 (nI (r + 1))) 67 (mkR I J x r (k + 1)) from by rw [a_ur_put]; exact a_ur_ext (mkR_put (by rw [mkV, if_neg (bI_d0.mp (by assumption))]))]
        exact ih (by omega)
      · show AW X 0 0 76 [some (.ref 44), some (.int (nI x)), some (.int (bI w)), some (.int (bI t)), some (.int (nI (iN I 62 (x / 16)))), some (.int (nI r)), some (.int (nI k))] [.int (nI ((3 * r) + k)), .ref 67] T (a_ur (a_u (a_u (a_u I 66 r (nI (iN I 62 (x / 16)))) 68 r 0) 44 25 (nI (r + 1))) 67 (mkR I J x r k)) J R
        refine aw_iload_n hC dX12_makes_76 rfl ?_
        refine aw_bipush (v := 7) hC dX12_makes_77 (by decide) ?_
        refine aw_aload_n hC dX12_makes_79 rfl ?_
        refine aw_getR hC dX12_makes_80 aF_X12_98 rfl (tg_44 hT) (pr_44_34 hR) ?_
        refine aw_iload_n hC dX12_makes_83 rfl ?_
        refine aw_iaload_k (j := x) hC dX12_makes_84 (tg_74 hT) (nI_clamp (by omega)) (vp_in_nI (by omega) (by decide)) ?_
        rw [a_ur_ne (f := a_u (a_u (a_u I 66 r (nI (iN I 62 (x / 16)))) 68 r 0) 44 25 (nI (r + 1))) (o := 67) (a := 74) (g := mkR I J x r k) (by decide)]
        rw [a_u_ne (f := a_u (a_u I 66 r (nI (iN I 62 (x / 16)))) 68 r 0) (o := 44) (k := 25) (a := 74) (b := x) (v := nI (r + 1)) (fun q => absurd q.1 (by decide))]
        rw [a_u_ne (f := a_u I 66 r (nI (iN I 62 (x / 16)))) (o := 68) (k := r) (a := 74) (b := x) (v := 0) (fun q => absurd q.1 (by decide))]
        rw [a_u_ne (f := I) (o := 66) (k := r) (a := 74) (b := x) (v := nI (iN I 62 (x / 16))) (fun q => absurd q.1 (by decide))]
        have hb6 := hmd x (by omega)
        rw [hb6.1]
        refine aw_imul hC dX12_makes_85 ?_
        rw [show 7 * (nI (iN I 74 x)) = nI (7 * (iN I 74 x)) from pk_mul 7 (iN I 74 x)]
        refine aw_iadd hC dX12_makes_86 ?_
        rw [show (nI x) + (nI (7 * (iN I 74 x))) = nI (x + (7 * (iN I 74 x))) from nI_add x (7 * (iN I 74 x))]
        refine aw_bipush (v := 64) hC dX12_makes_87 (by decide) ?_
        refine aw_irem hC dX12_makes_89 (by decide) ?_
        rw [show (nI (x + (7 * (iN I 74 x)))) - (nI (x + (7 * (iN I 74 x)))) / 64 * 64 = nI ((x + (7 * (iN I 74 x))) % 64) from pk_rem (a := (x + (7 * (iN I 74 x)))) (d := 64) (by omega) (by decide) (by decide)]
        refine aw_aload_n hC dX12_makes_90 rfl ?_
        refine aw_getR hC dX12_makes_91 aF_X12_59 rfl (tg_44 hT) (pr_44_19 hR) ?_
        refine aw_iload hC dX12_makes_94 rfl ?_
        refine aw_iaload_k (j := (iN I 62 (x / 16))) hC dX12_makes_96 (tg_61 hT) (nI_clamp (by omega)) (vp_in_nI (by omega) (by decide)) ?_
        rw [a_ur_ne (f := a_u (a_u (a_u I 66 r (nI (iN I 62 (x / 16)))) 68 r 0) 44 25 (nI (r + 1))) (o := 67) (a := 61) (g := mkR I J x r k) (by decide)]
        rw [a_u_ne (f := a_u (a_u I 66 r (nI (iN I 62 (x / 16)))) 68 r 0) (o := 44) (k := 25) (a := 61) (b := (iN I 62 (x / 16))) (v := nI (r + 1)) (fun q => absurd q.1 (by decide))]
        rw [a_u_ne (f := a_u I 66 r (nI (iN I 62 (x / 16)))) (o := 68) (k := r) (a := 61) (b := (iN I 62 (x / 16))) (v := 0) (fun q => absurd q.1 (by decide))]
        rw [a_u_ne (f := I) (o := 66) (k := r) (a := 61) (b := (iN I 62 (x / 16))) (v := nI (iN I 62 (x / 16))) (fun q => absurd q.1 (by decide))]
        have hb7 := hg.up (iN I 62 (x / 16)) (by omega)
        rw [hb7.1]
        refine aw_ishl hC dX12_makes_97 ?_
        refine aw_goto (tgt := 108) hC dX12_makes_98 (by decide) ?_
        refine aw_iastore_k (j := ((3 * r) + k)) hC dX12_makes_108 (tg_67 hT) (nI_clamp (by omega)) (vp_in_nI (by omega) (by decide)) ?_
        refine aw_iinc (v := nI (k + 1)) (L2 := [some (.ref 44), some (.int (nI x)), some (.int (bI w)), some (.int (bI t)), some (.int (nI (iN I 62 (x / 16)))), some (.int (nI r)), some (.int (nI (k + 1)))]) hC dX12_makes_109 rfl (nI_inc _) (by decide) rfl ?_
        refine aw_goto (tgt := 47) hC dX12_makes_112 (by decide) ?_
        rw [show a_u (a_ur (a_u (a_u (a_u I 66 r (nI (iN I 62 (x / 16)))) 68 r 0) 44 25 (nI (r + 1))) 67 (mkR I J x r k)) 67 ((3 * r) + k) ((nI ((x + (7 * (iN I 74 x))) % 64)) <<< ((nI (iN I 61 (iN I 62 (x / 16)))) &&& 31)) = a_ur (a_u (a_u (a_u I 66 r (nI (iN I 62 (x / 16)))) 68 r 0) 44 25 (nI (r + 1))) 67 (mkR I J x r (k + 1)) from by rw [a_ur_put]; exact a_ur_ext (mkR_put (by rw [mkV, if_pos (bI_dn.mp (by assumption))]))]
        exact ih (by omega)
  exact loop 0 (Nat.zero_le _)
