abbrev LaysR (I I2 : aI) (n : Nat) : Prop := ∃ I1, Least I I1 n ∧ I2 = a_ur (a_ur (a_ur I1 84 (S84 I1 n)) 85 (S85 (a_ur I1 84 (S84 I1 n)) n)) 86 (S86 (a_ur I1 84 (S84 I1 n)) n n)
theorem LaysR.fr {I I2 : aI} {n : Nat} (h : LaysR I I2 n) : ∀ o, o ≠ 83 ∧ o ≠ 84 ∧ o ≠ 85 ∧ o ≠ 86 → I2 o = I o := by
  obtain ⟨I1, h1, rfl⟩ := h
  intro o ho
  rw [a_ur_ne ho.2.2.2, a_ur_ne ho.2.2.1, a_ur_ne ho.2.1]; exact h1.1 o ho.1
theorem NR_cg {I I2 : aI} {a n b : Nat} (h : I2 a = I a) (g : NR I a n b) : NR I2 a n b := by unfold NR iN; rw [h]; exact g
theorem SW_cg {I I2 : aI} {n : Nat} (h0 : I2 44 0 = I 44 0) (h45 : I2 45 = I 45) (h46 : I2 46 = I 46) (h47 : I2 47 = I 47) (h48 : I2 48 = I 48) (h49 : I2 49 = I 49) (h50 : I2 50 = I 50) (h51 : I2 51 = I 51) (h53 : I2 53 = I 53) (g : SW I n) : SW I2 n := by
  unfold SW NR iN at *; rw [h0, h45, h46, h47, h48, h49, h50, h51, h53]; exact g
theorem LaysR.sw {I I2 : aI} {n : Nat} (h : LaysR I I2 n) (g : SW I n) : SW I2 n := by
  have f := h.fr
  exact SW_cg (by rw [f 44 (by decide)]) (f 45 (by decide)) (f 46 (by decide)) (f 47 (by decide)) (f 48 (by decide)) (f 49 (by decide)) (f 50 (by decide)) (f 51 (by decide)) (f 53 (by decide)) g
theorem mGuard_ok {I : aI} {n s : Nat} (hs : s < n) (hn : n ≤ 30) (hf : NR I 46 n 10) (h : 0 ≤ mGuard I s) : vp_in (mGuard I s) 30 ∧ vp_in (I 46 (mGuard I s).toNatClampNeg) 10 := by
  unfold mGuard at *
  dsimp only at *
  split at h
  · next q =>
    rw [if_pos q]
    rcases mLast_lt (p := fun j => decide (I 84 j ≠ 0) && decide (mTog I s j)) (N := 30) (by decide) (n := s) (by omega) with e | ⟨k, h1, h2, -⟩
    · rw [e] at q; exact absurd q.1 (by decide)
    · rw [h2, nI_clamp (by omega)]
      obtain ⟨f1, f2⟩ := hf k (by omega)
      exact ⟨vp_in_nI (by omega) (by decide), by rw [f1]; exact vp_in_nI f2 (by decide)⟩
  · exact absurd h (by decide)
theorem LaysR.gok {I I2 : aI} {n : Nat} (h : LaysR I I2 n) (g : SW I n) : GOK I2 n := by
  have f := h.fr
  obtain ⟨I1, h1, e⟩ := h
  intro s hs h0
  have e85 : I2 85 s = if a_ur I1 84 (S84 I1 n) 45 s < 7 then mGuard (a_ur I1 84 (S84 I1 n)) s else -1 := by
    rw [e, a_ur_ne (by decide), a_ur_self]; simp only [S85]; rw [if_pos hs]
  have e46 : (a_ur I1 84 (S84 I1 n)) 46 = I 46 := by rw [a_ur_ne (by decide)]; exact h1.1 46 (by decide)
  rw [e85] at h0 ⊢
  rw [f 46 (by decide), ← e46]
  split at h0
  · next q => rw [if_pos q]; exact mGuard_ok hs g.n30 (NR_cg e46 g.fd) h0
  · exact absurd h0 (by decide)
theorem cOn_cg {I I2 : aI} (h : ∀ o, o ≠ 44 → I2 o = I o) (h53 : I2 44 53 = I 44 53) (S : Nat → Int64) (s : Nat) : cOn I2 S s ↔ cOn I S s := by
  unfold cOn hOn; rw [h 84 (by decide), h 45 (by decide), h 86 (by decide), h 85 (by decide), h 46 (by decide), h 47 (by decide), h 87 (by decide), h53]
theorem nBy_cg {I I2 : aI} (h : ∀ o, o ≠ 44 → I2 o = I o) (s : Nat) (S : Nat → Int64) : nBy I2 s S = nBy I s S := by
  unfold nBy iN; rw [h 45 (by decide), h 46 (by decide), h 47 (by decide), h 48 (by decide)]
theorem Stb_cg {I I2 : aI} (h : ∀ o, o ≠ 44 → I2 o = I o) (h53 : I2 44 53 = I 44 53) {n : Nat} {S : Nat → Int64} : Stb I2 n S ↔ Stb I n S := by
  unfold Stb
  exact ⟨fun g s hs c => by rw [← nBy_cg h]; exact g s hs ((cOn_cg h h53 S s).mpr c), fun g s hs c => by rw [nBy_cg h]; exact g s hs ((cOn_cg h h53 S s).mp c)⟩
theorem Fix_cg {I I2 : aI} (h : ∀ o, o ≠ 44 → I2 o = I o) (h53 : I2 44 53 = I 44 53) {n : Nat} {S0 S : Nat → Int64} (g : Fix I n S0 S) : Fix I2 n S0 S :=
  ⟨g.1, (Stb_cg h h53).mpr g.2.1, fun T hT hs => g.2.2 T hT ((Stb_cg h h53).mp hs)⟩
/-- field after field, the defaults -/
def Ch (I : aI) (n : Nat) (P : Nat → Int64) : Nat → (Nat → Int64) → Prop
  | 0, S => S = P
  | f + 1, S => ∃ M, Ch I n P f M ∧ (if 1 < sCount (M f) then DefR I n f M S else S = M)
abbrev full : Nat → Int64 := fun j => if j < 10 then -1 else 0
abbrev Zr (J : aJ) : Prop := ∀ j, 10 ≤ j → J 88 j = 0 ∧ J 89 j = 0
theorem fill_full {J : aJ} (h : Zr J) : (a_fill J 88 10 (fun _ => -1)) 88 = full := funext fun j => by
  by_cases c : j < 10
  · rw [a_fill_in c, full, if_pos c]
  · rw [a_fill_out (by omega), full, if_neg c]; exact (h j (by omega)).1
theorem DefR_z {I : aI} {n f : Nat} {S S2 : Nat → Int64} (hf : f < 10) (h : DefR I n f S S2) (z : ∀ j, 10 ≤ j → S j = 0) : ∀ j, 10 ≤ j → S2 j = 0 := by
  unfold DefR at h
  split at h
  · obtain ⟨S3, h1, h2⟩ := h
    rw [h2]; split
    · exact z
    · exact Fix_z h1 (fun j hj => by rw [if_neg (by omega)]; exact z j hj)
  · rw [h]; exact z
theorem Ch_z {I : aI} {n : Nat} {P : Nat → Int64} (z : ∀ j, 10 ≤ j → P j = 0) : ∀ (f : Nat) (S : Nat → Int64), f ≤ 10 → Ch I n P f S → ∀ j, 10 ≤ j → S j = 0
  | 0, S, _, h => by rw [show S = P from h]; exact z
  | f + 1, S, hf, h => by
    obtain ⟨M, h1, h2⟩ := h
    have q := Ch_z z f M (by omega) h1
    split at h2
    · exact DefR_z (by omega) h2 q
    · rw [h2]; exact q
/-- what solves leaves: the store of ints, the sets without and with defaults -/
def SolR (I I2 : aI) (n : Nat) (P S : Nat → Int64) : Prop :=
  ∃ I3, LaysR I I3 n ∧ I2 = a_u (a_u I3 44 53 0) 44 57 (bI (anyB (fun j => decide (P j = 0)) 10)) ∧ Fix I2 n full P ∧ (if anyB (fun j => decide (P j = 0)) 10 = true then S = P else Ch I2 n P 10 S)
theorem fill_ur {J : aJ} {S : Nat → Int64} : a_ur (a_fill J 88 10 (fun _ => -1)) 88 S = a_ur J 88 S := by
  funext a b; by_cases h : a = 88
  · subst h; rw [a_ur_self, a_ur_self]
  · rw [a_ur_ne h, a_ur_ne h, a_fill_ne h]
set_option maxRecDepth 100000 in
theorem m_X12_solves {T : List aT} {I : aI} {J : aJ} {R : aR} (hT : aPT T) (hR : aPR R) {n : Nat} (hS : SW I n) (hZ : Zr J) : MX12_solves 0 0 [.ref 44] T I J R (aRel (fun _ _ => none) (fun I2 J2 => ∃ K P S, J2 = a_ur (a_ur (a_ur J 90 K) 89 P) 88 S ∧ SolR I I2 n P S) T R) := by
  refine a_met (by decide +kernel) a_le (fun X hC hq => ?_)
  show AW X 0 0 0 [some (.ref 44), none] [] T I J R
  refine aw_aload_n hC dX12_solves_0 rfl ?_
  refine kX12_190 hC rfl (m_X12_lays (n := n) hT hR hS) dX12_solves_1 (tg_44 hT) rfl a_le a_le a_le a_le a_le rfl aRel_x (aRel_k (fun I3 J3 hQ => ?_))
  obtain ⟨e9, hLr⟩ := hQ
  rw [e9]
  have hS3 := LaysR.sw hLr hS
  have hg3 := LaysR.gok hLr hS
  show AW X 0 0 4 [some (.ref 44), none] [] T I3 J R
  refine aw_aload_n hC dX12_solves_4 rfl ?_
  refine aw_iconst (v := 0) hC dX12_solves_5 (by decide) ?_
  refine aw_putZ hC dX12_solves_6 aF_X12_224 rfl rfl (tg_44 hT) (Or.inl rfl) ?_
  refine aw_aload_n hC dX12_solves_9 rfl ?_
  refine kX12_257 hC rfl (m_X12_opens hT hR) dX12_solves_10 (tg_44 hT) rfl a_le a_le a_le a_le a_le rfl aPure_x (aPure_k ?_)
  show AW X 0 0 13 [some (.ref 44), none] [] T (a_u I3 44 53 0) (a_fill J 88 10 (fun _ => -1)) R
  have hS4 : SW (a_u I3 44 53 0) n := SW_cg (a_u_ne (by decide)) (a_u_row (by decide)) (a_u_row (by decide)) (a_u_row (by decide)) (a_u_row (by decide)) (a_u_row (by decide)) (a_u_row (by decide)) (a_u_row (by decide)) (a_u_row (by decide)) hS3
  have hg4 : GOK (a_u I3 44 53 0) n := fun s hs => by rw [a_u_row (show 85 ≠ 44 by decide), a_u_row (show 46 ≠ 44 by decide)]; exact hg3 s hs
  have hA4 : AOK (a_u I3 44 53 0) n := ⟨Or.inl a_u_self, fun q => absurd q (by rw [a_u_self]; decide)⟩
  refine aw_aload_n hC dX12_solves_13 rfl ?_
  refine kX12_260 hC rfl (m_X12_narrows (I := a_u I3 44 53 0) (J := a_fill J 88 10 (fun _ => -1)) hT hR (n := n) hS4 hg4 hA4) dX12_solves_14 (tg_44 hT) rfl a_le a_le a_le a_le a_le rfl aRel_x (aRel_k (fun I2 J2 hQ => ?_))
  obtain ⟨e9, P, hP, e8⟩ := hQ
  rw [e9, e8, fill_ur]
  rw [fill_full hZ] at hP
  show AW X 0 0 17 [some (.ref 44), none] [] T (a_u I3 44 53 0) (a_ur J 88 P) R
  refine aw_iconst (v := 0) hC dX12_solves_17 (by decide) ?_
  refine aw_istore_n (L2 := [some (.ref 44), some (.int 0)]) hC dX12_solves_18 rfl (by decide) rfl ?_
  rw [show a_ur J 88 P = a_ur (a_ur J 88 P) 89 (fun j => if j < 0 then P j else J 89 j) from (a_ur_id (fun j => by rw [if_neg (by omega), a_ur_ne (by decide)])).symm]
  have loop1 : ∀ k, k ≤ 10 → AW X 0 0 19 [some (.ref 44), some (.int (nI k))] [] T (a_u I3 44 53 0) (a_ur (a_ur J 88 P) 89 (fun j => if j < k then P j else J 89 j)) R := by
    refine a_down 10 (fun k hk1 ih1 => ?_)
    refine aw_iload_n hC dX12_solves_19 rfl ?_
    refine aw_bipush (v := 10) hC dX12_solves_20 (by decide) ?_
    refine aw_icmp_ge (tgt := 43) hC dX12_solves_22 (by decide) (fun h1 => ?_) (fun h1 => ?_)
    · show AW X 0 0 43 [some (.ref 44), some (.int (nI k))] [] T (a_u I3 44 53 0) (a_ur (a_ur J 88 P) 89 (fun j => if j < k then P j else J 89 j)) R
      have h1n : 10 ≤ k := (nI_leI (a := 10) (b := k) (by omega) (by omega)).mp h1
      rw [show (fun j => if j < k then P j else J 89 j) = P from funext fun j => by by_cases c : j < k <;> simp only [c, if_true, if_false]; exact ((hZ j (by omega)).2.trans (Fix_z hP (fun i hi => if_neg (by omega)) j (by omega)).symm)]
      refine aw_aload_n hC dX12_solves_43 rfl ?_
      refine aw_aload_n hC dX12_solves_44 rfl ?_
      refine kX12_263 hC rfl (m_X12_isEmpty (I := a_u I3 44 53 0) (J := a_ur (a_ur J 88 P) 89 P) hT hR) dX12_solves_45 (tg_44 hT) rfl a_le a_le a_le a_le a_le rfl aPure_x (aPure_k ?_)
      show AW X 0 0 48 [some (.ref 44), some (.int (nI k))] [.int (bI (anyB (fun j => decide ((a_ur (a_ur J 88 P) 89 P) 88 j = 0)) 10)), .ref 44] T (a_u I3 44 53 0) (a_ur (a_ur J 88 P) 89 P) R
      rw [show (a_ur (a_ur J 88 P) 89 P) 88 = P from by rw [a_ur_ne (by decide), a_ur_self]]
      refine aw_putZ hC dX12_solves_48 aF_X12_267 rfl rfl (tg_44 hT) (bI_01 _) ?_
      refine aw_iconst (v := 0) hC dX12_solves_51 (by decide) ?_
      refine aw_istore_n (L2 := [some (.ref 44), some (.int 0)]) hC dX12_solves_52 rfl (by decide) rfl ?_
      obtain ⟨I5, hI5⟩ : ∃ I5, I5 = a_u (a_u I3 44 53 0) 44 57 (bI (anyB (fun j => decide (P j = 0)) 10)) := ⟨_, rfl⟩
      rw [← hI5]
      have hz5 : ∀ o, o ≠ 44 → I5 o = a_u I3 44 53 0 o := fun o ho => by rw [hI5, a_u_row ho]
      have h53 : I5 44 53 = a_u I3 44 53 0 44 53 := by rw [hI5, a_u_ne (by decide)]
      have hS5 : SW I5 n := SW_cg (by rw [hI5, a_u_ne (by decide)]) (hz5 45 (by decide)) (hz5 46 (by decide)) (hz5 47 (by decide)) (hz5 48 (by decide)) (hz5 49 (by decide)) (hz5 50 (by decide)) (hz5 51 (by decide)) (hz5 53 (by decide)) hS4
      have hg5 : GOK I5 n := fun s hs => by rw [hz5 85 (by decide), hz5 46 (by decide)]; exact hg4 s hs
      have hA5 : AOK I5 n := by unfold AOK; rw [h53, hz5 87 (by decide)]; exact hA4
      have hP5 := Fix_cg hz5 h53 hP
      have hPz := Fix_z hP (fun i hi => if_neg (show ¬ i < 10 by omega))
      have h57 : I5 44 57 = bI (anyB (fun j => decide (P j = 0)) 10) := by rw [hI5, a_u_self]
      have loop2 : ∀ f, f ≤ 10 → ∀ K S : Nat → Int64, (if anyB (fun j => decide (P j = 0)) 10 = true then S = P else Ch I5 n P f S) → AW X 0 0 53 [some (.ref 44), some (.int (nI f))] [] T I5 (a_ur (a_ur (a_ur J 90 K) 89 P) 88 S) R := by
        refine a_down 10 (fun f hf2 ih2 => ?_)
        intro K S hCh
        refine aw_iload_n hC dX12_solves_53 rfl ?_
        refine aw_bipush (v := 10) hC dX12_solves_54 (by decide) ?_
        refine aw_icmp_ge (tgt := 90) hC dX12_solves_56 (by decide) (fun h2 => ?_) (fun h2 => ?_)
        · show AW X 0 0 90 [some (.ref 44), some (.int (nI f))] [] T I5 (a_ur (a_ur (a_ur J 90 K) 89 P) 88 S) R
          have h2n : 10 ≤ f := (nI_leI (a := 10) (b := f) (by omega) (by omega)).mp h2
          exact aw_return hC hq rfl dX12_solves_90 a_le a_le ⟨rfl, rfl, rfl, K, P, S, rfl, I3, hLr, hI5, hP5, by first | exact hCh | (have e7 : f = 10 := (by omega); subst e7; exact hCh) | (rw [if_pos (bI_n0.mp (by rw [← h57]; assumption))] at hCh ⊢; exact hCh)⟩
        · show AW X 0 0 59 [some (.ref 44), some (.int (nI f))] [] T I5 (a_ur (a_ur (a_ur J 90 K) 89 P) 88 S) R
          have h2n : ¬ 10 ≤ f := fun q9 => h2 ((nI_leI (a := 10) (b := f) (by omega) (by omega)).mpr q9)
          refine aw_aload_n hC dX12_solves_59 rfl ?_
          refine aw_getI hC dX12_solves_60 aF_X12_267 rfl (tg_44 hT) ?_
          refine aw_if_ne (tgt := 90) hC dX12_solves_63 (by decide) (fun h3 => ?_) (fun h3 => ?_)
          · show AW X 0 0 90 [some (.ref 44), some (.int (nI f))] [] T I5 (a_ur (a_ur (a_ur J 90 K) 89 P) 88 S) R
            exact aw_return hC hq rfl dX12_solves_90 a_le a_le ⟨rfl, rfl, rfl, K, P, S, rfl, I3, hLr, hI5, hP5, by first | exact hCh | (have e7 : f = 10 := (by omega); subst e7; exact hCh) | (rw [if_pos (bI_n0.mp (by rw [← h57]; assumption))] at hCh ⊢; exact hCh)⟩
          · show AW X 0 0 66 [some (.ref 44), some (.int (nI f))] [] T I5 (a_ur (a_ur (a_ur J 90 K) 89 P) 88 S) R
            have hne : anyB (fun j => decide (P j = 0)) 10 = false := bI_e0.mp (by rw [← h57]; assumption)
            have hCh2 : Ch I5 n P f S := by rw [if_neg (by rw [hne]; simp)] at hCh; exact hCh
            have hcb := sCount_le (S f)
            refine aw_aload_n hC dX12_solves_66 rfl ?_
            refine aw_getR hC dX12_solves_67 aF_X12_147 rfl (tg_44 hT) (pr_44_54 hR) ?_
            refine aw_iload_n hC dX12_solves_70 rfl ?_
            refine aw_laload_k (j := f) hC dX12_solves_71 (tg_88 hT) (nI_clamp (by omega)) (vp_in_nI (by omega) (by decide)) ?_
            rw [show (a_ur (a_ur (a_ur J 90 K) 89 P) 88 S) 88 f = S f from by rw [a_ur_self]]
            refine kX12_270 hC rfl (m_X12_count (S f)) dX12_solves_72 rfl a_le a_le a_le a_le a_le rfl aPure_x (aPure_k ?_)
            show AW X 0 0 75 [some (.ref 44), some (.int (nI f))] [.int (nI (sCount (S f)))] T I5 (a_ur (a_ur (a_ur J 90 K) 89 P) 88 S) R
            refine aw_iconst (v := 1) hC dX12_solves_75 (by decide) ?_
            refine aw_icmp_le (tgt := 84) hC dX12_solves_76 (by decide) (fun h4 => ?_) (fun h4 => ?_)
            · show AW X 0 0 84 [some (.ref 44), some (.int (nI f))] [] T I5 (a_ur (a_ur (a_ur J 90 K) 89 P) 88 S) R
              have h4n : (sCount (S f)) ≤ 1 := (nI_leI (a := (sCount (S f))) (b := 1) (by omega) (by omega)).mp h4
              refine aw_iinc (v := nI (f + 1)) (L2 := [some (.ref 44), some (.int (nI (f + 1)))]) hC dX12_solves_84 rfl (nI_inc _) (by decide) rfl ?_
              refine aw_goto (tgt := 53) hC dX12_solves_87 (by decide) ?_
              exact ih2 (by omega) K S (by rw [if_neg (by rw [hne]; simp)]; exact ⟨S, hCh2, by rw [if_neg (by omega)]⟩)
            · show AW X 0 0 79 [some (.ref 44), some (.int (nI f))] [] T I5 (a_ur (a_ur (a_ur J 90 K) 89 P) 88 S) R
              have h4n : ¬ (sCount (S f)) ≤ 1 := fun q9 => h4 ((nI_leI (a := (sCount (S f))) (b := 1) (by omega) (by omega)).mpr q9)
              refine aw_aload_n hC dX12_solves_79 rfl ?_
              refine aw_iload_n hC dX12_solves_80 rfl ?_
              refine kX12_273 hC rfl (m_X12_defaults (I := I5) (J := a_ur (a_ur (a_ur J 90 K) 89 P) 88 S) hT hR (n := n) (f := f) (by omega) hS5 hg5 hA5 (by rw [a_ur_self]; exact Ch_z hPz f S (by omega) hCh2)) dX12_solves_81 (tg_44 hT) rfl a_le a_le a_le a_le a_le rfl aRel_x (aRel_k (fun I2 J2 hQ => ?_))
              obtain ⟨e9, K3, S3, e8, hD⟩ := hQ
              rw [e9, e8]
              rw [show (a_ur (a_ur (a_ur J 90 K) 89 P) 88 S) 88 = S from a_ur_self] at hD
              rw [show a_ur (a_ur (a_ur (a_ur (a_ur J 90 K) 89 P) 88 S) 90 K3) 88 S3 = a_ur (a_ur (a_ur J 90 K3) 89 P) 88 S3 from by rw [a_ur_swap (o := 88) (by decide), a_ur_2, a_ur_swap (o := 90) (by decide), a_ur_swap (o := 90) (by decide), a_ur_2]]
              show AW X 0 0 84 [some (.ref 44), some (.int (nI f))] [] T I5 (a_ur (a_ur (a_ur J 90 K3) 89 P) 88 S3) R
              refine aw_iinc (v := nI (f + 1)) (L2 := [some (.ref 44), some (.int (nI (f + 1)))]) hC dX12_solves_84 rfl (nI_inc _) (by decide) rfl ?_
              refine aw_goto (tgt := 53) hC dX12_solves_87 (by decide) ?_
              exact ih2 (by omega) _ S3 (by rw [if_neg (by rw [hne]; simp)]; exact ⟨S, hCh2, by rw [if_pos (by omega)]; exact hD⟩)
      rw [show a_ur (a_ur J 88 P) 89 P = a_ur (a_ur (a_ur J 90 (J 90)) 89 P) 88 P from by rw [a_ur_id (f := J) (o := 90) (fun _ => rfl), a_ur_swap (by decide)]]
      exact loop2 0 (Nat.zero_le _) (J 90) P (by split <;> rfl)
    · show AW X 0 0 25 [some (.ref 44), some (.int (nI k))] [] T (a_u I3 44 53 0) (a_ur (a_ur J 88 P) 89 (fun j => if j < k then P j else J 89 j)) R
      have h1n : ¬ 10 ≤ k := fun q9 => h1 ((nI_leI (a := 10) (b := k) (by omega) (by omega)).mpr q9)
      refine aw_aload_n hC dX12_solves_25 rfl ?_
      refine aw_getR hC dX12_solves_26 aF_X12_151 rfl (tg_44 hT) (pr_44_55 hR) ?_
      refine aw_iload_n hC dX12_solves_29 rfl ?_
      refine aw_aload_n hC dX12_solves_30 rfl ?_
      refine aw_getR hC dX12_solves_31 aF_X12_147 rfl (tg_44 hT) (pr_44_54 hR) ?_
      refine aw_iload_n hC dX12_solves_34 rfl ?_
      refine aw_laload_k (j := k) hC dX12_solves_35 (tg_88 hT) (nI_clamp (by omega)) (vp_in_nI (by omega) (by decide)) ?_
      rw [a_ur_ne (f := a_ur J 88 P) (o := 89) (a := 88) (g := fun j => if j < k then P j else J 89 j) (by decide)]
      rw [a_ur_self (f := J) (o := 88) (g := P)]
      refine aw_lastore_k (j := k) hC dX12_solves_36 (tg_89 hT) (nI_clamp (by omega)) (vp_in_nI (by omega) (by decide)) ?_
      rw [show a_u (a_ur (a_ur J 88 P) 89 (fun j => if j < k then P j else J 89 j)) 89 k (P k) = a_ur (a_ur J 88 P) 89 (fun j => if j = k then P k else (fun j => if j < k then P j else J 89 j) j) from by rw [a_ur_put]]
      refine aw_iinc (v := nI (k + 1)) (L2 := [some (.ref 44), some (.int (nI (k + 1)))]) hC dX12_solves_37 rfl (nI_inc _) (by decide) rfl ?_
      refine aw_goto (tgt := 19) hC dX12_solves_40 (by decide) ?_
      rw [show a_ur (a_ur J 88 P) 89 (fun j => if j = k then P k else (fun j => if j < k then P j else J 89 j) j) = a_ur (a_ur J 88 P) 89 (fun j => if j < (k + 1) then P j else J 89 j) from a_ur_ext (fun j => by clear hC hq ih1; (try dsimp only); grind)]
      exact ih1 (by omega)
  exact loop1 0 (Nat.zero_le _)
