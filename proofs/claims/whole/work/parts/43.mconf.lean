/-- the greatest sets that some statements, whatever guards them, leave -/
def FixA (I : aI) (n : Nat) (q : Nat → Bool) (S0 S : Nat → Int64) : Prop := SLe S S0 ∧ (∀ s, s < n → q s = true → nBy I s S = S) ∧ ∀ T, SLe T S0 → (∀ s, s < n → q s = true → nBy I s T = T) → SLe T S
theorem FixA_uniq {I : aI} {n : Nat} {q : Nat → Bool} {S0 S S2 : Nat → Int64} (h : FixA I n q S0 S) (g : FixA I n q S0 S2) : S = S2 := SLe_as (g.2.2 S h.1 h.2.1) (h.2.2 S2 g.1 g.2.1)
noncomputable def cfl (I : aI) (n : Nat) (q : Nat → Bool) : Bool := @decide (∃ S, FixA I n q full S ∧ anyB (fun j => decide (S j = 0)) 10 = true) (Classical.propDecidable _)
theorem cfl_iff {I : aI} {n : Nat} {q : Nat → Bool} : cfl I n q = true ↔ ∃ S, FixA I n q full S ∧ anyB (fun j => decide (S j = 0)) 10 = true := @decide_eq_true_iff _ (Classical.propDecidable _)
theorem cfl_eq {I : aI} {n : Nat} {q : Nat → Bool} {S : Nat → Int64} (h : FixA I n q full S) : anyB (fun j => decide (S j = 0)) 10 = cfl I n q := by
  exact Bool.eq_iff_iff.mpr (Iff.trans ⟨fun g => ⟨S, h, g⟩, fun ⟨S2, h2, g⟩ => by rw [FixA_uniq h h2]; exact g⟩ cfl_iff.symm)
theorem nBy_rows {I I2 : aI} (h45 : I2 45 = I 45) (h46 : I2 46 = I 46) (h47 : I2 47 = I 47) (h48 : I2 48 = I 48) (s : Nat) (S : Nat → Int64) : nBy I2 s S = nBy I s S := by
  unfold nBy iN; rw [h45, h46, h47, h48]
theorem FixA_cg {I I2 : aI} {n : Nat} {q : Nat → Bool} {S0 S : Nat → Int64} (h45 : I2 45 = I 45) (h46 : I2 46 = I 46) (h47 : I2 47 = I 47) (h48 : I2 48 = I 48) : FixA I2 n q S0 S ↔ FixA I n q S0 S := by
  unfold FixA; simp only [nBy_rows h45 h46 h47 h48]
theorem cfl_cg {I I2 : aI} {n : Nat} {q : Nat → Bool} (h45 : I2 45 = I 45) (h46 : I2 46 = I 46) (h47 : I2 47 = I 47) (h48 : I2 48 = I 48) : cfl I2 n q = cfl I n q := by
  exact Bool.eq_iff_iff.mpr (by rw [cfl_iff, cfl_iff]; simp only [FixA_cg h45 h46 h47 h48])
theorem Fix_A {I : aI} {n : Nat} {q : Nat → Bool} {S0 S : Nat → Int64} (h53 : I 44 53 = 1) (h87 : ∀ s, s < n → (I 87 s ≠ 0 ↔ q s = true)) (h : Fix I n S0 S) : FixA I n q S0 S := by
  have e : ∀ s (T : Nat → Int64), s < n → (cOn I T s ↔ q s = true) := fun s T hs => by
    have h0 : I 44 53 ≠ 0 := by rw [h53]; decide
    exact ⟨fun c => c.elim (fun c => absurd c.1 h0) (fun c => (h87 s hs).mp c.2), fun c => Or.inr ⟨h0, (h87 s hs).mpr c⟩⟩
  exact ⟨h.1, fun s hs hq => h.2.1 s hs ((e s S hs).mpr hq), fun T hT g => h.2.2 T hT (fun s hs c => g s hs ((e s T hs).mp c))⟩
abbrev al (a b c : Int32) : Nat → Bool := fun j => decide (nI j = a) || decide (nI j = b) || decide (nI j = c)
/-- what the search for a conflict leaves as it was -/
def CI (I0 : aI) (J0 : aJ) (I : aI) (J : aJ) : Prop := (∀ o, o ≠ 44 ∧ o ≠ 87 → I o = I0 o) ∧ (∀ k, k ≠ 53 → I 44 k = I0 44 k) ∧ (∀ o, o ≠ 88 → J o = J0 o) ∧ (∀ j, 10 ≤ j → J 88 j = 0)
theorem CI.sw {I0 I : aI} {J0 J : aJ} {n : Nat} (h : CI I0 J0 I J) (g : SW I0 n) : SW I n :=
  SW_cg (h.2.1 0 (by decide)) (h.1 45 (by decide)) (h.1 46 (by decide)) (h.1 47 (by decide)) (h.1 48 (by decide)) (h.1 49 (by decide)) (h.1 50 (by decide)) (h.1 51 (by decide)) (h.1 53 (by decide)) g
theorem CI.gok {I0 I : aI} {J0 J : aJ} {n : Nat} (h : CI I0 J0 I J) (g : GOK I0 n) : GOK I n := fun s hs => by rw [h.1 85 (by decide), h.1 46 (by decide)]; exact g s hs
theorem CI.zr {I0 I : aI} {J0 J : aJ} (h : CI I0 J0 I J) (g : Zr J0) : Zr J := fun j hj => ⟨h.2.2.2 j hj, by rw [h.2.2.1 89 (by decide)]; exact (g j hj).2⟩
theorem CI.refl {I : aI} {J : aJ} (h : Zr J) : CI I J I J := ⟨fun _ _ => rfl, fun _ _ => rfl, fun _ _ => rfl, fun j hj => (h j hj).1⟩
theorem CI.trans {I0 I1 I2 : aI} {J0 J1 J2 : aJ} (h : CI I0 J0 I1 J1) (g : CI I1 J1 I2 J2) : CI I0 J0 I2 J2 := ⟨fun o ho => (g.1 o ho).trans (h.1 o ho), fun k hk => (g.2.1 k hk).trans (h.2.1 k hk), fun o ho => (g.2.2.1 o ho).trans (h.2.2.1 o ho), g.2.2.2⟩
abbrev alR (I : aI) (a b c : Int32) (k : Nat) : Nat → Int32 := fun j => if j < k then bI (al a b c j) else I 87 j
theorem al_put {I : aI} {a b c : Int32} {k : Nat} {v : Int32} (hv : v = bI (al a b c k)) (j : Nat) : (if j = k then v else alR I a b c k j) = alR I a b c (k + 1) j := by
  simp only [alR]
  by_cases e : j = k
  · subst e; rw [if_pos rfl, if_pos (by omega), hv]
  · rw [if_neg e]
    by_cases c9 : j < k
    · rw [if_pos c9, if_pos (by omega)]
    · rw [if_neg c9, if_neg (by omega)]
set_option maxRecDepth 100000 in
theorem m_X12_isConflict {T : List aT} {I : aI} {J : aJ} {R : aR} (hT : aPT T) (hR : aPR R) {n : Nat} (hS : SW I n) (hZ : Zr J) (hg : GOK I n) (a b c : Int32) : MX12_isConflict 0 0 [.ref 44, .int a, .int b, .int c] T I J R (aRelV (fun v I3 J3 => v = some (.int (bI (cfl I n (al a b c)))) ∧ CI I J I3 J3 ∧ I3 44 53 = 0) T R) := by
  refine a_met (by decide +kernel) a_le (fun X hC hq => ?_)
  show AW X 0 0 0 [some (.ref 44), some (.int a), some (.int b), some (.int c), none] [] T I J R
  refine aw_iconst (v := 0) hC dX12_isConflict_0 (by decide) ?_
  refine aw_istore (L2 := [some (.ref 44), some (.int a), some (.int b), some (.int c), some (.int 0)]) hC dX12_isConflict_1 (by decide) rfl ?_
  rw [show I = a_ur I 87 (alR I a b c 0) from (a_ur_id (fun j => by simp only [alR]; rw [if_neg (by omega)])).symm]
  have loop : ∀ k, k ≤ 30 → AW X 0 0 3 [some (.ref 44), some (.int a), some (.int b), some (.int c), some (.int (nI k))] [] T (a_ur I 87 (alR I a b c k)) J R := by
    refine a_down 30 (fun k hkl ih => ?_)
    refine aw_iload hC dX12_isConflict_3 rfl ?_
    refine aw_bipush (v := 30) hC dX12_isConflict_5 (by decide) ?_
    refine aw_icmp_ge (tgt := 46) hC dX12_isConflict_7 (by decide) (fun h1 => ?_) (fun h1 => ?_)
    · show AW X 0 0 46 [some (.ref 44), some (.int a), some (.int b), some (.int c), some (.int (nI k))] [] T (a_ur I 87 (alR I a b c k)) J R
      have h1n : 30 ≤ k := (nI_leI (a := 30) (b := k) (by omega) (by omega)).mp h1
      obtain ⟨I5, hI5⟩ : ∃ I5, I5 = a_ur I 87 (alR I a b c 30) := ⟨_, rfl⟩
      rw [show k = 30 from by omega, ← hI5]
      refine aw_aload_n hC dX12_isConflict_46 rfl ?_
      refine aw_iconst (v := 1) hC dX12_isConflict_47 (by decide) ?_
      refine aw_putZ hC dX12_isConflict_48 aF_X12_224 rfl rfl (tg_44 hT) (Or.inr rfl) ?_
      have h5 : ∀ o, o ≠ 87 → I5 o = I o := fun o ho => by rw [hI5, a_ur_ne ho]
      have hC6 : CI I J (a_u I5 44 53 1) J := ⟨fun o ho => by rw [a_u_row ho.1]; exact h5 o ho.2, fun k hk => by rw [a_u_ne (fun q => hk q.2), h5 44 (by decide)], fun _ _ => rfl, fun j hj => (hZ j hj).1⟩
      have hS6 := hC6.sw hS
      have hg6 := hC6.gok hg
      have hA6 : AOK (a_u I5 44 53 1) n := ⟨Or.inr a_u_self, fun _ s hs => by rw [a_u_row (by decide), hI5, a_ur_self]; simp only [alR]; rw [if_pos (by have := hS.n30; omega)]; exact bI_01 _⟩
      refine aw_aload_n hC dX12_isConflict_51 rfl ?_
      refine kX12_257 hC rfl (m_X12_opens hT hR) dX12_isConflict_52 (tg_44 hT) rfl a_le a_le a_le a_le a_le rfl aPure_x (aPure_k ?_)
      show AW X 0 0 55 [some (.ref 44), some (.int a), some (.int b), some (.int c), some (.int (nI 30))] [] T (a_u I5 44 53 1) (a_fill J 88 10 (fun _ => -1)) R
      refine aw_aload_n hC dX12_isConflict_55 rfl ?_
      refine kX12_260 hC rfl (m_X12_narrows (I := a_u I5 44 53 1) (J := a_fill J 88 10 (fun _ => -1)) hT hR (n := n) hS6 hg6 hA6) dX12_isConflict_56 (tg_44 hT) rfl a_le a_le a_le a_le a_le rfl aRel_x (aRel_k (fun I2 J2 hQ => ?_))
      obtain ⟨e9, S, hF, e8⟩ := hQ
      rw [e9, e8, fill_ur]
      rw [fill_full hZ] at hF
      have hFA := Fix_A (q := al a b c) a_u_self (fun s hs => by rw [a_u_row (by decide), hI5, a_ur_self]; simp only [alR]; rw [if_pos (by have := hS.n30; omega)]; exact bI_n0) hF
      show AW X 0 0 59 [some (.ref 44), some (.int a), some (.int b), some (.int c), some (.int (nI 30))] [] T (a_u I5 44 53 1) (a_ur J 88 S) R
      refine aw_aload_n hC dX12_isConflict_59 rfl ?_
      refine aw_iconst (v := 0) hC dX12_isConflict_60 (by decide) ?_
      refine aw_putZ hC dX12_isConflict_61 aF_X12_224 rfl rfl (tg_44 hT) (Or.inl rfl) ?_
      refine aw_aload_n hC dX12_isConflict_64 rfl ?_
      refine kX12_263 hC rfl (m_X12_isEmpty (I := a_u (a_u I5 44 53 1) 44 53 0) (J := a_ur J 88 S) hT hR) dX12_isConflict_65 (tg_44 hT) rfl a_le a_le a_le a_le a_le rfl aPure_x (aPure_k ?_)
      show AW X 0 0 68 [some (.ref 44), some (.int a), some (.int b), some (.int c), some (.int (nI 30))] [.int (bI (anyB (fun j => decide ((a_ur J 88 S) 88 j = 0)) 10))] T (a_u (a_u I5 44 53 1) 44 53 0) (a_ur J 88 S) R
      rw [show (a_ur J 88 S) 88 = S from a_ur_self, cfl_eq hFA]
      exact aw_zreturn hC hq rfl (bI_01 _) dX12_isConflict_68 a_le a_le ⟨_, rfl, rfl, rfl, by rw [cfl_cg (hC6.1 45 (by decide)) (hC6.1 46 (by decide)) (hC6.1 47 (by decide)) (hC6.1 48 (by decide))], ⟨fun o ho => by rw [a_u_row ho.1]; exact hC6.1 o ho, fun k hk => by rw [a_u_ne (fun q => hk q.2)]; exact hC6.2.1 k hk, fun o ho => by rw [a_ur_ne ho], fun j hj => by rw [a_ur_self]; exact sLe_z (by have q := hFA.1 j; rwa [show full j = 0 from if_neg (by omega)] at q)⟩, a_u_self⟩
    · show AW X 0 0 10 [some (.ref 44), some (.int a), some (.int b), some (.int c), some (.int (nI k))] [] T (a_ur I 87 (alR I a b c k)) J R
      have h1n : ¬ 30 ≤ k := fun q9 => h1 ((nI_leI (a := 30) (b := k) (by omega) (by omega)).mpr q9)
      refine aw_aload_n hC dX12_isConflict_10 rfl ?_
      refine aw_getR hC dX12_isConflict_11 aF_X12_144 rfl (tg_44 hT) (pr_44_52 hR) ?_
      refine aw_iload hC dX12_isConflict_14 rfl ?_
      refine aw_iload hC dX12_isConflict_16 rfl ?_
      refine aw_iload_n hC dX12_isConflict_18 rfl ?_
      refine aw_icmp_eq (tgt := 34) hC dX12_isConflict_19 (by decide) (fun h2 => ?_) (fun h2 => ?_)
      · show AW X 0 0 34 [some (.ref 44), some (.int a), some (.int b), some (.int c), some (.int (nI k))] [.int (nI k), .ref 87] T (a_ur I 87 (alR I a b c k)) J R
        refine aw_iconst (v := 1) hC dX12_isConflict_34 (by decide) ?_
        refine aw_goto (tgt := 39) hC dX12_isConflict_35 (by decide) ?_
        refine aw_bastore_k (j := k) hC dX12_isConflict_39 (tg_87 hT) (nI_clamp (by omega)) (vp_in_nI (by omega) (by decide)) (Or.inr rfl) ?_
        refine aw_iinc (v := nI (k + 1)) (L2 := [some (.ref 44), some (.int a), some (.int b), some (.int c), some (.int (nI (k + 1)))]) hC dX12_isConflict_40 rfl (nI_inc _) (by decide) rfl ?_
        refine aw_goto (tgt := 3) hC dX12_isConflict_43 (by decide) ?_
        rw [show a_u (a_ur I 87 (alR I a b c k)) 87 k 1 = a_ur I 87 (alR I a b c (k + 1)) from by rw [a_ur_put]; exact a_ur_ext (al_put (by show _ = bI (decide (nI k = a) || decide (nI k = b) || decide (nI k = c)); simp_all [bI]))]
        exact ih (by omega)
      · show AW X 0 0 22 [some (.ref 44), some (.int a), some (.int b), some (.int c), some (.int (nI k))] [.int (nI k), .ref 87] T (a_ur I 87 (alR I a b c k)) J R
        refine aw_iload hC dX12_isConflict_22 rfl ?_
        refine aw_iload_n hC dX12_isConflict_24 rfl ?_
        refine aw_icmp_eq (tgt := 34) hC dX12_isConflict_25 (by decide) (fun h3 => ?_) (fun h3 => ?_)
        · show AW X 0 0 34 [some (.ref 44), some (.int a), some (.int b), some (.int c), some (.int (nI k))] [.int (nI k), .ref 87] T (a_ur I 87 (alR I a b c k)) J R
          refine aw_iconst (v := 1) hC dX12_isConflict_34 (by decide) ?_
          refine aw_goto (tgt := 39) hC dX12_isConflict_35 (by decide) ?_
          refine aw_bastore_k (j := k) hC dX12_isConflict_39 (tg_87 hT) (nI_clamp (by omega)) (vp_in_nI (by omega) (by decide)) (Or.inr rfl) ?_
          refine aw_iinc (v := nI (k + 1)) (L2 := [some (.ref 44), some (.int a), some (.int b), some (.int c), some (.int (nI (k + 1)))]) hC dX12_isConflict_40 rfl (nI_inc _) (by decide) rfl ?_
          refine aw_goto (tgt := 3) hC dX12_isConflict_43 (by decide) ?_
          rw [show a_u (a_ur I 87 (alR I a b c k)) 87 k 1 = a_ur I 87 (alR I a b c (k + 1)) from by rw [a_ur_put]; exact a_ur_ext (al_put (by show _ = bI (decide (nI k = a) || decide (nI k = b) || decide (nI k = c)); simp_all [bI]))]
          exact ih (by omega)
        · show AW X 0 0 28 [some (.ref 44), some (.int a), some (.int b), some (.int c), some (.int (nI k))] [.int (nI k), .ref 87] T (a_ur I 87 (alR I a b c k)) J R
          refine aw_iload hC dX12_isConflict_28 rfl ?_
          refine aw_iload_n hC dX12_isConflict_30 rfl ?_
          refine aw_icmp_ne (tgt := 38) hC dX12_isConflict_31 (by decide) (fun h4 => ?_) (fun h4 => ?_)
          · show AW X 0 0 38 [some (.ref 44), some (.int a), some (.int b), some (.int c), some (.int (nI k))] [.int (nI k), .ref 87] T (a_ur I 87 (alR I a b c k)) J R
            refine aw_iconst (v := 0) hC dX12_isConflict_38 (by decide) ?_
            refine aw_bastore_k (j := k) hC dX12_isConflict_39 (tg_87 hT) (nI_clamp (by omega)) (vp_in_nI (by omega) (by decide)) (Or.inl rfl) ?_
            refine aw_iinc (v := nI (k + 1)) (L2 := [some (.ref 44), some (.int a), some (.int b), some (.int c), some (.int (nI (k + 1)))]) hC dX12_isConflict_40 rfl (nI_inc _) (by decide) rfl ?_
            refine aw_goto (tgt := 3) hC dX12_isConflict_43 (by decide) ?_
            rw [show a_u (a_ur I 87 (alR I a b c k)) 87 k 0 = a_ur I 87 (alR I a b c (k + 1)) from by rw [a_ur_put]; exact a_ur_ext (al_put (by show _ = bI (decide (nI k = a) || decide (nI k = b) || decide (nI k = c)); simp_all [bI]))]
            exact ih (by omega)
          · show AW X 0 0 34 [some (.ref 44), some (.int a), some (.int b), some (.int c), some (.int (nI k))] [.int (nI k), .ref 87] T (a_ur I 87 (alR I a b c k)) J R
            refine aw_iconst (v := 1) hC dX12_isConflict_34 (by decide) ?_
            refine aw_goto (tgt := 39) hC dX12_isConflict_35 (by decide) ?_
            refine aw_bastore_k (j := k) hC dX12_isConflict_39 (tg_87 hT) (nI_clamp (by omega)) (vp_in_nI (by omega) (by decide)) (Or.inr rfl) ?_
            refine aw_iinc (v := nI (k + 1)) (L2 := [some (.ref 44), some (.int a), some (.int b), some (.int c), some (.int (nI (k + 1)))]) hC dX12_isConflict_40 rfl (nI_inc _) (by decide) rfl ?_
            refine aw_goto (tgt := 3) hC dX12_isConflict_43 (by decide) ?_
            rw [show a_u (a_ur I 87 (alR I a b c k)) 87 k 1 = a_ur I 87 (alR I a b c (k + 1)) from by rw [a_ur_put]; exact a_ur_ext (al_put (by show _ = bI (decide (nI k = a) || decide (nI k = b) || decide (nI k = c)); simp_all [bI]))]
            exact ih (by omega)
  exact loop 0 (Nat.zero_le _)
set_option maxRecDepth 100000 in
theorem m_X12_may {T : List aT} {I : aI} {J : aJ} {R : aR} (hT : aPT T) (hR : aPR R) {s : Nat} (hs : s < 30) : MX12_may 0 0 [.ref 44, .int (nI s)] T I J R (aPure (some (.int (bI (decide (I 93 s ≠ 0))))) T I J R) := by
  refine a_met (by decide +kernel) a_le (fun X hC hq => ?_)
  show AW X 0 0 0 [some (.ref 44), some (.int (nI s))] [] T I J R
  refine aw_iload_n hC dX12_may_0 rfl ?_
  refine aw_if_lt (tgt := 13) hC dX12_may_1 (by decide) (fun h1 => ?_) (fun h1 => ?_)
  · show AW X 0 0 13 [some (.ref 44), some (.int (nI s))] [] T I J R
    have h1n : s < 0 := (nI_ltI (a := s) (b := 0) (by omega) (by omega)).mp h1
    first | (exfalso; omega) | (refine aw_iconst (v := 1) hC dX12_may_13 (by decide) ?_; refine aw_goto (tgt := 18) hC dX12_may_14 (by decide) ?_; exact aw_zreturn hC hq rfl (Or.inr rfl) dX12_may_18 a_le a_le (aPure_i (bI_yes (by assumption))))
  · show AW X 0 0 4 [some (.ref 44), some (.int (nI s))] [] T I J R
    have h1n : ¬ s < 0 := fun q9 => h1 ((nI_ltI (a := s) (b := 0) (by omega) (by omega)).mpr q9)
    refine aw_aload_n hC dX12_may_4 rfl ?_
    refine aw_getR hC dX12_may_5 aF_X12_163 rfl (tg_44 hT) (pr_44_62 hR) ?_
    refine aw_iload_n hC dX12_may_8 rfl ?_
    refine aw_baload_k (j := s) hC dX12_may_9 (tg_93 hT) (nI_clamp (by omega)) (vp_in_nI (by omega) (by decide)) ?_
    refine aw_if_eq (tgt := 17) hC dX12_may_10 (by decide) (fun h2 => ?_) (fun h2 => ?_)
    · show AW X 0 0 17 [some (.ref 44), some (.int (nI s))] [] T I J R
      refine aw_iconst (v := 0) hC dX12_may_17 (by decide) ?_
      exact aw_zreturn hC hq rfl (Or.inl rfl) dX12_may_18 a_le a_le (aPure_i (bI_no (by simpa using (by assumption : I 93 s = 0))))
    · show AW X 0 0 13 [some (.ref 44), some (.int (nI s))] [] T I J R
      first | (exfalso; omega) | (refine aw_iconst (v := 1) hC dX12_may_13 (by decide) ?_; refine aw_goto (tgt := 18) hC dX12_may_14 (by decide) ?_; exact aw_zreturn hC hq rfl (Or.inr rfl) dX12_may_18 a_le a_le (aPure_i (bI_yes (by assumption))))
set_option maxRecDepth 100000 in
theorem m_X12_mayN {T : List aT} {I : aI} {J : aJ} {R : aR} (hT : aPT T) (hR : aPR R) : MX12_may 0 0 [.ref 44, .int (-1)] T I J R (aPure (some (.int 1)) T I J R) := by
  refine a_met (by decide +kernel) a_le (fun X hC hq => ?_)
  show AW X 0 0 0 [some (.ref 44), some (.int (-1))] [] T I J R
  refine aw_iload_n hC dX12_may_0 rfl ?_
  refine aw_if_lt (tgt := 13) hC dX12_may_1 (by decide) (fun _ => ?_) (fun h1 => absurd h1 (by decide))
  show AW X 0 0 13 [some (.ref 44), some (.int (-1))] [] T I J R
  refine aw_iconst (v := 1) hC dX12_may_13 (by decide) ?_
  refine aw_goto (tgt := 18) hC dX12_may_14 (by decide) ?_
  exact aw_zreturn hC hq rfl (Or.inr rfl) dX12_may_18 a_le a_le (aPure_i rfl)
/-- the first one that is not 0 -/
def fs (f : Nat → Int32) : Nat → Int32
  | 0 => 0
  | k + 1 => if fs f k ≠ 0 then fs f k else f k
theorem fs_z {f : Nat → Int32} {k : Nat} (h : fs f k = 0) (h2 : f k = 0) : fs f (k + 1) = 0 := by rw [fs, if_neg (not_not_intro h)]; exact h2
theorem fs_f {f : Nat → Int32} {k : Nat} {v : Int32} (h : fs f k = 0) (h2 : f k = v) (hv : v ≠ 0) : ∀ m, k < m → fs f m = v
  | 0, hm => absurd hm (by omega)
  | m + 1, hm => by
    by_cases e : k = m
    · subst e; rw [fs, if_neg (not_not_intro h)]; exact h2
    · have := fs_f h h2 hv m (by omega); rw [fs, this, if_pos hv]
theorem bit_nz {c : Nat} (h : c < 32) (x : Int32) : iBit (nI c) ||| x ≠ 0 := fun q => by
  have := congrArg (fun z => bt z c) q
  simp only [b_or, bt_bit h h, b_0] at this; simp at this
noncomputable def lf1 (I : aI) (n : Nat) (c : Nat) : Int32 := if I 93 c ≠ 0 ∧ cfl I n (al (-1) (-1) (nI c)) = true then (iBit (nI c) ||| 0) ||| 0 else 0
noncomputable def lf2 (I : aI) (n : Nat) (c b : Nat) : Int32 := if (I 93 c ≠ 0 ∧ I 93 b ≠ 0) ∧ cfl I n (al (-1) (nI b) (nI c)) = true then (iBit (nI c) ||| iBit (nI b)) ||| 0 else 0
noncomputable def lf3 (I : aI) (n : Nat) (c b a : Nat) : Int32 := if (I 93 c ≠ 0 ∧ I 93 b ≠ 0 ∧ I 93 a ≠ 0) ∧ cfl I n (al (nI a) (nI b) (nI c)) = true then (iBit (nI c) ||| iBit (nI b)) ||| iBit (nI a) else 0
noncomputable def lc1 (I : aI) (n : Nat) : Int32 := fs (lf1 I n) n
noncomputable def lc2 (I : aI) (n : Nat) : Int32 := fs (fun c => fs (lf2 I n c) c) n
noncomputable def lc3 (I : aI) (n : Nat) : Int32 := fs (fun c => fs (fun b => fs (lf3 I n c b) b) c) n
set_option maxRecDepth 100000 in
theorem m_X12_leastConflict1 {T : List aT} {I : aI} {J : aJ} {R : aR} (hT : aPT T) (hR : aPR R) {n : Nat} (hS : SW I n) (hZ : Zr J) (hg : GOK I n) : MX12_leastConflict 0 0 [.ref 44, .int 1] T I J R (aRelV (fun v I3 J3 => v = some (.int (lc1 I n)) ∧ CI I J I3 J3) T R) := by
  refine a_met (by decide +kernel) a_le (fun X hC hq => ?_)
  show AW X 0 0 0 [some (.ref 44), some (.int 1), none, none, none] [] T I J R
  refine aw_iconst (v := 0) hC dX12_leastConflict_0 (by decide) ?_
  refine aw_istore_n (L2 := [some (.ref 44), some (.int 1), some (.int 0), none, none]) hC dX12_leastConflict_1 rfl (by decide) rfl ?_
  have hn9 := hS.n30
  have la : ∀ c, c ≤ n → ∀ (Ia : aI) (Ja : aJ), CI I J Ia Ja → fs (lf1 I n) c = 0 → AW X 0 0 2 [some (.ref 44), some (.int 1), some (.int (nI c)), none, none] [] T Ia Ja R := by
    refine a_down n (fun c hkla ihla => ?_)
    intro Ia Ja ha hfla
    refine aw_iload_n hC dX12_leastConflict_2 rfl ?_
    refine aw_aload_n hC dX12_leastConflict_3 rfl ?_
    refine aw_getI hC dX12_leastConflict_4 aF_X12_183 rfl (tg_44 hT) ?_
    rw [((ha.2.1 0 (by decide)).trans hS.cnt)]
    refine aw_icmp_ge (tgt := 147) hC dX12_leastConflict_7 (by decide) (fun h1 => ?_) (fun h1 => ?_)
    · show AW X 0 0 147 [some (.ref 44), some (.int 1), some (.int (nI c)), none, none] [] T Ia Ja R
      have h1n : n ≤ c := (nI_leI (a := n) (b := c) (by omega) (by omega)).mp h1
      refine aw_iconst (v := 0) hC dX12_leastConflict_147 (by decide) ?_
      exact aw_ireturn hC hq rfl dX12_leastConflict_148 a_le a_le ⟨_, rfl, rfl, rfl, by have e9 : c = n := (by omega); rw [e9] at hfla; rw [lc1, hfla], ha⟩
    · show AW X 0 0 10 [some (.ref 44), some (.int 1), some (.int (nI c)), none, none] [] T Ia Ja R
      have h1n : ¬ n ≤ c := fun q9 => h1 ((nI_leI (a := n) (b := c) (by omega) (by omega)).mpr q9)
      refine aw_iload_n hC dX12_leastConflict_10 rfl ?_
      refine aw_iconst (v := 1) hC dX12_leastConflict_11 (by decide) ?_
      refine aw_icmp_le (tgt := 19) hC dX12_leastConflict_12 (by decide) (fun _ => ?_) (fun h2 => absurd h2 (by decide))
      show AW X 0 0 19 [some (.ref 44), some (.int 1), some (.int (nI c)), none, none] [] T Ia Ja R
      refine aw_iconst (v := (-1)) hC dX12_leastConflict_19 (by decide) ?_
      refine aw_istore_n (L2 := [some (.ref 44), some (.int 1), some (.int (nI c)), some (.int (-1)), none]) hC dX12_leastConflict_20 rfl (by decide) rfl ?_
      refine aw_iload_n hC dX12_leastConflict_21 rfl ?_
      refine aw_iload_n hC dX12_leastConflict_22 rfl ?_
      refine aw_iconst (v := 1) hC dX12_leastConflict_23 (by decide) ?_
      refine aw_icmp_le (tgt := 31) hC dX12_leastConflict_24 (by decide) (fun _ => ?_) (fun h3 => absurd h3 (by decide))
      show AW X 0 0 31 [some (.ref 44), some (.int 1), some (.int (nI c)), some (.int (-1)), none] [.int (-1)] T Ia Ja R
      refine aw_iconst (v := 0) hC dX12_leastConflict_31 (by decide) ?_
      refine aw_icmp_ge (tgt := 141) hC dX12_leastConflict_32 (by decide) (fun h4 => absurd h4 (by decide)) (fun _ => ?_)
      show AW X 0 0 35 [some (.ref 44), some (.int 1), some (.int (nI c)), some (.int (-1)), none] [] T Ia Ja R
      refine aw_iload_n hC dX12_leastConflict_35 rfl ?_
      refine aw_iconst (v := 2) hC dX12_leastConflict_36 (by decide) ?_
      refine aw_icmp_le (tgt := 44) hC dX12_leastConflict_37 (by decide) (fun _ => ?_) (fun h5 => absurd h5 (by decide))
      show AW X 0 0 44 [some (.ref 44), some (.int 1), some (.int (nI c)), some (.int (-1)), none] [] T Ia Ja R
      refine aw_iconst (v := (-1)) hC dX12_leastConflict_44 (by decide) ?_
      refine aw_istore (L2 := [some (.ref 44), some (.int 1), some (.int (nI c)), some (.int (-1)), some (.int (-1))]) hC dX12_leastConflict_45 (by decide) rfl ?_
      refine aw_iload hC dX12_leastConflict_47 rfl ?_
      refine aw_iload_n hC dX12_leastConflict_49 rfl ?_
      refine aw_iconst (v := 2) hC dX12_leastConflict_50 (by decide) ?_
      refine aw_icmp_le (tgt := 58) hC dX12_leastConflict_51 (by decide) (fun _ => ?_) (fun h6 => absurd h6 (by decide))
      show AW X 0 0 58 [some (.ref 44), some (.int 1), some (.int (nI c)), some (.int (-1)), some (.int (-1))] [.int (-1)] T Ia Ja R
      refine aw_iconst (v := 0) hC dX12_leastConflict_58 (by decide) ?_
      refine aw_icmp_ge (tgt := 135) hC dX12_leastConflict_59 (by decide) (fun h7 => absurd h7 (by decide)) (fun _ => ?_)
      show AW X 0 0 62 [some (.ref 44), some (.int 1), some (.int (nI c)), some (.int (-1)), some (.int (-1))] [] T Ia Ja R
      refine aw_aload_n hC dX12_leastConflict_62 rfl ?_
      refine aw_getR hC dX12_leastConflict_63 aF_X12_163 rfl (tg_44 hT) (pr_44_62 hR) ?_
      refine aw_iload_n hC dX12_leastConflict_66 rfl ?_
      refine aw_baload_k (j := c) hC dX12_leastConflict_67 (tg_93 hT) (nI_clamp (by omega)) (vp_in_nI (by omega) (by decide)) ?_
      rw [ha.1 93 (by decide)]
      refine aw_if_eq (tgt := 129) hC dX12_leastConflict_68 (by decide) (fun h8 => ?_) (fun h8 => ?_)
      · show AW X 0 0 129 [some (.ref 44), some (.int 1), some (.int (nI c)), some (.int (-1)), some (.int (-1))] [] T Ia Ja R
        refine aw_iinc (v := 0) (L2 := [some (.ref 44), some (.int 1), some (.int (nI c)), some (.int (-1)), some (.int 0)]) hC dX12_leastConflict_129 rfl (by decide) (by decide) rfl ?_
        refine aw_goto (tgt := 47) hC dX12_leastConflict_132 (by decide) ?_
        refine aw_iload hC dX12_leastConflict_47 rfl ?_
        refine aw_iload_n hC dX12_leastConflict_49 rfl ?_
        refine aw_iconst (v := 2) hC dX12_leastConflict_50 (by decide) ?_
        refine aw_icmp_le (tgt := 58) hC dX12_leastConflict_51 (by decide) (fun _ => ?_) (fun h9 => absurd h9 (by decide))
        show AW X 0 0 58 [some (.ref 44), some (.int 1), some (.int (nI c)), some (.int (-1)), some (.int 0)] [.int 0] T Ia Ja R
        refine aw_iconst (v := 0) hC dX12_leastConflict_58 (by decide) ?_
        refine aw_icmp_ge (tgt := 135) hC dX12_leastConflict_59 (by decide) (fun _ => ?_) (fun h10 => absurd h10 (by decide))
        show AW X 0 0 135 [some (.ref 44), some (.int 1), some (.int (nI c)), some (.int (-1)), some (.int 0)] [] T Ia Ja R
        refine aw_iinc (v := 0) (L2 := [some (.ref 44), some (.int 1), some (.int (nI c)), some (.int 0), some (.int 0)]) hC dX12_leastConflict_135 rfl (by decide) (by decide) rfl ?_
        refine aw_goto (tgt := 21) hC dX12_leastConflict_138 (by decide) ?_
        refine aw_iload_n hC dX12_leastConflict_21 rfl ?_
        refine aw_iload_n hC dX12_leastConflict_22 rfl ?_
        refine aw_iconst (v := 1) hC dX12_leastConflict_23 (by decide) ?_
        refine aw_icmp_le (tgt := 31) hC dX12_leastConflict_24 (by decide) (fun _ => ?_) (fun h11 => absurd h11 (by decide))
        show AW X 0 0 31 [some (.ref 44), some (.int 1), some (.int (nI c)), some (.int 0), some (.int 0)] [.int 0] T Ia Ja R
        refine aw_iconst (v := 0) hC dX12_leastConflict_31 (by decide) ?_
        refine aw_icmp_ge (tgt := 141) hC dX12_leastConflict_32 (by decide) (fun _ => ?_) (fun h12 => absurd h12 (by decide))
        show AW X 0 0 141 [some (.ref 44), some (.int 1), some (.int (nI c)), some (.int 0), some (.int 0)] [] T Ia Ja R
        refine aw_iinc (v := nI (c + 1)) (L2 := [some (.ref 44), some (.int 1), some (.int (nI (c + 1))), some (.int 0), some (.int 0)]) hC dX12_leastConflict_141 rfl (nI_inc _) (by decide) rfl ?_
        refine aw_goto (tgt := 2) hC dX12_leastConflict_144 (by decide) ?_
        refine aw_forget 3 (L2 := [some (.ref 44), some (.int 1), some (.int (nI (c + 1))), none, some (.int 0)]) rfl ?_
        refine aw_forget 4 (L2 := [some (.ref 44), some (.int 1), some (.int (nI (c + 1))), none, none]) rfl ?_
        exact ihla (by omega) Ia Ja ha (fs_z hfla (by unfold lf1; exact if_neg (fun q => by (try simp only [bI_e0, bI_d0, bI_dn, bI_n0, Classical.not_not] at *); simp_all)))
      · show AW X 0 0 71 [some (.ref 44), some (.int 1), some (.int (nI c)), some (.int (-1)), some (.int (-1))] [] T Ia Ja R
        refine aw_aload_n hC dX12_leastConflict_71 rfl ?_
        refine aw_iload_n hC dX12_leastConflict_72 rfl ?_
        refine kX12_290 hC rfl (m_X12_mayN (I := Ia) (J := Ja) hT hR) dX12_leastConflict_73 (tg_44 hT) rfl a_le a_le a_le a_le a_le rfl aPure_x (aPure_k ?_)
        show AW X 0 0 76 [some (.ref 44), some (.int 1), some (.int (nI c)), some (.int (-1)), some (.int (-1))] [.int 1] T Ia Ja R
        refine aw_if_eq (tgt := 129) hC dX12_leastConflict_76 (by decide) (fun h13 => absurd h13 (by decide)) (fun _ => ?_)
        show AW X 0 0 79 [some (.ref 44), some (.int 1), some (.int (nI c)), some (.int (-1)), some (.int (-1))] [] T Ia Ja R
        refine aw_aload_n hC dX12_leastConflict_79 rfl ?_
        refine aw_iload hC dX12_leastConflict_80 rfl ?_
        refine kX12_290 hC rfl (m_X12_mayN (I := Ia) (J := Ja) hT hR) dX12_leastConflict_82 (tg_44 hT) rfl a_le a_le a_le a_le a_le rfl aPure_x (aPure_k ?_)
        show AW X 0 0 85 [some (.ref 44), some (.int 1), some (.int (nI c)), some (.int (-1)), some (.int (-1))] [.int 1] T Ia Ja R
        refine aw_if_eq (tgt := 129) hC dX12_leastConflict_85 (by decide) (fun h14 => absurd h14 (by decide)) (fun _ => ?_)
        show AW X 0 0 88 [some (.ref 44), some (.int 1), some (.int (nI c)), some (.int (-1)), some (.int (-1))] [] T Ia Ja R
        refine aw_aload_n hC dX12_leastConflict_88 rfl ?_
        refine aw_iload hC dX12_leastConflict_89 rfl ?_
        refine aw_iload_n hC dX12_leastConflict_91 rfl ?_
        refine aw_iload_n hC dX12_leastConflict_92 rfl ?_
        refine kX12_292 hC rfl (m_X12_isConflict (I := Ia) (J := Ja) (n := n) hT hR (ha.sw hS) (ha.zr hZ) (ha.gok hg) ((-1) : Int32) ((-1) : Int32) (nI c)) dX12_leastConflict_93 (tg_44 hT) rfl a_le a_le a_le a_le a_le rfl aRelV_x (aRelV_k (fun v9 I10 J10 hQ => ?_))
        obtain ⟨rfl, hd9, -⟩ := hQ
        rw [cfl_cg (ha.1 45 (by decide)) (ha.1 46 (by decide)) (ha.1 47 (by decide)) (ha.1 48 (by decide))]
        have hc10 : CI I J I10 J10 := ha.trans hd9
        show AW X 0 0 96 [some (.ref 44), some (.int 1), some (.int (nI c)), some (.int (-1)), some (.int (-1))] [.int (bI (cfl I n (al ((-1) : Int32) ((-1) : Int32) (nI c))))] T I10 J10 R
        refine aw_if_eq (tgt := 129) hC dX12_leastConflict_96 (by decide) (fun h15 => ?_) (fun h15 => ?_)
        · show AW X 0 0 129 [some (.ref 44), some (.int 1), some (.int (nI c)), some (.int (-1)), some (.int (-1))] [] T I10 J10 R
          refine aw_iinc (v := 0) (L2 := [some (.ref 44), some (.int 1), some (.int (nI c)), some (.int (-1)), some (.int 0)]) hC dX12_leastConflict_129 rfl (by decide) (by decide) rfl ?_
          refine aw_goto (tgt := 47) hC dX12_leastConflict_132 (by decide) ?_
          refine aw_iload hC dX12_leastConflict_47 rfl ?_
          refine aw_iload_n hC dX12_leastConflict_49 rfl ?_
          refine aw_iconst (v := 2) hC dX12_leastConflict_50 (by decide) ?_
          refine aw_icmp_le (tgt := 58) hC dX12_leastConflict_51 (by decide) (fun _ => ?_) (fun h16 => absurd h16 (by decide))
          show AW X 0 0 58 [some (.ref 44), some (.int 1), some (.int (nI c)), some (.int (-1)), some (.int 0)] [.int 0] T I10 J10 R
          refine aw_iconst (v := 0) hC dX12_leastConflict_58 (by decide) ?_
          refine aw_icmp_ge (tgt := 135) hC dX12_leastConflict_59 (by decide) (fun _ => ?_) (fun h17 => absurd h17 (by decide))
          show AW X 0 0 135 [some (.ref 44), some (.int 1), some (.int (nI c)), some (.int (-1)), some (.int 0)] [] T I10 J10 R
          refine aw_iinc (v := 0) (L2 := [some (.ref 44), some (.int 1), some (.int (nI c)), some (.int 0), some (.int 0)]) hC dX12_leastConflict_135 rfl (by decide) (by decide) rfl ?_
          refine aw_goto (tgt := 21) hC dX12_leastConflict_138 (by decide) ?_
          refine aw_iload_n hC dX12_leastConflict_21 rfl ?_
          refine aw_iload_n hC dX12_leastConflict_22 rfl ?_
          refine aw_iconst (v := 1) hC dX12_leastConflict_23 (by decide) ?_
          refine aw_icmp_le (tgt := 31) hC dX12_leastConflict_24 (by decide) (fun _ => ?_) (fun h18 => absurd h18 (by decide))
          show AW X 0 0 31 [some (.ref 44), some (.int 1), some (.int (nI c)), some (.int 0), some (.int 0)] [.int 0] T I10 J10 R
          refine aw_iconst (v := 0) hC dX12_leastConflict_31 (by decide) ?_
          refine aw_icmp_ge (tgt := 141) hC dX12_leastConflict_32 (by decide) (fun _ => ?_) (fun h19 => absurd h19 (by decide))
          show AW X 0 0 141 [some (.ref 44), some (.int 1), some (.int (nI c)), some (.int 0), some (.int 0)] [] T I10 J10 R
          refine aw_iinc (v := nI (c + 1)) (L2 := [some (.ref 44), some (.int 1), some (.int (nI (c + 1))), some (.int 0), some (.int 0)]) hC dX12_leastConflict_141 rfl (nI_inc _) (by decide) rfl ?_
          refine aw_goto (tgt := 2) hC dX12_leastConflict_144 (by decide) ?_
          refine aw_forget 3 (L2 := [some (.ref 44), some (.int 1), some (.int (nI (c + 1))), none, some (.int 0)]) rfl ?_
          refine aw_forget 4 (L2 := [some (.ref 44), some (.int 1), some (.int (nI (c + 1))), none, none]) rfl ?_
          exact ihla (by omega) I10 J10 hc10 (fs_z hfla (by unfold lf1; exact if_neg (fun q => by (try simp only [bI_e0, bI_d0, bI_dn, bI_n0, Classical.not_not] at *); simp_all)))
        · show AW X 0 0 99 [some (.ref 44), some (.int 1), some (.int (nI c)), some (.int (-1)), some (.int (-1))] [] T I10 J10 R
          refine aw_iconst (v := 1) hC dX12_leastConflict_99 (by decide) ?_
          refine aw_iload_n hC dX12_leastConflict_100 rfl ?_
          refine aw_ishl hC dX12_leastConflict_101 ?_
          refine aw_iload_n hC dX12_leastConflict_102 rfl ?_
          refine aw_if_ge (tgt := 110) hC dX12_leastConflict_103 (by decide) (fun h20 => absurd h20 (by decide)) (fun _ => ?_)
          show AW X 0 0 106 [some (.ref 44), some (.int 1), some (.int (nI c)), some (.int (-1)), some (.int (-1))] [.int (1 <<< ((nI c) &&& 31))] T I10 J10 R
          refine aw_iconst (v := 0) hC dX12_leastConflict_106 (by decide) ?_
          refine aw_goto (tgt := 113) hC dX12_leastConflict_107 (by decide) ?_
          refine aw_ior hC dX12_leastConflict_113 ?_
          refine aw_iload hC dX12_leastConflict_114 rfl ?_
          refine aw_if_ge (tgt := 123) hC dX12_leastConflict_116 (by decide) (fun h21 => absurd h21 (by decide)) (fun _ => ?_)
          show AW X 0 0 119 [some (.ref 44), some (.int 1), some (.int (nI c)), some (.int (-1)), some (.int (-1))] [.int ((1 <<< ((nI c) &&& 31)) ||| 0)] T I10 J10 R
          refine aw_iconst (v := 0) hC dX12_leastConflict_119 (by decide) ?_
          refine aw_goto (tgt := 127) hC dX12_leastConflict_120 (by decide) ?_
          refine aw_ior hC dX12_leastConflict_127 ?_
          exact aw_ireturn hC hq rfl dX12_leastConflict_128 a_le a_le (by first | (exfalso; omega) | exact ⟨_, rfl, rfl, rfl, by rw [lc1]; exact congrArg (fun z => some (Value.int z)) (fs_f hfla (by unfold lf1; rw [if_pos ⟨by assumption, bI_n0.mp (by assumption)⟩]; rfl) (by rw [Int32.or_zero]; exact bit_nz (by omega) _) n (by omega)).symm, hc10⟩)
  exact la 0 (Nat.zero_le _) I J (CI.refl hZ) rfl
set_option maxRecDepth 100000 in
theorem m_X12_leastConflict2 {T : List aT} {I : aI} {J : aJ} {R : aR} (hT : aPT T) (hR : aPR R) {n : Nat} (hS : SW I n) (hZ : Zr J) (hg : GOK I n) : MX12_leastConflict 0 0 [.ref 44, .int 2] T I J R (aRelV (fun v I3 J3 => v = some (.int (lc2 I n)) ∧ CI I J I3 J3) T R) := by
  refine a_met (by decide +kernel) a_le (fun X hC hq => ?_)
  show AW X 0 0 0 [some (.ref 44), some (.int 2), none, none, none] [] T I J R
  refine aw_iconst (v := 0) hC dX12_leastConflict_0 (by decide) ?_
  refine aw_istore_n (L2 := [some (.ref 44), some (.int 2), some (.int 0), none, none]) hC dX12_leastConflict_1 rfl (by decide) rfl ?_
  have hn9 := hS.n30
  have la : ∀ c, c ≤ n → ∀ (Ia : aI) (Ja : aJ), CI I J Ia Ja → fs (fun c => fs (lf2 I n c) c) c = 0 → AW X 0 0 2 [some (.ref 44), some (.int 2), some (.int (nI c)), none, none] [] T Ia Ja R := by
    refine a_down n (fun c hkla ihla => ?_)
    intro Ia Ja ha hfla
    refine aw_iload_n hC dX12_leastConflict_2 rfl ?_
    refine aw_aload_n hC dX12_leastConflict_3 rfl ?_
    refine aw_getI hC dX12_leastConflict_4 aF_X12_183 rfl (tg_44 hT) ?_
    rw [((ha.2.1 0 (by decide)).trans hS.cnt)]
    refine aw_icmp_ge (tgt := 147) hC dX12_leastConflict_7 (by decide) (fun h1 => ?_) (fun h1 => ?_)
    · show AW X 0 0 147 [some (.ref 44), some (.int 2), some (.int (nI c)), none, none] [] T Ia Ja R
      have h1n : n ≤ c := (nI_leI (a := n) (b := c) (by omega) (by omega)).mp h1
      refine aw_iconst (v := 0) hC dX12_leastConflict_147 (by decide) ?_
      exact aw_ireturn hC hq rfl dX12_leastConflict_148 a_le a_le ⟨_, rfl, rfl, rfl, by have e9 : c = n := (by omega); rw [e9] at hfla; rw [lc2, hfla], ha⟩
    · show AW X 0 0 10 [some (.ref 44), some (.int 2), some (.int (nI c)), none, none] [] T Ia Ja R
      have h1n : ¬ n ≤ c := fun q9 => h1 ((nI_leI (a := n) (b := c) (by omega) (by omega)).mpr q9)
      refine aw_iload_n hC dX12_leastConflict_10 rfl ?_
      refine aw_iconst (v := 1) hC dX12_leastConflict_11 (by decide) ?_
      refine aw_icmp_le (tgt := 19) hC dX12_leastConflict_12 (by decide) (fun h2 => absurd h2 (by decide)) (fun _ => ?_)
      show AW X 0 0 15 [some (.ref 44), some (.int 2), some (.int (nI c)), none, none] [] T Ia Ja R
      refine aw_iconst (v := 0) hC dX12_leastConflict_15 (by decide) ?_
      refine aw_goto (tgt := 20) hC dX12_leastConflict_16 (by decide) ?_
      refine aw_istore_n (L2 := [some (.ref 44), some (.int 2), some (.int (nI c)), some (.int 0), none]) hC dX12_leastConflict_20 rfl (by decide) rfl ?_
      have lb : ∀ b, b ≤ c → ∀ (Ib : aI) (Jb : aJ), CI I J Ib Jb → fs (lf2 I n c) b = 0 → AW X 0 0 21 [some (.ref 44), some (.int 2), some (.int (nI c)), some (.int (nI b)), none] [] T Ib Jb R := by
        refine a_down c (fun b hklb ihlb => ?_)
        intro Ib Jb hb hflb
        refine aw_iload_n hC dX12_leastConflict_21 rfl ?_
        refine aw_iload_n hC dX12_leastConflict_22 rfl ?_
        refine aw_iconst (v := 1) hC dX12_leastConflict_23 (by decide) ?_
        refine aw_icmp_le (tgt := 31) hC dX12_leastConflict_24 (by decide) (fun h3 => absurd h3 (by decide)) (fun _ => ?_)
        show AW X 0 0 27 [some (.ref 44), some (.int 2), some (.int (nI c)), some (.int (nI b)), none] [.int (nI b)] T Ib Jb R
        refine aw_iload_n hC dX12_leastConflict_27 rfl ?_
        refine aw_goto (tgt := 32) hC dX12_leastConflict_28 (by decide) ?_
        refine aw_icmp_ge (tgt := 141) hC dX12_leastConflict_32 (by decide) (fun h4 => ?_) (fun h4 => ?_)
        · show AW X 0 0 141 [some (.ref 44), some (.int 2), some (.int (nI c)), some (.int (nI b)), none] [] T Ib Jb R
          have h4n : c ≤ b := (nI_leI (a := c) (b := b) (by omega) (by omega)).mp h4
          refine aw_iinc (v := nI (c + 1)) (L2 := [some (.ref 44), some (.int 2), some (.int (nI (c + 1))), some (.int (nI b)), none]) hC dX12_leastConflict_141 rfl (nI_inc _) (by decide) rfl ?_
          refine aw_goto (tgt := 2) hC dX12_leastConflict_144 (by decide) ?_
          refine aw_forget 3 (L2 := [some (.ref 44), some (.int 2), some (.int (nI (c + 1))), none, none]) rfl ?_
          exact ihla (by omega) Ib Jb hb (fs_z hfla (by have e9 : b = c := (by omega); rw [e9] at hflb; exact hflb))
        · show AW X 0 0 35 [some (.ref 44), some (.int 2), some (.int (nI c)), some (.int (nI b)), none] [] T Ib Jb R
          have h4n : ¬ c ≤ b := fun q9 => h4 ((nI_leI (a := c) (b := b) (by omega) (by omega)).mpr q9)
          refine aw_iload_n hC dX12_leastConflict_35 rfl ?_
          refine aw_iconst (v := 2) hC dX12_leastConflict_36 (by decide) ?_
          refine aw_icmp_le (tgt := 44) hC dX12_leastConflict_37 (by decide) (fun _ => ?_) (fun h5 => absurd h5 (by decide))
          show AW X 0 0 44 [some (.ref 44), some (.int 2), some (.int (nI c)), some (.int (nI b)), none] [] T Ib Jb R
          refine aw_iconst (v := (-1)) hC dX12_leastConflict_44 (by decide) ?_
          refine aw_istore (L2 := [some (.ref 44), some (.int 2), some (.int (nI c)), some (.int (nI b)), some (.int (-1))]) hC dX12_leastConflict_45 (by decide) rfl ?_
          refine aw_iload hC dX12_leastConflict_47 rfl ?_
          refine aw_iload_n hC dX12_leastConflict_49 rfl ?_
          refine aw_iconst (v := 2) hC dX12_leastConflict_50 (by decide) ?_
          refine aw_icmp_le (tgt := 58) hC dX12_leastConflict_51 (by decide) (fun _ => ?_) (fun h6 => absurd h6 (by decide))
          show AW X 0 0 58 [some (.ref 44), some (.int 2), some (.int (nI c)), some (.int (nI b)), some (.int (-1))] [.int (-1)] T Ib Jb R
          refine aw_iconst (v := 0) hC dX12_leastConflict_58 (by decide) ?_
          refine aw_icmp_ge (tgt := 135) hC dX12_leastConflict_59 (by decide) (fun h7 => absurd h7 (by decide)) (fun _ => ?_)
          show AW X 0 0 62 [some (.ref 44), some (.int 2), some (.int (nI c)), some (.int (nI b)), some (.int (-1))] [] T Ib Jb R
          refine aw_aload_n hC dX12_leastConflict_62 rfl ?_
          refine aw_getR hC dX12_leastConflict_63 aF_X12_163 rfl (tg_44 hT) (pr_44_62 hR) ?_
          refine aw_iload_n hC dX12_leastConflict_66 rfl ?_
          refine aw_baload_k (j := c) hC dX12_leastConflict_67 (tg_93 hT) (nI_clamp (by omega)) (vp_in_nI (by omega) (by decide)) ?_
          rw [hb.1 93 (by decide)]
          refine aw_if_eq (tgt := 129) hC dX12_leastConflict_68 (by decide) (fun h8 => ?_) (fun h8 => ?_)
          · show AW X 0 0 129 [some (.ref 44), some (.int 2), some (.int (nI c)), some (.int (nI b)), some (.int (-1))] [] T Ib Jb R
            refine aw_iinc (v := 0) (L2 := [some (.ref 44), some (.int 2), some (.int (nI c)), some (.int (nI b)), some (.int 0)]) hC dX12_leastConflict_129 rfl (by decide) (by decide) rfl ?_
            refine aw_goto (tgt := 47) hC dX12_leastConflict_132 (by decide) ?_
            refine aw_iload hC dX12_leastConflict_47 rfl ?_
            refine aw_iload_n hC dX12_leastConflict_49 rfl ?_
            refine aw_iconst (v := 2) hC dX12_leastConflict_50 (by decide) ?_
            refine aw_icmp_le (tgt := 58) hC dX12_leastConflict_51 (by decide) (fun _ => ?_) (fun h9 => absurd h9 (by decide))
            show AW X 0 0 58 [some (.ref 44), some (.int 2), some (.int (nI c)), some (.int (nI b)), some (.int 0)] [.int 0] T Ib Jb R
            refine aw_iconst (v := 0) hC dX12_leastConflict_58 (by decide) ?_
            refine aw_icmp_ge (tgt := 135) hC dX12_leastConflict_59 (by decide) (fun _ => ?_) (fun h10 => absurd h10 (by decide))
            show AW X 0 0 135 [some (.ref 44), some (.int 2), some (.int (nI c)), some (.int (nI b)), some (.int 0)] [] T Ib Jb R
            refine aw_iinc (v := nI (b + 1)) (L2 := [some (.ref 44), some (.int 2), some (.int (nI c)), some (.int (nI (b + 1))), some (.int 0)]) hC dX12_leastConflict_135 rfl (nI_inc _) (by decide) rfl ?_
            refine aw_goto (tgt := 21) hC dX12_leastConflict_138 (by decide) ?_
            refine aw_forget 4 (L2 := [some (.ref 44), some (.int 2), some (.int (nI c)), some (.int (nI (b + 1))), none]) rfl ?_
            exact ihlb (by omega) Ib Jb hb (fs_z hflb (by unfold lf2; exact if_neg (fun q => by (try simp only [bI_e0, bI_d0, bI_dn, bI_n0, Classical.not_not] at *); simp_all)))
          · show AW X 0 0 71 [some (.ref 44), some (.int 2), some (.int (nI c)), some (.int (nI b)), some (.int (-1))] [] T Ib Jb R
            refine aw_aload_n hC dX12_leastConflict_71 rfl ?_
            refine aw_iload_n hC dX12_leastConflict_72 rfl ?_
            refine kX12_290 hC rfl (m_X12_may (I := Ib) (J := Jb) hT hR (s := b) (by omega)) dX12_leastConflict_73 (tg_44 hT) rfl a_le a_le a_le a_le a_le rfl aPure_x (aPure_k ?_)
            show AW X 0 0 76 [some (.ref 44), some (.int 2), some (.int (nI c)), some (.int (nI b)), some (.int (-1))] [.int (bI (decide (Ib 93 b ≠ 0)))] T Ib Jb R
            rw [hb.1 93 (by decide)]
            refine aw_if_eq (tgt := 129) hC dX12_leastConflict_76 (by decide) (fun h11 => ?_) (fun h11 => ?_)
            · show AW X 0 0 129 [some (.ref 44), some (.int 2), some (.int (nI c)), some (.int (nI b)), some (.int (-1))] [] T Ib Jb R
              refine aw_iinc (v := 0) (L2 := [some (.ref 44), some (.int 2), some (.int (nI c)), some (.int (nI b)), some (.int 0)]) hC dX12_leastConflict_129 rfl (by decide) (by decide) rfl ?_
              refine aw_goto (tgt := 47) hC dX12_leastConflict_132 (by decide) ?_
              refine aw_iload hC dX12_leastConflict_47 rfl ?_
              refine aw_iload_n hC dX12_leastConflict_49 rfl ?_
              refine aw_iconst (v := 2) hC dX12_leastConflict_50 (by decide) ?_
              refine aw_icmp_le (tgt := 58) hC dX12_leastConflict_51 (by decide) (fun _ => ?_) (fun h12 => absurd h12 (by decide))
              show AW X 0 0 58 [some (.ref 44), some (.int 2), some (.int (nI c)), some (.int (nI b)), some (.int 0)] [.int 0] T Ib Jb R
              refine aw_iconst (v := 0) hC dX12_leastConflict_58 (by decide) ?_
              refine aw_icmp_ge (tgt := 135) hC dX12_leastConflict_59 (by decide) (fun _ => ?_) (fun h13 => absurd h13 (by decide))
              show AW X 0 0 135 [some (.ref 44), some (.int 2), some (.int (nI c)), some (.int (nI b)), some (.int 0)] [] T Ib Jb R
              refine aw_iinc (v := nI (b + 1)) (L2 := [some (.ref 44), some (.int 2), some (.int (nI c)), some (.int (nI (b + 1))), some (.int 0)]) hC dX12_leastConflict_135 rfl (nI_inc _) (by decide) rfl ?_
              refine aw_goto (tgt := 21) hC dX12_leastConflict_138 (by decide) ?_
              refine aw_forget 4 (L2 := [some (.ref 44), some (.int 2), some (.int (nI c)), some (.int (nI (b + 1))), none]) rfl ?_
              exact ihlb (by omega) Ib Jb hb (fs_z hflb (by unfold lf2; exact if_neg (fun q => by (try simp only [bI_e0, bI_d0, bI_dn, bI_n0, Classical.not_not] at *); simp_all)))
            · show AW X 0 0 79 [some (.ref 44), some (.int 2), some (.int (nI c)), some (.int (nI b)), some (.int (-1))] [] T Ib Jb R
              refine aw_aload_n hC dX12_leastConflict_79 rfl ?_
              refine aw_iload hC dX12_leastConflict_80 rfl ?_
              refine kX12_290 hC rfl (m_X12_mayN (I := Ib) (J := Jb) hT hR) dX12_leastConflict_82 (tg_44 hT) rfl a_le a_le a_le a_le a_le rfl aPure_x (aPure_k ?_)
              show AW X 0 0 85 [some (.ref 44), some (.int 2), some (.int (nI c)), some (.int (nI b)), some (.int (-1))] [.int 1] T Ib Jb R
              refine aw_if_eq (tgt := 129) hC dX12_leastConflict_85 (by decide) (fun h14 => absurd h14 (by decide)) (fun _ => ?_)
              show AW X 0 0 88 [some (.ref 44), some (.int 2), some (.int (nI c)), some (.int (nI b)), some (.int (-1))] [] T Ib Jb R
              refine aw_aload_n hC dX12_leastConflict_88 rfl ?_
              refine aw_iload hC dX12_leastConflict_89 rfl ?_
              refine aw_iload_n hC dX12_leastConflict_91 rfl ?_
              refine aw_iload_n hC dX12_leastConflict_92 rfl ?_
              refine kX12_292 hC rfl (m_X12_isConflict (I := Ib) (J := Jb) (n := n) hT hR (hb.sw hS) (hb.zr hZ) (hb.gok hg) ((-1) : Int32) (nI b) (nI c)) dX12_leastConflict_93 (tg_44 hT) rfl a_le a_le a_le a_le a_le rfl aRelV_x (aRelV_k (fun v9 I10 J10 hQ => ?_))
              obtain ⟨rfl, hd9, -⟩ := hQ
              rw [cfl_cg (hb.1 45 (by decide)) (hb.1 46 (by decide)) (hb.1 47 (by decide)) (hb.1 48 (by decide))]
              have hc10 : CI I J I10 J10 := hb.trans hd9
              show AW X 0 0 96 [some (.ref 44), some (.int 2), some (.int (nI c)), some (.int (nI b)), some (.int (-1))] [.int (bI (cfl I n (al ((-1) : Int32) (nI b) (nI c))))] T I10 J10 R
              refine aw_if_eq (tgt := 129) hC dX12_leastConflict_96 (by decide) (fun h15 => ?_) (fun h15 => ?_)
              · show AW X 0 0 129 [some (.ref 44), some (.int 2), some (.int (nI c)), some (.int (nI b)), some (.int (-1))] [] T I10 J10 R
                refine aw_iinc (v := 0) (L2 := [some (.ref 44), some (.int 2), some (.int (nI c)), some (.int (nI b)), some (.int 0)]) hC dX12_leastConflict_129 rfl (by decide) (by decide) rfl ?_
                refine aw_goto (tgt := 47) hC dX12_leastConflict_132 (by decide) ?_
                refine aw_iload hC dX12_leastConflict_47 rfl ?_
                refine aw_iload_n hC dX12_leastConflict_49 rfl ?_
                refine aw_iconst (v := 2) hC dX12_leastConflict_50 (by decide) ?_
                refine aw_icmp_le (tgt := 58) hC dX12_leastConflict_51 (by decide) (fun _ => ?_) (fun h16 => absurd h16 (by decide))
                show AW X 0 0 58 [some (.ref 44), some (.int 2), some (.int (nI c)), some (.int (nI b)), some (.int 0)] [.int 0] T I10 J10 R
                refine aw_iconst (v := 0) hC dX12_leastConflict_58 (by decide) ?_
                refine aw_icmp_ge (tgt := 135) hC dX12_leastConflict_59 (by decide) (fun _ => ?_) (fun h17 => absurd h17 (by decide))
                show AW X 0 0 135 [some (.ref 44), some (.int 2), some (.int (nI c)), some (.int (nI b)), some (.int 0)] [] T I10 J10 R
                refine aw_iinc (v := nI (b + 1)) (L2 := [some (.ref 44), some (.int 2), some (.int (nI c)), some (.int (nI (b + 1))), some (.int 0)]) hC dX12_leastConflict_135 rfl (nI_inc _) (by decide) rfl ?_
                refine aw_goto (tgt := 21) hC dX12_leastConflict_138 (by decide) ?_
                refine aw_forget 4 (L2 := [some (.ref 44), some (.int 2), some (.int (nI c)), some (.int (nI (b + 1))), none]) rfl ?_
                exact ihlb (by omega) I10 J10 hc10 (fs_z hflb (by unfold lf2; exact if_neg (fun q => by (try simp only [bI_e0, bI_d0, bI_dn, bI_n0, Classical.not_not] at *); simp_all)))
              · show AW X 0 0 99 [some (.ref 44), some (.int 2), some (.int (nI c)), some (.int (nI b)), some (.int (-1))] [] T I10 J10 R
                refine aw_iconst (v := 1) hC dX12_leastConflict_99 (by decide) ?_
                refine aw_iload_n hC dX12_leastConflict_100 rfl ?_
                refine aw_ishl hC dX12_leastConflict_101 ?_
                refine aw_iload_n hC dX12_leastConflict_102 rfl ?_
                refine aw_if_ge (tgt := 110) hC dX12_leastConflict_103 (by decide) (fun h18 => ?_) (fun h18 => ?_)
                · show AW X 0 0 110 [some (.ref 44), some (.int 2), some (.int (nI c)), some (.int (nI b)), some (.int (-1))] [.int (1 <<< ((nI c) &&& 31))] T I10 J10 R
                  have h18n : 0 ≤ b := (nI_leI (a := 0) (b := b) (by omega) (by omega)).mp h18
                  refine aw_iconst (v := 1) hC dX12_leastConflict_110 (by decide) ?_
                  refine aw_iload_n hC dX12_leastConflict_111 rfl ?_
                  refine aw_ishl hC dX12_leastConflict_112 ?_
                  refine aw_ior hC dX12_leastConflict_113 ?_
                  refine aw_iload hC dX12_leastConflict_114 rfl ?_
                  refine aw_if_ge (tgt := 123) hC dX12_leastConflict_116 (by decide) (fun h19 => absurd h19 (by decide)) (fun _ => ?_)
                  show AW X 0 0 119 [some (.ref 44), some (.int 2), some (.int (nI c)), some (.int (nI b)), some (.int (-1))] [.int ((1 <<< ((nI c) &&& 31)) ||| (1 <<< ((nI b) &&& 31)))] T I10 J10 R
                  refine aw_iconst (v := 0) hC dX12_leastConflict_119 (by decide) ?_
                  refine aw_goto (tgt := 127) hC dX12_leastConflict_120 (by decide) ?_
                  refine aw_ior hC dX12_leastConflict_127 ?_
                  exact aw_ireturn hC hq rfl dX12_leastConflict_128 a_le a_le (by first | (exfalso; omega) | exact ⟨_, rfl, rfl, rfl, by rw [lc2]; exact congrArg (fun z => some (Value.int z)) (fs_f hfla (fs_f hflb (by unfold lf2; rw [if_pos ⟨⟨by assumption, bI_dn.mp (by assumption)⟩, bI_n0.mp (by assumption)⟩]; rfl) (by rw [Int32.or_zero]; exact bit_nz (by omega) _) c (by omega)) (by rw [Int32.or_zero]; exact bit_nz (by omega) _) n (by omega)).symm, hc10⟩)
                · show AW X 0 0 106 [some (.ref 44), some (.int 2), some (.int (nI c)), some (.int (nI b)), some (.int (-1))] [.int (1 <<< ((nI c) &&& 31))] T I10 J10 R
                  have h18n : ¬ 0 ≤ b := fun q9 => h18 ((nI_leI (a := 0) (b := b) (by omega) (by omega)).mpr q9)
                  refine aw_iconst (v := 0) hC dX12_leastConflict_106 (by decide) ?_
                  refine aw_goto (tgt := 113) hC dX12_leastConflict_107 (by decide) ?_
                  refine aw_ior hC dX12_leastConflict_113 ?_
                  refine aw_iload hC dX12_leastConflict_114 rfl ?_
                  refine aw_if_ge (tgt := 123) hC dX12_leastConflict_116 (by decide) (fun h20 => absurd h20 (by decide)) (fun _ => ?_)
                  show AW X 0 0 119 [some (.ref 44), some (.int 2), some (.int (nI c)), some (.int (nI b)), some (.int (-1))] [.int ((1 <<< ((nI c) &&& 31)) ||| 0)] T I10 J10 R
                  refine aw_iconst (v := 0) hC dX12_leastConflict_119 (by decide) ?_
                  refine aw_goto (tgt := 127) hC dX12_leastConflict_120 (by decide) ?_
                  refine aw_ior hC dX12_leastConflict_127 ?_
                  exact aw_ireturn hC hq rfl dX12_leastConflict_128 a_le a_le (by first | (exfalso; omega) | exact ⟨_, rfl, rfl, rfl, by rw [lc2]; exact congrArg (fun z => some (Value.int z)) (fs_f hfla (fs_f hflb (by unfold lf2; rw [if_pos ⟨⟨by assumption, bI_dn.mp (by assumption)⟩, bI_n0.mp (by assumption)⟩]; rfl) (by rw [Int32.or_zero]; exact bit_nz (by omega) _) c (by omega)) (by rw [Int32.or_zero]; exact bit_nz (by omega) _) n (by omega)).symm, hc10⟩)
      exact lb 0 (Nat.zero_le _) Ia Ja ha rfl
  exact la 0 (Nat.zero_le _) I J (CI.refl hZ) rfl
set_option maxRecDepth 100000 in
theorem m_X12_leastConflict3 {T : List aT} {I : aI} {J : aJ} {R : aR} (hT : aPT T) (hR : aPR R) {n : Nat} (hS : SW I n) (hZ : Zr J) (hg : GOK I n) : MX12_leastConflict 0 0 [.ref 44, .int 3] T I J R (aRelV (fun v I3 J3 => v = some (.int (lc3 I n)) ∧ CI I J I3 J3) T R) := by
  refine a_met (by decide +kernel) a_le (fun X hC hq => ?_)
  show AW X 0 0 0 [some (.ref 44), some (.int 3), none, none, none] [] T I J R
  refine aw_iconst (v := 0) hC dX12_leastConflict_0 (by decide) ?_
  refine aw_istore_n (L2 := [some (.ref 44), some (.int 3), some (.int 0), none, none]) hC dX12_leastConflict_1 rfl (by decide) rfl ?_
  have hn9 := hS.n30
  have la : ∀ c, c ≤ n → ∀ (Ia : aI) (Ja : aJ), CI I J Ia Ja → fs (fun c => fs (fun b => fs (lf3 I n c b) b) c) c = 0 → AW X 0 0 2 [some (.ref 44), some (.int 3), some (.int (nI c)), none, none] [] T Ia Ja R := by
    refine a_down n (fun c hkla ihla => ?_)
    intro Ia Ja ha hfla
    refine aw_iload_n hC dX12_leastConflict_2 rfl ?_
    refine aw_aload_n hC dX12_leastConflict_3 rfl ?_
    refine aw_getI hC dX12_leastConflict_4 aF_X12_183 rfl (tg_44 hT) ?_
    rw [((ha.2.1 0 (by decide)).trans hS.cnt)]
    refine aw_icmp_ge (tgt := 147) hC dX12_leastConflict_7 (by decide) (fun h1 => ?_) (fun h1 => ?_)
    · show AW X 0 0 147 [some (.ref 44), some (.int 3), some (.int (nI c)), none, none] [] T Ia Ja R
      have h1n : n ≤ c := (nI_leI (a := n) (b := c) (by omega) (by omega)).mp h1
      refine aw_iconst (v := 0) hC dX12_leastConflict_147 (by decide) ?_
      exact aw_ireturn hC hq rfl dX12_leastConflict_148 a_le a_le ⟨_, rfl, rfl, rfl, by have e9 : c = n := (by omega); rw [e9] at hfla; rw [lc3, hfla], ha⟩
    · show AW X 0 0 10 [some (.ref 44), some (.int 3), some (.int (nI c)), none, none] [] T Ia Ja R
      have h1n : ¬ n ≤ c := fun q9 => h1 ((nI_leI (a := n) (b := c) (by omega) (by omega)).mpr q9)
      refine aw_iload_n hC dX12_leastConflict_10 rfl ?_
      refine aw_iconst (v := 1) hC dX12_leastConflict_11 (by decide) ?_
      refine aw_icmp_le (tgt := 19) hC dX12_leastConflict_12 (by decide) (fun h2 => absurd h2 (by decide)) (fun _ => ?_)
      show AW X 0 0 15 [some (.ref 44), some (.int 3), some (.int (nI c)), none, none] [] T Ia Ja R
      refine aw_iconst (v := 0) hC dX12_leastConflict_15 (by decide) ?_
      refine aw_goto (tgt := 20) hC dX12_leastConflict_16 (by decide) ?_
      refine aw_istore_n (L2 := [some (.ref 44), some (.int 3), some (.int (nI c)), some (.int 0), none]) hC dX12_leastConflict_20 rfl (by decide) rfl ?_
      have lb : ∀ b, b ≤ c → ∀ (Ib : aI) (Jb : aJ), CI I J Ib Jb → fs (fun b => fs (lf3 I n c b) b) b = 0 → AW X 0 0 21 [some (.ref 44), some (.int 3), some (.int (nI c)), some (.int (nI b)), none] [] T Ib Jb R := by
        refine a_down c (fun b hklb ihlb => ?_)
        intro Ib Jb hb hflb
        refine aw_iload_n hC dX12_leastConflict_21 rfl ?_
        refine aw_iload_n hC dX12_leastConflict_22 rfl ?_
        refine aw_iconst (v := 1) hC dX12_leastConflict_23 (by decide) ?_
        refine aw_icmp_le (tgt := 31) hC dX12_leastConflict_24 (by decide) (fun h3 => absurd h3 (by decide)) (fun _ => ?_)
        show AW X 0 0 27 [some (.ref 44), some (.int 3), some (.int (nI c)), some (.int (nI b)), none] [.int (nI b)] T Ib Jb R
        refine aw_iload_n hC dX12_leastConflict_27 rfl ?_
        refine aw_goto (tgt := 32) hC dX12_leastConflict_28 (by decide) ?_
        refine aw_icmp_ge (tgt := 141) hC dX12_leastConflict_32 (by decide) (fun h4 => ?_) (fun h4 => ?_)
        · show AW X 0 0 141 [some (.ref 44), some (.int 3), some (.int (nI c)), some (.int (nI b)), none] [] T Ib Jb R
          have h4n : c ≤ b := (nI_leI (a := c) (b := b) (by omega) (by omega)).mp h4
          refine aw_iinc (v := nI (c + 1)) (L2 := [some (.ref 44), some (.int 3), some (.int (nI (c + 1))), some (.int (nI b)), none]) hC dX12_leastConflict_141 rfl (nI_inc _) (by decide) rfl ?_
          refine aw_goto (tgt := 2) hC dX12_leastConflict_144 (by decide) ?_
          refine aw_forget 3 (L2 := [some (.ref 44), some (.int 3), some (.int (nI (c + 1))), none, none]) rfl ?_
          exact ihla (by omega) Ib Jb hb (fs_z hfla (by have e9 : b = c := (by omega); rw [e9] at hflb; exact hflb))
        · show AW X 0 0 35 [some (.ref 44), some (.int 3), some (.int (nI c)), some (.int (nI b)), none] [] T Ib Jb R
          have h4n : ¬ c ≤ b := fun q9 => h4 ((nI_leI (a := c) (b := b) (by omega) (by omega)).mpr q9)
          refine aw_iload_n hC dX12_leastConflict_35 rfl ?_
          refine aw_iconst (v := 2) hC dX12_leastConflict_36 (by decide) ?_
          refine aw_icmp_le (tgt := 44) hC dX12_leastConflict_37 (by decide) (fun h5 => absurd h5 (by decide)) (fun _ => ?_)
          show AW X 0 0 40 [some (.ref 44), some (.int 3), some (.int (nI c)), some (.int (nI b)), none] [] T Ib Jb R
          refine aw_iconst (v := 0) hC dX12_leastConflict_40 (by decide) ?_
          refine aw_goto (tgt := 45) hC dX12_leastConflict_41 (by decide) ?_
          refine aw_istore (L2 := [some (.ref 44), some (.int 3), some (.int (nI c)), some (.int (nI b)), some (.int 0)]) hC dX12_leastConflict_45 (by decide) rfl ?_
          have lc : ∀ a, a ≤ b → ∀ (Ic : aI) (Jc : aJ), CI I J Ic Jc → fs (lf3 I n c b) a = 0 → AW X 0 0 47 [some (.ref 44), some (.int 3), some (.int (nI c)), some (.int (nI b)), some (.int (nI a))] [] T Ic Jc R := by
            refine a_down b (fun a hklc ihlc => ?_)
            intro Ic Jc hc hflc
            refine aw_iload hC dX12_leastConflict_47 rfl ?_
            refine aw_iload_n hC dX12_leastConflict_49 rfl ?_
            refine aw_iconst (v := 2) hC dX12_leastConflict_50 (by decide) ?_
            refine aw_icmp_le (tgt := 58) hC dX12_leastConflict_51 (by decide) (fun h6 => absurd h6 (by decide)) (fun _ => ?_)
            show AW X 0 0 54 [some (.ref 44), some (.int 3), some (.int (nI c)), some (.int (nI b)), some (.int (nI a))] [.int (nI a)] T Ic Jc R
            refine aw_iload_n hC dX12_leastConflict_54 rfl ?_
            refine aw_goto (tgt := 59) hC dX12_leastConflict_55 (by decide) ?_
            refine aw_icmp_ge (tgt := 135) hC dX12_leastConflict_59 (by decide) (fun h7 => ?_) (fun h7 => ?_)
            · show AW X 0 0 135 [some (.ref 44), some (.int 3), some (.int (nI c)), some (.int (nI b)), some (.int (nI a))] [] T Ic Jc R
              have h7n : b ≤ a := (nI_leI (a := b) (b := a) (by omega) (by omega)).mp h7
              refine aw_iinc (v := nI (b + 1)) (L2 := [some (.ref 44), some (.int 3), some (.int (nI c)), some (.int (nI (b + 1))), some (.int (nI a))]) hC dX12_leastConflict_135 rfl (nI_inc _) (by decide) rfl ?_
              refine aw_goto (tgt := 21) hC dX12_leastConflict_138 (by decide) ?_
              refine aw_forget 4 (L2 := [some (.ref 44), some (.int 3), some (.int (nI c)), some (.int (nI (b + 1))), none]) rfl ?_
              exact ihlb (by omega) Ic Jc hc (fs_z hflb (by have e9 : a = b := (by omega); rw [e9] at hflc; exact hflc))
            · show AW X 0 0 62 [some (.ref 44), some (.int 3), some (.int (nI c)), some (.int (nI b)), some (.int (nI a))] [] T Ic Jc R
              have h7n : ¬ b ≤ a := fun q9 => h7 ((nI_leI (a := b) (b := a) (by omega) (by omega)).mpr q9)
              refine aw_aload_n hC dX12_leastConflict_62 rfl ?_
              refine aw_getR hC dX12_leastConflict_63 aF_X12_163 rfl (tg_44 hT) (pr_44_62 hR) ?_
              refine aw_iload_n hC dX12_leastConflict_66 rfl ?_
              refine aw_baload_k (j := c) hC dX12_leastConflict_67 (tg_93 hT) (nI_clamp (by omega)) (vp_in_nI (by omega) (by decide)) ?_
              rw [hc.1 93 (by decide)]
              refine aw_if_eq (tgt := 129) hC dX12_leastConflict_68 (by decide) (fun h8 => ?_) (fun h8 => ?_)
              · show AW X 0 0 129 [some (.ref 44), some (.int 3), some (.int (nI c)), some (.int (nI b)), some (.int (nI a))] [] T Ic Jc R
                refine aw_iinc (v := nI (a + 1)) (L2 := [some (.ref 44), some (.int 3), some (.int (nI c)), some (.int (nI b)), some (.int (nI (a + 1)))]) hC dX12_leastConflict_129 rfl (nI_inc _) (by decide) rfl ?_
                refine aw_goto (tgt := 47) hC dX12_leastConflict_132 (by decide) ?_
                exact ihlc (by omega) Ic Jc hc (fs_z hflc (by unfold lf3; exact if_neg (fun q => by (try simp only [bI_e0, bI_d0, bI_dn, bI_n0, Classical.not_not] at *); simp_all)))
              · show AW X 0 0 71 [some (.ref 44), some (.int 3), some (.int (nI c)), some (.int (nI b)), some (.int (nI a))] [] T Ic Jc R
                refine aw_aload_n hC dX12_leastConflict_71 rfl ?_
                refine aw_iload_n hC dX12_leastConflict_72 rfl ?_
                refine kX12_290 hC rfl (m_X12_may (I := Ic) (J := Jc) hT hR (s := b) (by omega)) dX12_leastConflict_73 (tg_44 hT) rfl a_le a_le a_le a_le a_le rfl aPure_x (aPure_k ?_)
                show AW X 0 0 76 [some (.ref 44), some (.int 3), some (.int (nI c)), some (.int (nI b)), some (.int (nI a))] [.int (bI (decide (Ic 93 b ≠ 0)))] T Ic Jc R
                rw [hc.1 93 (by decide)]
                refine aw_if_eq (tgt := 129) hC dX12_leastConflict_76 (by decide) (fun h9 => ?_) (fun h9 => ?_)
                · show AW X 0 0 129 [some (.ref 44), some (.int 3), some (.int (nI c)), some (.int (nI b)), some (.int (nI a))] [] T Ic Jc R
                  refine aw_iinc (v := nI (a + 1)) (L2 := [some (.ref 44), some (.int 3), some (.int (nI c)), some (.int (nI b)), some (.int (nI (a + 1)))]) hC dX12_leastConflict_129 rfl (nI_inc _) (by decide) rfl ?_
                  refine aw_goto (tgt := 47) hC dX12_leastConflict_132 (by decide) ?_
                  exact ihlc (by omega) Ic Jc hc (fs_z hflc (by unfold lf3; exact if_neg (fun q => by (try simp only [bI_e0, bI_d0, bI_dn, bI_n0, Classical.not_not] at *); simp_all)))
                · show AW X 0 0 79 [some (.ref 44), some (.int 3), some (.int (nI c)), some (.int (nI b)), some (.int (nI a))] [] T Ic Jc R
                  refine aw_aload_n hC dX12_leastConflict_79 rfl ?_
                  refine aw_iload hC dX12_leastConflict_80 rfl ?_
                  refine kX12_290 hC rfl (m_X12_may (I := Ic) (J := Jc) hT hR (s := a) (by omega)) dX12_leastConflict_82 (tg_44 hT) rfl a_le a_le a_le a_le a_le rfl aPure_x (aPure_k ?_)
                  show AW X 0 0 85 [some (.ref 44), some (.int 3), some (.int (nI c)), some (.int (nI b)), some (.int (nI a))] [.int (bI (decide (Ic 93 a ≠ 0)))] T Ic Jc R
                  rw [hc.1 93 (by decide)]
                  refine aw_if_eq (tgt := 129) hC dX12_leastConflict_85 (by decide) (fun h10 => ?_) (fun h10 => ?_)
                  · show AW X 0 0 129 [some (.ref 44), some (.int 3), some (.int (nI c)), some (.int (nI b)), some (.int (nI a))] [] T Ic Jc R
                    refine aw_iinc (v := nI (a + 1)) (L2 := [some (.ref 44), some (.int 3), some (.int (nI c)), some (.int (nI b)), some (.int (nI (a + 1)))]) hC dX12_leastConflict_129 rfl (nI_inc _) (by decide) rfl ?_
                    refine aw_goto (tgt := 47) hC dX12_leastConflict_132 (by decide) ?_
                    exact ihlc (by omega) Ic Jc hc (fs_z hflc (by unfold lf3; exact if_neg (fun q => by (try simp only [bI_e0, bI_d0, bI_dn, bI_n0, Classical.not_not] at *); simp_all)))
                  · show AW X 0 0 88 [some (.ref 44), some (.int 3), some (.int (nI c)), some (.int (nI b)), some (.int (nI a))] [] T Ic Jc R
                    refine aw_aload_n hC dX12_leastConflict_88 rfl ?_
                    refine aw_iload hC dX12_leastConflict_89 rfl ?_
                    refine aw_iload_n hC dX12_leastConflict_91 rfl ?_
                    refine aw_iload_n hC dX12_leastConflict_92 rfl ?_
                    refine kX12_292 hC rfl (m_X12_isConflict (I := Ic) (J := Jc) (n := n) hT hR (hc.sw hS) (hc.zr hZ) (hc.gok hg) (nI a) (nI b) (nI c)) dX12_leastConflict_93 (tg_44 hT) rfl a_le a_le a_le a_le a_le rfl aRelV_x (aRelV_k (fun v9 I10 J10 hQ => ?_))
                    obtain ⟨rfl, hd9, -⟩ := hQ
                    rw [cfl_cg (hc.1 45 (by decide)) (hc.1 46 (by decide)) (hc.1 47 (by decide)) (hc.1 48 (by decide))]
                    have hc10 : CI I J I10 J10 := hc.trans hd9
                    show AW X 0 0 96 [some (.ref 44), some (.int 3), some (.int (nI c)), some (.int (nI b)), some (.int (nI a))] [.int (bI (cfl I n (al (nI a) (nI b) (nI c))))] T I10 J10 R
                    refine aw_if_eq (tgt := 129) hC dX12_leastConflict_96 (by decide) (fun h11 => ?_) (fun h11 => ?_)
                    · show AW X 0 0 129 [some (.ref 44), some (.int 3), some (.int (nI c)), some (.int (nI b)), some (.int (nI a))] [] T I10 J10 R
                      refine aw_iinc (v := nI (a + 1)) (L2 := [some (.ref 44), some (.int 3), some (.int (nI c)), some (.int (nI b)), some (.int (nI (a + 1)))]) hC dX12_leastConflict_129 rfl (nI_inc _) (by decide) rfl ?_
                      refine aw_goto (tgt := 47) hC dX12_leastConflict_132 (by decide) ?_
                      exact ihlc (by omega) I10 J10 hc10 (fs_z hflc (by unfold lf3; exact if_neg (fun q => by (try simp only [bI_e0, bI_d0, bI_dn, bI_n0, Classical.not_not] at *); simp_all)))
                    · show AW X 0 0 99 [some (.ref 44), some (.int 3), some (.int (nI c)), some (.int (nI b)), some (.int (nI a))] [] T I10 J10 R
                      refine aw_iconst (v := 1) hC dX12_leastConflict_99 (by decide) ?_
                      refine aw_iload_n hC dX12_leastConflict_100 rfl ?_
                      refine aw_ishl hC dX12_leastConflict_101 ?_
                      refine aw_iload_n hC dX12_leastConflict_102 rfl ?_
                      refine aw_if_ge (tgt := 110) hC dX12_leastConflict_103 (by decide) (fun h12 => ?_) (fun h12 => ?_)
                      · show AW X 0 0 110 [some (.ref 44), some (.int 3), some (.int (nI c)), some (.int (nI b)), some (.int (nI a))] [.int (1 <<< ((nI c) &&& 31))] T I10 J10 R
                        have h12n : 0 ≤ b := (nI_leI (a := 0) (b := b) (by omega) (by omega)).mp h12
                        refine aw_iconst (v := 1) hC dX12_leastConflict_110 (by decide) ?_
                        refine aw_iload_n hC dX12_leastConflict_111 rfl ?_
                        refine aw_ishl hC dX12_leastConflict_112 ?_
                        refine aw_ior hC dX12_leastConflict_113 ?_
                        refine aw_iload hC dX12_leastConflict_114 rfl ?_
                        refine aw_if_ge (tgt := 123) hC dX12_leastConflict_116 (by decide) (fun h13 => ?_) (fun h13 => ?_)
                        · show AW X 0 0 123 [some (.ref 44), some (.int 3), some (.int (nI c)), some (.int (nI b)), some (.int (nI a))] [.int ((1 <<< ((nI c) &&& 31)) ||| (1 <<< ((nI b) &&& 31)))] T I10 J10 R
                          have h13n : 0 ≤ a := (nI_leI (a := 0) (b := a) (by omega) (by omega)).mp h13
                          refine aw_iconst (v := 1) hC dX12_leastConflict_123 (by decide) ?_
                          refine aw_iload hC dX12_leastConflict_124 rfl ?_
                          refine aw_ishl hC dX12_leastConflict_126 ?_
                          refine aw_ior hC dX12_leastConflict_127 ?_
                          exact aw_ireturn hC hq rfl dX12_leastConflict_128 a_le a_le (by first | (exfalso; omega) | exact ⟨_, rfl, rfl, rfl, by rw [lc3]; exact congrArg (fun z => some (Value.int z)) (fs_f hfla (fs_f hflb (fs_f hflc (by unfold lf3; rw [if_pos ⟨⟨by assumption, bI_dn.mp (by assumption : ¬ bI (decide (I 93 b ≠ 0)) = 0), bI_dn.mp (by assumption : ¬ bI (decide (I 93 a ≠ 0)) = 0)⟩, bI_n0.mp (by assumption)⟩]; rfl) (by rw [Int32.or_assoc]; exact bit_nz (by omega) _) b (by omega)) (by rw [Int32.or_assoc]; exact bit_nz (by omega) _) c (by omega)) (by rw [Int32.or_assoc]; exact bit_nz (by omega) _) n (by omega)).symm, hc10⟩)
                        · show AW X 0 0 119 [some (.ref 44), some (.int 3), some (.int (nI c)), some (.int (nI b)), some (.int (nI a))] [.int ((1 <<< ((nI c) &&& 31)) ||| (1 <<< ((nI b) &&& 31)))] T I10 J10 R
                          have h13n : ¬ 0 ≤ a := fun q9 => h13 ((nI_leI (a := 0) (b := a) (by omega) (by omega)).mpr q9)
                          refine aw_iconst (v := 0) hC dX12_leastConflict_119 (by decide) ?_
                          refine aw_goto (tgt := 127) hC dX12_leastConflict_120 (by decide) ?_
                          refine aw_ior hC dX12_leastConflict_127 ?_
                          exact aw_ireturn hC hq rfl dX12_leastConflict_128 a_le a_le (by first | (exfalso; omega) | exact ⟨_, rfl, rfl, rfl, by rw [lc3]; exact congrArg (fun z => some (Value.int z)) (fs_f hfla (fs_f hflb (fs_f hflc (by unfold lf3; rw [if_pos ⟨⟨by assumption, bI_dn.mp (by assumption : ¬ bI (decide (I 93 b ≠ 0)) = 0), bI_dn.mp (by assumption : ¬ bI (decide (I 93 a ≠ 0)) = 0)⟩, bI_n0.mp (by assumption)⟩]; rfl) (by rw [Int32.or_assoc]; exact bit_nz (by omega) _) b (by omega)) (by rw [Int32.or_assoc]; exact bit_nz (by omega) _) c (by omega)) (by rw [Int32.or_assoc]; exact bit_nz (by omega) _) n (by omega)).symm, hc10⟩)
                      · show AW X 0 0 106 [some (.ref 44), some (.int 3), some (.int (nI c)), some (.int (nI b)), some (.int (nI a))] [.int (1 <<< ((nI c) &&& 31))] T I10 J10 R
                        have h12n : ¬ 0 ≤ b := fun q9 => h12 ((nI_leI (a := 0) (b := b) (by omega) (by omega)).mpr q9)
                        refine aw_iconst (v := 0) hC dX12_leastConflict_106 (by decide) ?_
                        refine aw_goto (tgt := 113) hC dX12_leastConflict_107 (by decide) ?_
                        refine aw_ior hC dX12_leastConflict_113 ?_
                        refine aw_iload hC dX12_leastConflict_114 rfl ?_
                        refine aw_if_ge (tgt := 123) hC dX12_leastConflict_116 (by decide) (fun h14 => ?_) (fun h14 => ?_)
                        · show AW X 0 0 123 [some (.ref 44), some (.int 3), some (.int (nI c)), some (.int (nI b)), some (.int (nI a))] [.int ((1 <<< ((nI c) &&& 31)) ||| 0)] T I10 J10 R
                          have h14n : 0 ≤ a := (nI_leI (a := 0) (b := a) (by omega) (by omega)).mp h14
                          refine aw_iconst (v := 1) hC dX12_leastConflict_123 (by decide) ?_
                          refine aw_iload hC dX12_leastConflict_124 rfl ?_
                          refine aw_ishl hC dX12_leastConflict_126 ?_
                          refine aw_ior hC dX12_leastConflict_127 ?_
                          exact aw_ireturn hC hq rfl dX12_leastConflict_128 a_le a_le (by first | (exfalso; omega) | exact ⟨_, rfl, rfl, rfl, by rw [lc3]; exact congrArg (fun z => some (Value.int z)) (fs_f hfla (fs_f hflb (fs_f hflc (by unfold lf3; rw [if_pos ⟨⟨by assumption, bI_dn.mp (by assumption : ¬ bI (decide (I 93 b ≠ 0)) = 0), bI_dn.mp (by assumption : ¬ bI (decide (I 93 a ≠ 0)) = 0)⟩, bI_n0.mp (by assumption)⟩]; rfl) (by rw [Int32.or_assoc]; exact bit_nz (by omega) _) b (by omega)) (by rw [Int32.or_assoc]; exact bit_nz (by omega) _) c (by omega)) (by rw [Int32.or_assoc]; exact bit_nz (by omega) _) n (by omega)).symm, hc10⟩)
                        · show AW X 0 0 119 [some (.ref 44), some (.int 3), some (.int (nI c)), some (.int (nI b)), some (.int (nI a))] [.int ((1 <<< ((nI c) &&& 31)) ||| 0)] T I10 J10 R
                          have h14n : ¬ 0 ≤ a := fun q9 => h14 ((nI_leI (a := 0) (b := a) (by omega) (by omega)).mpr q9)
                          refine aw_iconst (v := 0) hC dX12_leastConflict_119 (by decide) ?_
                          refine aw_goto (tgt := 127) hC dX12_leastConflict_120 (by decide) ?_
                          refine aw_ior hC dX12_leastConflict_127 ?_
                          exact aw_ireturn hC hq rfl dX12_leastConflict_128 a_le a_le (by first | (exfalso; omega) | exact ⟨_, rfl, rfl, rfl, by rw [lc3]; exact congrArg (fun z => some (Value.int z)) (fs_f hfla (fs_f hflb (fs_f hflc (by unfold lf3; rw [if_pos ⟨⟨by assumption, bI_dn.mp (by assumption : ¬ bI (decide (I 93 b ≠ 0)) = 0), bI_dn.mp (by assumption : ¬ bI (decide (I 93 a ≠ 0)) = 0)⟩, bI_n0.mp (by assumption)⟩]; rfl) (by rw [Int32.or_assoc]; exact bit_nz (by omega) _) b (by omega)) (by rw [Int32.or_assoc]; exact bit_nz (by omega) _) c (by omega)) (by rw [Int32.or_assoc]; exact bit_nz (by omega) _) n (by omega)).symm, hc10⟩)
          exact lc 0 (Nat.zero_le _) Ib Jb hb rfl
      exact lb 0 (Nat.zero_le _) Ia Ja ha rfl
  exact la 0 (Nat.zero_le _) I J (CI.refl hZ) rfl
