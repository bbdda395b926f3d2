/-- a call whose answer stands in what holds afterwards -/
def aRelV (Q : Option Value → aI → aJ → Prop) (T : List aT) (R : aR) : aP := fun o T2 I2 J2 R2 => ∃ v, o = .inl v ∧ T2 = T ∧ R2 = R ∧ Q v I2 J2
theorem aRelV_x {Q : Option Value → aI → aJ → Prop} {T0 : List aT} {X : aX} {c s pc : Nat} {L : List (Option Value)} {T : List aT} {R : aR} : ∀ (E : String) (T2 : List aT) (I2 : aI) (J2 : aJ) (R2 : aR), T0 <+: T2 → aRelV Q T R (.inr E) T2 I2 J2 R2 → AE X c s pc L E T2 I2 J2 R2 := fun _ _ _ _ _ _ h => nomatch h.choose_spec.1
theorem aRelV_k {Q : Option Value → aI → aJ → Prop} {T0 : List aT} {X : aX} {c s pc : Nat} {L : List (Option Value)} {st : List Value} {T : List aT} {R : aR} (k : ∀ (v : Option Value) (I2 : aI) (J2 : aJ), Q v I2 J2 → AW X c s pc L (v.toList ++ st) T I2 J2 R) : ∀ (v2 : Option Value) (T2 : List aT) (I2 : aI) (J2 : aJ) (R2 : aR), T0 <+: T2 → aRelV Q T R (.inl v2) T2 I2 J2 R2 → AW X c s pc L (v2.toList ++ st) T2 I2 J2 R2 := by
  rintro v2 T2 I2 J2 R2 - ⟨v, h, rfl, rfl, hQ⟩
  cases h
  exact k _ I2 J2 hQ
abbrev plRow (I : aI) (p k : Nat) : Nat → Int32 := fun j => if 128 * p ≤ j ∧ j < 128 * p + k then I 92 (j - 128 * p) else I 80 j
abbrev plS (I : aI) (p l : Nat) (x : Int32) : aI := a_u (a_ur (a_u (a_u (a_u (a_u I 44 61 0) 75 p x) 76 p (I 44 35)) 79 p (nI l)) 80 (plRow I p l)) 44 36 (nI (p + 1))
theorem pl_put {I : aI} {p k : Nat} (j : Nat) : (if j = 128 * p + k then I 92 k else plRow I p k j) = plRow I p (k + 1) j := by
  simp only [plRow]
  by_cases e : j = 128 * p + k
  · subst e; rw [if_pos rfl, if_pos (by omega), show 128 * p + k - 128 * p = k by omega]
  · rw [if_neg e]
    by_cases c : 128 * p ≤ j ∧ j < 128 * p + k
    · rw [if_pos c, if_pos (by omega)]
    · rw [if_neg c, if_neg (by omega)]
set_option maxRecDepth 100000 in
theorem m_X12_planT {T : List aT} {I : aI} {J : aJ} {R : aR} (hT : aPT T) (hR : aPR R) {n g : Nat} (hS : SW I n) (hZ : Zr J) (hg : GW I g) {p : Nat} (hp : I 44 36 = nI p) (hp9 : p < 40) (x : Int32) (hx : 0 ≤ x ∧ x ≤ 2) : MX12_plan 0 0 [.ref 44, .int x] T I J R (aRel (fun I3 _ => some (.int (if I3 44 61 = 0 then nI p else 0))) (fun I3 J2 => ∃ I2, PlR I I2 J J2 n g ∧ I3 = if cP I2 J2 n g = true then plS I2 p (allA I2 (16 * g)).length x else a_u I2 44 61 2) T R) := by
  refine a_met (by decide +kernel) a_le (fun X hC hq => ?_)
  show AW X 0 0 0 [some (.ref 44), some (.int x), none] [] T I J R
  refine aw_aload_n hC dX12_plan_0 rfl ?_
  refine aw_iload_n hC dX12_plan_1 rfl ?_
  refine kX12_380 hC rfl (m_X12_isTeam x) dX12_plan_2 rfl a_le a_le a_le a_le a_le rfl aPure_x (aPure_k ?_)
  show AW X 0 0 5 [some (.ref 44), some (.int x), none] [.int (bI (decide (0 ≤ x ∧ x ≤ 2))), .ref 44] T I J R
  rw [show bI (decide (0 ≤ x ∧ x ≤ 2)) = 1 from bI_one hx]
  refine aw_if_ne (tgt := 12) hC dX12_plan_5 (by decide) (fun _ => ?_) (fun h1 => absurd h1 (by decide))
  show AW X 0 0 12 [some (.ref 44), some (.int x), none] [.ref 44] T I J R
  refine aw_aload_n hC dX12_plan_12 rfl ?_
  refine aw_getI hC dX12_plan_13 aF_X12_383 rfl (tg_44 hT) ?_
  rw [hp]
  refine aw_bipush (v := 40) hC dX12_plan_16 (by decide) ?_
  refine aw_icmp_eq (tgt := 28) hC dX12_plan_18 (by decide) (fun h2 => ?_) (fun h2 => ?_)
  · show AW X 0 0 28 [some (.ref 44), some (.int x), none] [.ref 44] T I J R
    have h2n : p = 40 := (nI_eq (a := p) (b := 40) (by omega) (by omega)).mp h2
    refine aw_iconst (v := 2) hC dX12_plan_28 (by decide) ?_
    refine aw_goto (tgt := 33) hC dX12_plan_29 (by decide) ?_
    refine aw_putI hC dX12_plan_33 aF_X12_166 rfl rfl (tg_44 hT) ?_
    refine aw_aload_n hC dX12_plan_36 rfl ?_
    refine aw_getI hC dX12_plan_37 aF_X12_166 rfl (tg_44 hT) ?_
    rw [a_u_self (f := I) (o := 44) (k := 61) (v := 2)]
    refine aw_if_le (tgt := 45) hC dX12_plan_40 (by decide) (fun h3 => absurd h3 (by decide)) (fun _ => ?_)
    show AW X 0 0 43 [some (.ref 44), some (.int x), none] [] T (a_u I 44 61 2) J R
    refine aw_iconst (v := 0) hC dX12_plan_43 (by decide) ?_
    exact aw_ireturn hC hq rfl dX12_plan_44 a_le a_le (by exfalso; first | omega | contradiction | (simp_all; done))
  · show AW X 0 0 21 [some (.ref 44), some (.int x), none] [.ref 44] T I J R
    have h2n : ¬ p = 40 := fun q9 => h2 ((nI_eq (a := p) (b := 40) (by omega) (by omega)).mpr q9)
    refine aw_aload_n hC dX12_plan_21 rfl ?_
    refine kX12_377 hC rfl (m_X12_plansNow (I := I) (J := J) (n := n) (g := g) hT hR hS hZ hg) dX12_plan_22 (tg_44 hT) rfl a_le a_le a_le a_le a_le rfl aRel_x (aRel_k (fun I2 J2 hQ => ?_))
    have hPl : PlR (I) I2 J J2 n g := hQ
    have hg2 := hPl.gw hg
    have hf2 : ∀ o, o ≠ 44 ∧ o ≠ 83 ∧ o ≠ 84 ∧ o ≠ 85 ∧ o ≠ 86 ∧ o ≠ 91 ∧ o ≠ 92 → I2 o = I o := fun o ho => (hPl.fr o ho)
    have hli := hPl.list
    have hle := allA_le I2 (16 * g)
    have hg4 := hg.g4
    obtain ⟨A, hA9⟩ : ∃ A, A = allA I2 (16 * g) := ⟨_, rfl⟩
    rw [← hA9] at hli hle
    show AW X 0 0 25 [some (.ref 44), some (.int x), none] [.int (bI (cP I2 J2 n g)), .ref 44] T I2 J2 R
    refine aw_if_ne (tgt := 32) hC dX12_plan_25 (by decide) (fun h4 => ?_) (fun h4 => ?_)
    · show AW X 0 0 32 [some (.ref 44), some (.int x), none] [.ref 44] T I2 J2 R
      refine aw_iconst (v := 0) hC dX12_plan_32 (by decide) ?_
      refine aw_putI hC dX12_plan_33 aF_X12_166 rfl rfl (tg_44 hT) ?_
      refine aw_aload_n hC dX12_plan_36 rfl ?_
      refine aw_getI hC dX12_plan_37 aF_X12_166 rfl (tg_44 hT) ?_
      rw [a_u_self (f := I2) (o := 44) (k := 61) (v := 0)]
      refine aw_if_le (tgt := 45) hC dX12_plan_40 (by decide) (fun _ => ?_) (fun h5 => absurd h5 (by decide))
      show AW X 0 0 45 [some (.ref 44), some (.int x), none] [] T (a_u I2 44 61 0) J2 R
      refine aw_aload_n hC dX12_plan_45 rfl ?_
      refine aw_getR hC dX12_plan_46 aF_X12_101 rfl (tg_44 hT) (pr_44_37 hR) ?_
      refine aw_aload_n hC dX12_plan_49 rfl ?_
      refine aw_getI hC dX12_plan_50 aF_X12_383 rfl (tg_44 hT) ?_
      rw [a_u_ne (f := I2) (o := 44) (k := 61) (a := 44) (b := 36) (v := 0) (fun q => absurd q.2 (by decide))]
      rw [(hPl.f44 (k := 36) (by decide) (by decide) (by decide)).trans hp]
      refine aw_iload_n hC dX12_plan_53 rfl ?_
      refine aw_iastore_k (j := p) hC dX12_plan_54 (tg_75 hT) (nI_clamp (by omega)) (vp_in_nI (by omega) (by decide)) ?_
      refine aw_aload_n hC dX12_plan_55 rfl ?_
      refine aw_getR hC dX12_plan_56 aF_X12_104 rfl (tg_44 hT) (pr_44_38 hR) ?_
      refine aw_aload_n hC dX12_plan_59 rfl ?_
      refine aw_getI hC dX12_plan_60 aF_X12_383 rfl (tg_44 hT) ?_
      rw [a_u_ne (f := a_u I2 44 61 0) (o := 75) (k := p) (a := 44) (b := 36) (v := x) (fun q => absurd q.1 (by decide))]
      rw [a_u_ne (f := I2) (o := 44) (k := 61) (a := 44) (b := 36) (v := 0) (fun q => absurd q.2 (by decide))]
      rw [(hPl.f44 (k := 36) (by decide) (by decide) (by decide)).trans hp]
      refine aw_aload_n hC dX12_plan_63 rfl ?_
      refine aw_getI hC dX12_plan_64 aF_X12_343 rfl (tg_44 hT) ?_
      rw [a_u_ne (f := a_u I2 44 61 0) (o := 75) (k := p) (a := 44) (b := 35) (v := x) (fun q => absurd q.1 (by decide))]
      rw [a_u_ne (f := I2) (o := 44) (k := 61) (a := 44) (b := 35) (v := 0) (fun q => absurd q.2 (by decide))]
      refine aw_iastore_k (j := p) hC dX12_plan_67 (tg_76 hT) (nI_clamp (by omega)) (vp_in_nI (by omega) (by decide)) ?_
      refine aw_aload_n hC dX12_plan_68 rfl ?_
      refine aw_getR hC dX12_plan_69 aF_X12_113 rfl (tg_44 hT) (pr_44_41 hR) ?_
      refine aw_aload_n hC dX12_plan_72 rfl ?_
      refine aw_getI hC dX12_plan_73 aF_X12_383 rfl (tg_44 hT) ?_
      rw [a_u_ne (f := a_u (a_u I2 44 61 0) 75 p x) (o := 76) (k := p) (a := 44) (b := 36) (v := I2 44 35) (fun q => absurd q.1 (by decide))]
      rw [a_u_ne (f := a_u I2 44 61 0) (o := 75) (k := p) (a := 44) (b := 36) (v := x) (fun q => absurd q.1 (by decide))]
      rw [a_u_ne (f := I2) (o := 44) (k := 61) (a := 44) (b := 36) (v := 0) (fun q => absurd q.2 (by decide))]
      rw [(hPl.f44 (k := 36) (by decide) (by decide) (by decide)).trans hp]
      refine aw_aload_n hC dX12_plan_76 rfl ?_
      refine aw_getI hC dX12_plan_77 aF_X12_361 rfl (tg_44 hT) ?_
      rw [a_u_ne (f := a_u (a_u I2 44 61 0) 75 p x) (o := 76) (k := p) (a := 44) (b := 59) (v := I2 44 35) (fun q => absurd q.1 (by decide))]
      rw [a_u_ne (f := a_u I2 44 61 0) (o := 75) (k := p) (a := 44) (b := 59) (v := x) (fun q => absurd q.1 (by decide))]
      rw [a_u_ne (f := I2) (o := 44) (k := 61) (a := 44) (b := 59) (v := 0) (fun q => absurd q.2 (by decide))]
      rw [hli.1]
      refine aw_iastore_k (j := p) hC dX12_plan_80 (tg_79 hT) (nI_clamp (by omega)) (vp_in_nI (by omega) (by decide)) ?_
      refine aw_iconst (v := 0) hC dX12_plan_81 (by decide) ?_
      refine aw_istore_n (L2 := [some (.ref 44), some (.int x), some (.int 0)]) hC dX12_plan_82 rfl (by decide) rfl ?_
      have hA128 : A.length ≤ 128 := by omega
      rw [show a_u (a_u (a_u (a_u I2 44 61 0) 75 p x) 76 p (I2 44 35)) 79 p (nI A.length) = a_ur (a_u (a_u (a_u (a_u I2 44 61 0) 75 p x) 76 p (I2 44 35)) 79 p (nI A.length)) 80 (plRow I2 p 0) from (a_ur_id (fun j => by (try simp only []); simp only [plRow]; rw [if_neg (by omega)]; rw [a_u_row (by decide), a_u_row (by decide), a_u_row (by decide), a_u_row (by decide)])).symm]
      have loop : ∀ k, k ≤ A.length → AW X 0 0 83 [some (.ref 44), some (.int x), some (.int (nI k))] [] T (a_ur (a_u (a_u (a_u (a_u I2 44 61 0) 75 p x) 76 p (I2 44 35)) 79 p (nI A.length)) 80 (plRow I2 p k)) J2 R := by
        refine a_down A.length (fun k hkloop ihloop => ?_)
        refine aw_iload_n hC dX12_plan_83 rfl ?_
        refine aw_aload_n hC dX12_plan_84 rfl ?_
        refine aw_getI hC dX12_plan_85 aF_X12_361 rfl (tg_44 hT) ?_
        rw [a_ur_ne (f := a_u (a_u (a_u (a_u I2 44 61 0) 75 p x) 76 p (I2 44 35)) 79 p (nI A.length)) (o := 80) (a := 44) (g := plRow I2 p k) (by decide)]
        rw [a_u_ne (f := a_u (a_u (a_u I2 44 61 0) 75 p x) 76 p (I2 44 35)) (o := 79) (k := p) (a := 44) (b := 59) (v := nI A.length) (fun q => absurd q.1 (by decide))]
        rw [a_u_ne (f := a_u (a_u I2 44 61 0) 75 p x) (o := 76) (k := p) (a := 44) (b := 59) (v := I2 44 35) (fun q => absurd q.1 (by decide))]
        rw [a_u_ne (f := a_u I2 44 61 0) (o := 75) (k := p) (a := 44) (b := 59) (v := x) (fun q => absurd q.1 (by decide))]
        rw [a_u_ne (f := I2) (o := 44) (k := 61) (a := 44) (b := 59) (v := 0) (fun q => absurd q.2 (by decide))]
        rw [hli.1]
        refine aw_icmp_ge (tgt := 118) hC dX12_plan_88 (by decide) (fun h6 => ?_) (fun h6 => ?_)
        · show AW X 0 0 118 [some (.ref 44), some (.int x), some (.int (nI k))] [] T (a_ur (a_u (a_u (a_u (a_u I2 44 61 0) 75 p x) 76 p (I2 44 35)) 79 p (nI A.length)) 80 (plRow I2 p k)) J2 R
          have h6n : A.length ≤ k := (nI_leI (a := A.length) (b := k) (by omega) (by omega)).mp h6
          refine aw_aload_n hC dX12_plan_118 rfl ?_
          refine aw_dup hC dX12_plan_119 rfl ?_
          refine aw_getI hC dX12_plan_120 aF_X12_383 rfl (tg_44 hT) ?_
          rw [a_ur_ne (f := a_u (a_u (a_u (a_u I2 44 61 0) 75 p x) 76 p (I2 44 35)) 79 p (nI A.length)) (o := 80) (a := 44) (g := plRow I2 p k) (by decide)]
          rw [a_u_ne (f := a_u (a_u (a_u I2 44 61 0) 75 p x) 76 p (I2 44 35)) (o := 79) (k := p) (a := 44) (b := 36) (v := nI A.length) (fun q => absurd q.1 (by decide))]
          rw [a_u_ne (f := a_u (a_u I2 44 61 0) 75 p x) (o := 76) (k := p) (a := 44) (b := 36) (v := I2 44 35) (fun q => absurd q.1 (by decide))]
          rw [a_u_ne (f := a_u I2 44 61 0) (o := 75) (k := p) (a := 44) (b := 36) (v := x) (fun q => absurd q.1 (by decide))]
          rw [a_u_ne (f := I2) (o := 44) (k := 61) (a := 44) (b := 36) (v := 0) (fun q => absurd q.2 (by decide))]
          rw [(hPl.f44 (k := 36) (by decide) (by decide) (by decide)).trans hp]
          refine aw_iconst (v := 1) hC dX12_plan_123 (by decide) ?_
          refine aw_iadd hC dX12_plan_124 ?_
          rw [show (nI p) + 1 = nI (p + 1) from nI_add p 1]
          refine aw_putI hC dX12_plan_125 aF_X12_383 rfl rfl (tg_44 hT) ?_
          refine aw_aload_n hC dX12_plan_128 rfl ?_
          refine aw_getI hC dX12_plan_129 aF_X12_383 rfl (tg_44 hT) ?_
          rw [a_u_self (f := a_ur (a_u (a_u (a_u (a_u I2 44 61 0) 75 p x) 76 p (I2 44 35)) 79 p (nI A.length)) 80 (plRow I2 p k)) (o := 44) (k := 36) (v := nI (p + 1))]
          refine aw_iconst (v := 1) hC dX12_plan_132 (by decide) ?_
          refine aw_isub hC dX12_plan_133 ?_
          rw [show (nI (p + 1)) - 1 = nI ((p + 1) - 1) from pk_sub (a := (p + 1)) (b := 1) (by omega)]
          exact aw_ireturn hC hq rfl dX12_plan_134 a_le a_le ⟨by dsimp only; rw [a_u_ne (by decide), a_ur_ne (by decide), a_u_row (by decide), a_u_row (by decide), a_u_row (by decide), a_u_self, if_pos rfl]; rfl, rfl, rfl, I2, hPl, by rw [if_pos (bI_n0.mp (by assumption)), ← hA9, show k = A.length from by omega]⟩
        · show AW X 0 0 91 [some (.ref 44), some (.int x), some (.int (nI k))] [] T (a_ur (a_u (a_u (a_u (a_u I2 44 61 0) 75 p x) 76 p (I2 44 35)) 79 p (nI A.length)) 80 (plRow I2 p k)) J2 R
          have h6n : ¬ A.length ≤ k := fun q9 => h6 ((nI_leI (a := A.length) (b := k) (by omega) (by omega)).mpr q9)
          refine aw_aload_n hC dX12_plan_91 rfl ?_
          refine aw_getR hC dX12_plan_92 aF_X12_116 rfl (tg_44 hT) (pr_44_42 hR) ?_
          refine aw_sipush (v := 128) hC dX12_plan_95 (by decide) ?_
          refine aw_aload_n hC dX12_plan_98 rfl ?_
          refine aw_getI hC dX12_plan_99 aF_X12_383 rfl (tg_44 hT) ?_
          rw [a_ur_ne (f := a_u (a_u (a_u (a_u I2 44 61 0) 75 p x) 76 p (I2 44 35)) 79 p (nI A.length)) (o := 80) (a := 44) (g := plRow I2 p k) (by decide)]
          rw [a_u_ne (f := a_u (a_u (a_u I2 44 61 0) 75 p x) 76 p (I2 44 35)) (o := 79) (k := p) (a := 44) (b := 36) (v := nI A.length) (fun q => absurd q.1 (by decide))]
          rw [a_u_ne (f := a_u (a_u I2 44 61 0) 75 p x) (o := 76) (k := p) (a := 44) (b := 36) (v := I2 44 35) (fun q => absurd q.1 (by decide))]
          rw [a_u_ne (f := a_u I2 44 61 0) (o := 75) (k := p) (a := 44) (b := 36) (v := x) (fun q => absurd q.1 (by decide))]
          rw [a_u_ne (f := I2) (o := 44) (k := 61) (a := 44) (b := 36) (v := 0) (fun q => absurd q.2 (by decide))]
          rw [(hPl.f44 (k := 36) (by decide) (by decide) (by decide)).trans hp]
          refine aw_imul hC dX12_plan_102 ?_
          rw [show 128 * (nI p) = nI (128 * p) from pk_mul 128 p]
          refine aw_iload_n hC dX12_plan_103 rfl ?_
          refine aw_iadd hC dX12_plan_104 ?_
          rw [show (nI (128 * p)) + (nI k) = nI ((128 * p) + k) from nI_add (128 * p) k]
          refine aw_aload_n hC dX12_plan_105 rfl ?_
          refine aw_getR hC dX12_plan_106 aF_X12_160 rfl (tg_44 hT) (pr_44_60 hR) ?_
          refine aw_iload_n hC dX12_plan_109 rfl ?_
          refine aw_iaload_k (j := k) hC dX12_plan_110 (tg_92 hT) (nI_clamp (by omega)) (vp_in_nI (by omega) (by decide)) ?_
          rw [a_ur_ne (f := a_u (a_u (a_u (a_u I2 44 61 0) 75 p x) 76 p (I2 44 35)) 79 p (nI A.length)) (o := 80) (a := 92) (g := plRow I2 p k) (by decide)]
          rw [a_u_ne (f := a_u (a_u (a_u I2 44 61 0) 75 p x) 76 p (I2 44 35)) (o := 79) (k := p) (a := 92) (b := k) (v := nI A.length) (fun q => absurd q.1 (by decide))]
          rw [a_u_ne (f := a_u (a_u I2 44 61 0) 75 p x) (o := 76) (k := p) (a := 92) (b := k) (v := I2 44 35) (fun q => absurd q.1 (by decide))]
          rw [a_u_ne (f := a_u I2 44 61 0) (o := 75) (k := p) (a := 92) (b := k) (v := x) (fun q => absurd q.1 (by decide))]
          rw [a_u_ne (f := I2) (o := 44) (k := 61) (a := 92) (b := k) (v := 0) (fun q => absurd q.1 (by decide))]
          refine aw_iastore_k (j := ((128 * p) + k)) hC dX12_plan_111 (tg_80 hT) (nI_clamp (by omega)) (vp_in_nI (by omega) (by decide)) ?_
          refine aw_iinc (v := nI (k + 1)) (L2 := [some (.ref 44), some (.int x), some (.int (nI (k + 1)))]) hC dX12_plan_112 rfl (nI_inc _) (by decide) rfl ?_
          refine aw_goto (tgt := 83) hC dX12_plan_115 (by decide) ?_
          rw [show a_u (a_ur (a_u (a_u (a_u (a_u I2 44 61 0) 75 p x) 76 p (I2 44 35)) 79 p (nI A.length)) 80 (plRow I2 p k)) 80 ((128 * p) + k) (I2 92 k) = a_ur (a_u (a_u (a_u (a_u I2 44 61 0) 75 p x) 76 p (I2 44 35)) 79 p (nI A.length)) 80 (plRow I2 p (k + 1)) from by rw [a_ur_put]; exact a_ur_ext (fun j => by exact pl_put j)]
          exact ihloop (by omega)
      exact loop 0 (Nat.zero_le _)
    · show AW X 0 0 28 [some (.ref 44), some (.int x), none] [.ref 44] T I2 J2 R
      refine aw_iconst (v := 2) hC dX12_plan_28 (by decide) ?_
      refine aw_goto (tgt := 33) hC dX12_plan_29 (by decide) ?_
      refine aw_putI hC dX12_plan_33 aF_X12_166 rfl rfl (tg_44 hT) ?_
      refine aw_aload_n hC dX12_plan_36 rfl ?_
      refine aw_getI hC dX12_plan_37 aF_X12_166 rfl (tg_44 hT) ?_
      rw [a_u_self (f := I2) (o := 44) (k := 61) (v := 2)]
      refine aw_if_le (tgt := 45) hC dX12_plan_40 (by decide) (fun h7 => absurd h7 (by decide)) (fun _ => ?_)
      show AW X 0 0 43 [some (.ref 44), some (.int x), none] [] T (a_u I2 44 61 2) J2 R
      refine aw_iconst (v := 0) hC dX12_plan_43 (by decide) ?_
      exact aw_ireturn hC hq rfl dX12_plan_44 a_le a_le ⟨by dsimp only; rw [a_u_self]; rfl, rfl, rfl, I2, hPl, (if_neg (fun q => absurd (by assumption) (bI_n0.mpr q))).symm⟩
set_option maxRecDepth 100000 in
theorem m_X12_planF1 {T : List aT} {I : aI} {J : aJ} {R : aR} (hT : aPT T) (hR : aPR R) (x : Int32) (hx : ¬ (0 ≤ x ∧ x ≤ 2)) : MX12_plan 0 0 [.ref 44, .int x] T I J R (aPure (some (.int (0))) T (a_u I 44 61 1) J R) := by
  refine a_met (by decide +kernel) a_le (fun X hC hq => ?_)
  show AW X 0 0 0 [some (.ref 44), some (.int x), none] [] T I J R
  refine aw_aload_n hC dX12_plan_0 rfl ?_
  refine aw_iload_n hC dX12_plan_1 rfl ?_
  refine kX12_380 hC rfl (m_X12_isTeam x) dX12_plan_2 rfl a_le a_le a_le a_le a_le rfl aPure_x (aPure_k ?_)
  show AW X 0 0 5 [some (.ref 44), some (.int x), none] [.int (bI (decide (0 ≤ x ∧ x ≤ 2))), .ref 44] T I J R
  rw [show bI (decide (0 ≤ x ∧ x ≤ 2)) = 0 from bI_zero hx]
  refine aw_if_ne (tgt := 12) hC dX12_plan_5 (by decide) (fun h1 => absurd h1 (by decide)) (fun _ => ?_)
  show AW X 0 0 8 [some (.ref 44), some (.int x), none] [.ref 44] T I J R
  refine aw_iconst (v := 1) hC dX12_plan_8 (by decide) ?_
  refine aw_goto (tgt := 33) hC dX12_plan_9 (by decide) ?_
  refine aw_putI hC dX12_plan_33 aF_X12_166 rfl rfl (tg_44 hT) ?_
  refine aw_aload_n hC dX12_plan_36 rfl ?_
  refine aw_getI hC dX12_plan_37 aF_X12_166 rfl (tg_44 hT) ?_
  rw [a_u_self (f := I) (o := 44) (k := 61) (v := 1)]
  refine aw_if_le (tgt := 45) hC dX12_plan_40 (by decide) (fun h2 => absurd h2 (by decide)) (fun _ => ?_)
  show AW X 0 0 43 [some (.ref 44), some (.int x), none] [] T (a_u I 44 61 1) J R
  refine aw_iconst (v := 0) hC dX12_plan_43 (by decide) ?_
  exact aw_ireturn hC hq rfl dX12_plan_44 a_le a_le (aPure_e (by clear hC hq; (try simp only [bI_e0, bI_n0, decide_eq_false_iff_not, decide_eq_true_eq, Classical.not_not] at *) <;> first | grind [nI_p1, a_u_2] | (exfalso; (simp only [i_le, i_lt, i_eq, Int32.reduceToInt] at *); omega)) (by clear hC hq; (try simp only [bI_e0, bI_n0, decide_eq_false_iff_not, decide_eq_true_eq, Classical.not_not] at *) <;> first | grind [nI_p1, a_u_2] | (exfalso; (simp only [i_le, i_lt, i_eq, Int32.reduceToInt] at *); omega)) rfl rfl)
set_option maxRecDepth 100000 in
theorem m_X12_planF2 {T : List aT} {I : aI} {J : aJ} {R : aR} (hT : aPT T) (hR : aPR R) (hp : I 44 36 = nI 40) (x : Int32) (hx : 0 ≤ x ∧ x ≤ 2) : MX12_plan 0 0 [.ref 44, .int x] T I J R (aPure (some (.int (0))) T (a_u I 44 61 2) J R) := by
  refine a_met (by decide +kernel) a_le (fun X hC hq => ?_)
  show AW X 0 0 0 [some (.ref 44), some (.int x), none] [] T I J R
  refine aw_aload_n hC dX12_plan_0 rfl ?_
  refine aw_iload_n hC dX12_plan_1 rfl ?_
  refine kX12_380 hC rfl (m_X12_isTeam x) dX12_plan_2 rfl a_le a_le a_le a_le a_le rfl aPure_x (aPure_k ?_)
  show AW X 0 0 5 [some (.ref 44), some (.int x), none] [.int (bI (decide (0 ≤ x ∧ x ≤ 2))), .ref 44] T I J R
  rw [show bI (decide (0 ≤ x ∧ x ≤ 2)) = 1 from bI_one hx]
  refine aw_if_ne (tgt := 12) hC dX12_plan_5 (by decide) (fun _ => ?_) (fun h1 => absurd h1 (by decide))
  show AW X 0 0 12 [some (.ref 44), some (.int x), none] [.ref 44] T I J R
  refine aw_aload_n hC dX12_plan_12 rfl ?_
  refine aw_getI hC dX12_plan_13 aF_X12_383 rfl (tg_44 hT) ?_
  rw [hp]
  refine aw_bipush (v := 40) hC dX12_plan_16 (by decide) ?_
  refine aw_icmp_eq (tgt := 28) hC dX12_plan_18 (by decide) (fun _ => ?_) (fun h2 => absurd h2 (by decide))
  show AW X 0 0 28 [some (.ref 44), some (.int x), none] [.ref 44] T I J R
  refine aw_iconst (v := 2) hC dX12_plan_28 (by decide) ?_
  refine aw_goto (tgt := 33) hC dX12_plan_29 (by decide) ?_
  refine aw_putI hC dX12_plan_33 aF_X12_166 rfl rfl (tg_44 hT) ?_
  refine aw_aload_n hC dX12_plan_36 rfl ?_
  refine aw_getI hC dX12_plan_37 aF_X12_166 rfl (tg_44 hT) ?_
  rw [a_u_self (f := I) (o := 44) (k := 61) (v := 2)]
  refine aw_if_le (tgt := 45) hC dX12_plan_40 (by decide) (fun h3 => absurd h3 (by decide)) (fun _ => ?_)
  show AW X 0 0 43 [some (.ref 44), some (.int x), none] [] T (a_u I 44 61 2) J R
  refine aw_iconst (v := 0) hC dX12_plan_43 (by decide) ?_
  exact aw_ireturn hC hq rfl dX12_plan_44 a_le a_le (aPure_e (by clear hC hq; (try simp only [bI_e0, bI_n0, decide_eq_false_iff_not, decide_eq_true_eq, Classical.not_not] at *) <;> first | grind [nI_p1, a_u_2] | (exfalso; (simp only [i_le, i_lt, i_eq, Int32.reduceToInt] at *); omega)) (by clear hC hq; (try simp only [bI_e0, bI_n0, decide_eq_false_iff_not, decide_eq_true_eq, Classical.not_not] at *) <;> first | grind [nI_p1, a_u_2] | (exfalso; (simp only [i_le, i_lt, i_eq, Int32.reduceToInt] at *); omega)) rfl rfl)
set_option maxRecDepth 100000 in
theorem m_X12_isStaleF1 {T : List aT} {I : aI} {J : aJ} {R : aR} (hT : aPT T) (hR : aPR R) {p : Nat} (hp : I 44 36 = nI p) (hp9 : p ≤ 40) (x : Int32) (hx : ¬ (0 ≤ x ∧ x < nI p)) : MX12_isStale 0 0 [.ref 44, .int x] T I J R (aPure (some (.int (0))) T (a_u I 44 61 1) J R) := by
  refine a_met (by decide +kernel) a_le (fun X hC hq => ?_)
  show AW X 0 0 0 [some (.ref 44), some (.int x)] [] T I J R
  refine aw_aload_n hC dX12_isStale_0 rfl ?_
  refine aw_aload_n hC dX12_isStale_1 rfl ?_
  refine aw_iload_n hC dX12_isStale_2 rfl ?_
  refine kX12_386 hC rfl (m_X12_isPlan hT hR x (p := p) (by assumption) (by omega)) dX12_isStale_3 (tg_44 hT) rfl a_le a_le a_le a_le a_le rfl aPure_x (aPure_k ?_)
  show AW X 0 0 6 [some (.ref 44), some (.int x)] [.int (bI (decide (0 ≤ x ∧ x < nI p))), .ref 44] T I J R
  rw [show bI (decide (0 ≤ x ∧ x < nI p)) = 0 from bI_zero hx]
  refine aw_if_eq (tgt := 13) hC dX12_isStale_6 (by decide) (fun _ => ?_) (fun h1 => absurd h1 (by decide))
  show AW X 0 0 13 [some (.ref 44), some (.int x)] [.ref 44] T I J R
  refine aw_iconst (v := 1) hC dX12_isStale_13 (by decide) ?_
  refine aw_putI hC dX12_isStale_14 aF_X12_166 rfl rfl (tg_44 hT) ?_
  refine aw_aload_n hC dX12_isStale_17 rfl ?_
  refine aw_getI hC dX12_isStale_18 aF_X12_166 rfl (tg_44 hT) ?_
  rw [a_u_self (f := I) (o := 44) (k := 61) (v := 1)]
  refine aw_if_ne (tgt := 49) hC dX12_isStale_21 (by decide) (fun _ => ?_) (fun h2 => absurd h2 (by decide))
  show AW X 0 0 49 [some (.ref 44), some (.int x)] [] T (a_u I 44 61 1) J R
  refine aw_iconst (v := 0) hC dX12_isStale_49 (by decide) ?_
  exact aw_zreturn hC hq rfl (Or.inl rfl) dX12_isStale_50 a_le a_le (aPure_e (by clear hC hq; (try simp only [bI_e0, bI_n0, decide_eq_false_iff_not, decide_eq_true_eq, Classical.not_not] at *) <;> first | grind [nI_p1, a_u_2] | (exfalso; (simp only [i_le, i_lt, i_eq, Int32.reduceToInt] at *); omega)) (by clear hC hq; (try simp only [bI_e0, bI_n0, decide_eq_false_iff_not, decide_eq_true_eq, Classical.not_not] at *) <;> first | grind [nI_p1, a_u_2] | (exfalso; (simp only [i_le, i_lt, i_eq, Int32.reduceToInt] at *); omega)) rfl rfl)
set_option maxRecDepth 100000 in
theorem m_X12_rebaseF1 {T : List aT} {I : aI} {J : aJ} {R : aR} (hT : aPT T) (hR : aPR R) {p : Nat} (hp : I 44 36 = nI p) (hp9 : p ≤ 40) (x : Int32) (hx : ¬ (0 ≤ x ∧ x < nI p)) : MX12_rebase 0 0 [.ref 44, .int x] T I J R (aPure (some (.int (0))) T (a_u I 44 61 1) J R) := by
  refine a_met (by decide +kernel) a_le (fun X hC hq => ?_)
  show AW X 0 0 0 [some (.ref 44), some (.int x), none] [] T I J R
  refine aw_aload_n hC dX12_rebase_0 rfl ?_
  refine aw_aload_n hC dX12_rebase_1 rfl ?_
  refine aw_iload_n hC dX12_rebase_2 rfl ?_
  refine kX12_386 hC rfl (m_X12_isPlan hT hR x (p := p) (by assumption) (by omega)) dX12_rebase_3 (tg_44 hT) rfl a_le a_le a_le a_le a_le rfl aPure_x (aPure_k ?_)
  show AW X 0 0 6 [some (.ref 44), some (.int x), none] [.int (bI (decide (0 ≤ x ∧ x < nI p))), .ref 44] T I J R
  rw [show bI (decide (0 ≤ x ∧ x < nI p)) = 0 from bI_zero hx]
  refine aw_if_ne (tgt := 13) hC dX12_rebase_6 (by decide) (fun h1 => absurd h1 (by decide)) (fun _ => ?_)
  show AW X 0 0 9 [some (.ref 44), some (.int x), none] [.ref 44] T I J R
  refine aw_iconst (v := 1) hC dX12_rebase_9 (by decide) ?_
  refine aw_goto (tgt := 27) hC dX12_rebase_10 (by decide) ?_
  refine aw_putI hC dX12_rebase_27 aF_X12_166 rfl rfl (tg_44 hT) ?_
  refine aw_aload_n hC dX12_rebase_30 rfl ?_
  refine aw_getI hC dX12_rebase_31 aF_X12_166 rfl (tg_44 hT) ?_
  rw [a_u_self (f := I) (o := 44) (k := 61) (v := 1)]
  refine aw_if_le (tgt := 39) hC dX12_rebase_34 (by decide) (fun h2 => absurd h2 (by decide)) (fun _ => ?_)
  show AW X 0 0 37 [some (.ref 44), some (.int x), none] [] T (a_u I 44 61 1) J R
  refine aw_iconst (v := 0) hC dX12_rebase_37 (by decide) ?_
  exact aw_zreturn hC hq rfl (Or.inl rfl) dX12_rebase_38 a_le a_le (aPure_e (by clear hC hq; (try simp only [bI_e0, bI_n0, decide_eq_false_iff_not, decide_eq_true_eq, Classical.not_not] at *) <;> first | grind [nI_p1, a_u_2] | (exfalso; (simp only [i_le, i_lt, i_eq, Int32.reduceToInt] at *); omega)) (by clear hC hq; (try simp only [bI_e0, bI_n0, decide_eq_false_iff_not, decide_eq_true_eq, Classical.not_not] at *) <;> first | grind [nI_p1, a_u_2] | (exfalso; (simp only [i_le, i_lt, i_eq, Int32.reduceToInt] at *); omega)) rfl rfl)
set_option maxRecDepth 100000 in
theorem m_X12_applyF1 {T : List aT} {I : aI} {J : aJ} {R : aR} (hT : aPT T) (hR : aPR R) {p : Nat} (hp : I 44 36 = nI p) (hp9 : p ≤ 40) (x : Int32) (hx : ¬ (0 ≤ x ∧ x < nI p)) : MX12_apply 0 0 [.ref 44, .int x] T I J R (aPure (some (.int (0))) T (a_u I 44 61 1) J R) := by
  refine a_met (by decide +kernel) a_le (fun X hC hq => ?_)
  show AW X 0 0 0 [some (.ref 44), some (.int x), none, none] [] T I J R
  refine aw_aload_n hC dX12_apply_0 rfl ?_
  refine aw_aload_n hC dX12_apply_1 rfl ?_
  refine aw_iload_n hC dX12_apply_2 rfl ?_
  refine kX12_386 hC rfl (m_X12_isPlan hT hR x (p := p) (by assumption) (by omega)) dX12_apply_3 (tg_44 hT) rfl a_le a_le a_le a_le a_le rfl aPure_x (aPure_k ?_)
  show AW X 0 0 6 [some (.ref 44), some (.int x), none, none] [.int (bI (decide (0 ≤ x ∧ x < nI p))), .ref 44] T I J R
  rw [show bI (decide (0 ≤ x ∧ x < nI p)) = 0 from bI_zero hx]
  refine aw_if_eq (tgt := 13) hC dX12_apply_6 (by decide) (fun _ => ?_) (fun h1 => absurd h1 (by decide))
  show AW X 0 0 13 [some (.ref 44), some (.int x), none, none] [.ref 44] T I J R
  refine aw_iconst (v := 1) hC dX12_apply_13 (by decide) ?_
  refine aw_putI hC dX12_apply_14 aF_X12_166 rfl rfl (tg_44 hT) ?_
  refine aw_aload_n hC dX12_apply_17 rfl ?_
  refine aw_getI hC dX12_apply_18 aF_X12_166 rfl (tg_44 hT) ?_
  rw [a_u_self (f := I) (o := 44) (k := 61) (v := 1)]
  refine aw_if_le (tgt := 26) hC dX12_apply_21 (by decide) (fun h2 => absurd h2 (by decide)) (fun _ => ?_)
  show AW X 0 0 24 [some (.ref 44), some (.int x), none, none] [] T (a_u I 44 61 1) J R
  refine aw_iconst (v := 0) hC dX12_apply_24 (by decide) ?_
  exact aw_ireturn hC hq rfl dX12_apply_25 a_le a_le (aPure_e (by clear hC hq; (try simp only [bI_e0, bI_n0, decide_eq_false_iff_not, decide_eq_true_eq, Classical.not_not] at *) <;> first | grind [nI_p1, a_u_2] | (exfalso; (simp only [i_le, i_lt, i_eq, Int32.reduceToInt] at *); omega)) (by clear hC hq; (try simp only [bI_e0, bI_n0, decide_eq_false_iff_not, decide_eq_true_eq, Classical.not_not] at *) <;> first | grind [nI_p1, a_u_2] | (exfalso; (simp only [i_le, i_lt, i_eq, Int32.reduceToInt] at *); omega)) rfl rfl)
set_option maxRecDepth 100000 in
theorem m_X12_isStaleA {T : List aT} {I : aI} {J : aJ} {R : aR} (hT : aPT T) (hR : aPR R) {p x : Nat} (hp : I 44 36 = nI p) (hp9 : p ≤ 40) (hx : x < p) (hs : I 76 x ≠ I 44 35) : MX12_isStale 0 0 [.ref 44, .int (nI x)] T I J R (aPure (some (.int (1))) T (a_u I 44 61 0) J R) := by
  refine a_met (by decide +kernel) a_le (fun X hC hq => ?_)
  show AW X 0 0 0 [some (.ref 44), some (.int (nI x))] [] T I J R
  refine aw_aload_n hC dX12_isStale_0 rfl ?_
  refine aw_aload_n hC dX12_isStale_1 rfl ?_
  refine aw_iload_n hC dX12_isStale_2 rfl ?_
  refine kX12_386 hC rfl (m_X12_isPlan hT hR (nI x) (p := p) (by assumption) (by omega)) dX12_isStale_3 (tg_44 hT) rfl a_le a_le a_le a_le a_le rfl aPure_x (aPure_k ?_)
  show AW X 0 0 6 [some (.ref 44), some (.int (nI x))] [.int (bI (decide (0 ≤ (nI x) ∧ (nI x) < nI p))), .ref 44] T I J R
  rw [show bI (decide (0 ≤ (nI x) ∧ (nI x) < nI p)) = 1 from bI_one (nI_btw hx (by omega))]
  refine aw_if_eq (tgt := 13) hC dX12_isStale_6 (by decide) (fun h1 => absurd h1 (by decide)) (fun _ => ?_)
  show AW X 0 0 9 [some (.ref 44), some (.int (nI x))] [.ref 44] T I J R
  refine aw_iconst (v := 0) hC dX12_isStale_9 (by decide) ?_
  refine aw_goto (tgt := 14) hC dX12_isStale_10 (by decide) ?_
  refine aw_putI hC dX12_isStale_14 aF_X12_166 rfl rfl (tg_44 hT) ?_
  refine aw_aload_n hC dX12_isStale_17 rfl ?_
  refine aw_getI hC dX12_isStale_18 aF_X12_166 rfl (tg_44 hT) ?_
  rw [a_u_self (f := I) (o := 44) (k := 61) (v := 0)]
  refine aw_if_ne (tgt := 49) hC dX12_isStale_21 (by decide) (fun h2 => absurd h2 (by decide)) (fun _ => ?_)
  show AW X 0 0 24 [some (.ref 44), some (.int (nI x))] [] T (a_u I 44 61 0) J R
  refine aw_aload_n hC dX12_isStale_24 rfl ?_
  refine aw_getR hC dX12_isStale_25 aF_X12_104 rfl (tg_44 hT) (pr_44_38 hR) ?_
  refine aw_iload_n hC dX12_isStale_28 rfl ?_
  refine aw_iaload_k (j := x) hC dX12_isStale_29 (tg_76 hT) (nI_clamp (by omega)) (vp_in_nI (by omega) (by decide)) ?_
  rw [a_u_ne (f := I) (o := 44) (k := 61) (a := 76) (b := x) (v := 0) (fun q => absurd q.1 (by decide))]
  refine aw_aload_n hC dX12_isStale_30 rfl ?_
  refine aw_getI hC dX12_isStale_31 aF_X12_343 rfl (tg_44 hT) ?_
  rw [a_u_ne (f := I) (o := 44) (k := 61) (a := 44) (b := 35) (v := 0) (fun q => absurd q.2 (by decide))]
  refine aw_icmp_ne (tgt := 45) hC dX12_isStale_34 (by decide) (fun h3 => ?_) (fun h3 => ?_)
  · show AW X 0 0 45 [some (.ref 44), some (.int (nI x))] [] T (a_u I 44 61 0) J R
    refine aw_iconst (v := 1) hC dX12_isStale_45 (by decide) ?_
    refine aw_goto (tgt := 50) hC dX12_isStale_46 (by decide) ?_
    exact aw_zreturn hC hq rfl (Or.inr rfl) dX12_isStale_50 a_le a_le (aPure_e (by clear hC hq; (try simp only [bI_e0, bI_n0, decide_eq_false_iff_not, decide_eq_true_eq, Classical.not_not] at *) <;> first | grind [nI_p1, a_u_2] | (exfalso; (simp only [i_le, i_lt, i_eq, Int32.reduceToInt] at *); omega)) (by clear hC hq; (try simp only [bI_e0, bI_n0, decide_eq_false_iff_not, decide_eq_true_eq, Classical.not_not] at *) <;> first | grind [nI_p1, a_u_2] | (exfalso; (simp only [i_le, i_lt, i_eq, Int32.reduceToInt] at *); omega)) rfl rfl)
  · show AW X 0 0 37 [some (.ref 44), some (.int (nI x))] [] T (a_u I 44 61 0) J R
    exact absurd (by assumption) hs
set_option maxRecDepth 100000 in
theorem m_X12_isStaleB {T : List aT} {I : aI} {J : aJ} {R : aR} (hT : aPT T) (hR : aPR R) {n g : Nat} (hS : SW I n) (hZ : Zr J) (hg : GW I g) {p x : Nat} (hp : I 44 36 = nI p) (hp9 : p ≤ 40) (hx : x < p) (hm : NR I 79 40 129) (hs : I 76 x = I 44 35) : MX12_isStale 0 0 [.ref 44, .int (nI x)] T I J R (aRel (fun I2 J2 => some (.int (bI (!hA I2 J2 n g x)))) (fun I2 J2 => PlR (a_u I 44 61 0) I2 J J2 n g) T R) := by
  refine a_met (by decide +kernel) a_le (fun X hC hq => ?_)
  show AW X 0 0 0 [some (.ref 44), some (.int (nI x))] [] T I J R
  refine aw_aload_n hC dX12_isStale_0 rfl ?_
  refine aw_aload_n hC dX12_isStale_1 rfl ?_
  refine aw_iload_n hC dX12_isStale_2 rfl ?_
  refine kX12_386 hC rfl (m_X12_isPlan hT hR (nI x) (p := p) (by assumption) (by omega)) dX12_isStale_3 (tg_44 hT) rfl a_le a_le a_le a_le a_le rfl aPure_x (aPure_k ?_)
  show AW X 0 0 6 [some (.ref 44), some (.int (nI x))] [.int (bI (decide (0 ≤ (nI x) ∧ (nI x) < nI p))), .ref 44] T I J R
  rw [show bI (decide (0 ≤ (nI x) ∧ (nI x) < nI p)) = 1 from bI_one (nI_btw hx (by omega))]
  refine aw_if_eq (tgt := 13) hC dX12_isStale_6 (by decide) (fun h1 => absurd h1 (by decide)) (fun _ => ?_)
  show AW X 0 0 9 [some (.ref 44), some (.int (nI x))] [.ref 44] T I J R
  refine aw_iconst (v := 0) hC dX12_isStale_9 (by decide) ?_
  refine aw_goto (tgt := 14) hC dX12_isStale_10 (by decide) ?_
  refine aw_putI hC dX12_isStale_14 aF_X12_166 rfl rfl (tg_44 hT) ?_
  refine aw_aload_n hC dX12_isStale_17 rfl ?_
  refine aw_getI hC dX12_isStale_18 aF_X12_166 rfl (tg_44 hT) ?_
  rw [a_u_self (f := I) (o := 44) (k := 61) (v := 0)]
  refine aw_if_ne (tgt := 49) hC dX12_isStale_21 (by decide) (fun h2 => absurd h2 (by decide)) (fun _ => ?_)
  show AW X 0 0 24 [some (.ref 44), some (.int (nI x))] [] T (a_u I 44 61 0) J R
  refine aw_aload_n hC dX12_isStale_24 rfl ?_
  refine aw_getR hC dX12_isStale_25 aF_X12_104 rfl (tg_44 hT) (pr_44_38 hR) ?_
  refine aw_iload_n hC dX12_isStale_28 rfl ?_
  refine aw_iaload_k (j := x) hC dX12_isStale_29 (tg_76 hT) (nI_clamp (by omega)) (vp_in_nI (by omega) (by decide)) ?_
  rw [a_u_ne (f := I) (o := 44) (k := 61) (a := 76) (b := x) (v := 0) (fun q => absurd q.1 (by decide))]
  refine aw_aload_n hC dX12_isStale_30 rfl ?_
  refine aw_getI hC dX12_isStale_31 aF_X12_343 rfl (tg_44 hT) ?_
  rw [a_u_ne (f := I) (o := 44) (k := 61) (a := 44) (b := 35) (v := 0) (fun q => absurd q.2 (by decide))]
  refine aw_icmp_ne (tgt := 45) hC dX12_isStale_34 (by decide) (fun h => absurd hs h) (fun _ => ?_)
  show AW X 0 0 37 [some (.ref 44), some (.int (nI x))] [] T (a_u I 44 61 0) J R
  refine aw_aload_n hC dX12_isStale_37 rfl ?_
  refine aw_iload_n hC dX12_isStale_38 rfl ?_
  refine kX12_389 hC rfl (m_X12_hasAll (I := a_u I 44 61 0) (J := J) (n := n) (g := g) hT hR hS.th hZ hg.th (p := x) (by omega) (hm.ne (by decide))) dX12_isStale_39 (tg_44 hT) rfl a_le a_le a_le a_le a_le rfl aRel_x (aRel_k (fun I2 J2 hQ => ?_))
  have hPl : PlR (a_u I 44 61 0) I2 J J2 n g := hQ
  have hf2 : ∀ o, o ≠ 44 ∧ o ≠ 83 ∧ o ≠ 84 ∧ o ≠ 85 ∧ o ≠ 86 ∧ o ≠ 91 ∧ o ≠ 92 → I2 o = I o := fun o ho => (hPl.fr o ho).trans (a_u_row ho.1)
  show AW X 0 0 42 [some (.ref 44), some (.int (nI x))] [.int (bI (hA I2 J2 n g x))] T I2 J2 R
  refine aw_if_ne (tgt := 49) hC dX12_isStale_42 (by decide) (fun h3 => ?_) (fun h3 => ?_)
  · show AW X 0 0 49 [some (.ref 44), some (.int (nI x))] [] T I2 J2 R
    refine aw_iconst (v := 0) hC dX12_isStale_49 (by decide) ?_
    exact aw_zreturn hC hq rfl (Or.inl rfl) dX12_isStale_50 a_le a_le ⟨by simp_all [bI], rfl, rfl, hPl⟩
  · show AW X 0 0 45 [some (.ref 44), some (.int (nI x))] [] T I2 J2 R
    refine aw_iconst (v := 1) hC dX12_isStale_45 (by decide) ?_
    refine aw_goto (tgt := 50) hC dX12_isStale_46 (by decide) ?_
    exact aw_zreturn hC hq rfl (Or.inr rfl) dX12_isStale_50 a_le a_le ⟨by simp_all [bI], rfl, rfl, hPl⟩
set_option maxRecDepth 100000 in
theorem m_X12_rebaseF2 {T : List aT} {I : aI} {J : aJ} {R : aR} (hT : aPT T) (hR : aPR R) {p x : Nat} (hp : I 44 36 = nI p) (hp9 : p ≤ 40) (hx : x < p) (hb : I 78 x ≠ 0) : MX12_rebase 0 0 [.ref 44, .int (nI x)] T I J R (aPure (some (.int (0))) T (a_u I 44 61 2) J R) := by
  refine a_met (by decide +kernel) a_le (fun X hC hq => ?_)
  show AW X 0 0 0 [some (.ref 44), some (.int (nI x)), none] [] T I J R
  refine aw_aload_n hC dX12_rebase_0 rfl ?_
  refine aw_aload_n hC dX12_rebase_1 rfl ?_
  refine aw_iload_n hC dX12_rebase_2 rfl ?_
  refine kX12_386 hC rfl (m_X12_isPlan hT hR (nI x) (p := p) (by assumption) (by omega)) dX12_rebase_3 (tg_44 hT) rfl a_le a_le a_le a_le a_le rfl aPure_x (aPure_k ?_)
  show AW X 0 0 6 [some (.ref 44), some (.int (nI x)), none] [.int (bI (decide (0 ≤ (nI x) ∧ (nI x) < nI p))), .ref 44] T I J R
  rw [show bI (decide (0 ≤ (nI x) ∧ (nI x) < nI p)) = 1 from bI_one (nI_btw hx (by omega))]
  refine aw_if_ne (tgt := 13) hC dX12_rebase_6 (by decide) (fun _ => ?_) (fun h1 => absurd h1 (by decide))
  show AW X 0 0 13 [some (.ref 44), some (.int (nI x)), none] [.ref 44] T I J R
  refine aw_aload_n hC dX12_rebase_13 rfl ?_
  refine aw_getR hC dX12_rebase_14 aF_X12_110 rfl (tg_44 hT) (pr_44_40 hR) ?_
  refine aw_iload_n hC dX12_rebase_17 rfl ?_
  refine aw_baload_k (j := x) hC dX12_rebase_18 (tg_78 hT) (nI_clamp (by omega)) (vp_in_nI (by omega) (by decide)) ?_
  refine aw_if_eq (tgt := 26) hC dX12_rebase_19 (by decide) (fun h2 => ?_) (fun h2 => ?_)
  · show AW X 0 0 26 [some (.ref 44), some (.int (nI x)), none] [.ref 44] T I J R
    exact absurd (by assumption) hb
  · show AW X 0 0 22 [some (.ref 44), some (.int (nI x)), none] [.ref 44] T I J R
    refine aw_iconst (v := 2) hC dX12_rebase_22 (by decide) ?_
    refine aw_goto (tgt := 27) hC dX12_rebase_23 (by decide) ?_
    refine aw_putI hC dX12_rebase_27 aF_X12_166 rfl rfl (tg_44 hT) ?_
    refine aw_aload_n hC dX12_rebase_30 rfl ?_
    refine aw_getI hC dX12_rebase_31 aF_X12_166 rfl (tg_44 hT) ?_
    rw [a_u_self (f := I) (o := 44) (k := 61) (v := 2)]
    refine aw_if_le (tgt := 39) hC dX12_rebase_34 (by decide) (fun h3 => absurd h3 (by decide)) (fun _ => ?_)
    show AW X 0 0 37 [some (.ref 44), some (.int (nI x)), none] [] T (a_u I 44 61 2) J R
    refine aw_iconst (v := 0) hC dX12_rebase_37 (by decide) ?_
    exact aw_zreturn hC hq rfl (Or.inl rfl) dX12_rebase_38 a_le a_le (aPure_e (by clear hC hq; (try simp only [bI_e0, bI_n0, decide_eq_false_iff_not, decide_eq_true_eq, Classical.not_not] at *) <;> first | grind [nI_p1, a_u_2] | (exfalso; (simp only [i_le, i_lt, i_eq, Int32.reduceToInt] at *); omega)) (by clear hC hq; (try simp only [bI_e0, bI_n0, decide_eq_false_iff_not, decide_eq_true_eq, Classical.not_not] at *) <;> first | grind [nI_p1, a_u_2] | (exfalso; (simp only [i_le, i_lt, i_eq, Int32.reduceToInt] at *); omega)) rfl rfl)
set_option maxRecDepth 100000 in
theorem m_X12_rebaseT {T : List aT} {I : aI} {J : aJ} {R : aR} (hT : aPT T) (hR : aPR R) {n g : Nat} (hS : SW I n) (hZ : Zr J) (hg : GW I g) {p x : Nat} (hp : I 44 36 = nI p) (hp9 : p ≤ 40) (hx : x < p) (hm : NR I 79 40 129) (hb : I 78 x = 0) : MX12_rebase 0 0 [.ref 44, .int (nI x)] T I J R (aRelV (fun v I3 J2 => ∃ I2, PlR (a_u I 44 61 0) I2 J J2 n g ∧ v = some (.int (bI (hA I2 J2 n g x))) ∧ I3 = a_u I2 76 x (if hA I2 J2 n g x = true then I2 44 35 else I2 76 x)) T R) := by
  refine a_met (by decide +kernel) a_le (fun X hC hq => ?_)
  show AW X 0 0 0 [some (.ref 44), some (.int (nI x)), none] [] T I J R
  refine aw_aload_n hC dX12_rebase_0 rfl ?_
  refine aw_aload_n hC dX12_rebase_1 rfl ?_
  refine aw_iload_n hC dX12_rebase_2 rfl ?_
  refine kX12_386 hC rfl (m_X12_isPlan hT hR (nI x) (p := p) (by assumption) (by omega)) dX12_rebase_3 (tg_44 hT) rfl a_le a_le a_le a_le a_le rfl aPure_x (aPure_k ?_)
  show AW X 0 0 6 [some (.ref 44), some (.int (nI x)), none] [.int (bI (decide (0 ≤ (nI x) ∧ (nI x) < nI p))), .ref 44] T I J R
  rw [show bI (decide (0 ≤ (nI x) ∧ (nI x) < nI p)) = 1 from bI_one (nI_btw hx (by omega))]
  refine aw_if_ne (tgt := 13) hC dX12_rebase_6 (by decide) (fun _ => ?_) (fun h1 => absurd h1 (by decide))
  show AW X 0 0 13 [some (.ref 44), some (.int (nI x)), none] [.ref 44] T I J R
  refine aw_aload_n hC dX12_rebase_13 rfl ?_
  refine aw_getR hC dX12_rebase_14 aF_X12_110 rfl (tg_44 hT) (pr_44_40 hR) ?_
  refine aw_iload_n hC dX12_rebase_17 rfl ?_
  refine aw_baload_k (j := x) hC dX12_rebase_18 (tg_78 hT) (nI_clamp (by omega)) (vp_in_nI (by omega) (by decide)) ?_
  rw [hb]
  refine aw_if_eq (tgt := 26) hC dX12_rebase_19 (by decide) (fun _ => ?_) (fun h2 => absurd h2 (by decide))
  show AW X 0 0 26 [some (.ref 44), some (.int (nI x)), none] [.ref 44] T I J R
  refine aw_iconst (v := 0) hC dX12_rebase_26 (by decide) ?_
  refine aw_putI hC dX12_rebase_27 aF_X12_166 rfl rfl (tg_44 hT) ?_
  refine aw_aload_n hC dX12_rebase_30 rfl ?_
  refine aw_getI hC dX12_rebase_31 aF_X12_166 rfl (tg_44 hT) ?_
  rw [a_u_self (f := I) (o := 44) (k := 61) (v := 0)]
  refine aw_if_le (tgt := 39) hC dX12_rebase_34 (by decide) (fun _ => ?_) (fun h3 => absurd h3 (by decide))
  show AW X 0 0 39 [some (.ref 44), some (.int (nI x)), none] [] T (a_u I 44 61 0) J R
  refine aw_aload_n hC dX12_rebase_39 rfl ?_
  refine aw_iload_n hC dX12_rebase_40 rfl ?_
  refine kX12_389 hC rfl (m_X12_hasAll (I := a_u I 44 61 0) (J := J) (n := n) (g := g) hT hR hS.th hZ hg.th (p := x) (by omega) (hm.ne (by decide))) dX12_rebase_41 (tg_44 hT) rfl a_le a_le a_le a_le a_le rfl aRel_x (aRel_k (fun I2 J2 hQ => ?_))
  have hPl : PlR (a_u I 44 61 0) I2 J J2 n g := hQ
  have hf2 : ∀ o, o ≠ 44 ∧ o ≠ 83 ∧ o ≠ 84 ∧ o ≠ 85 ∧ o ≠ 86 ∧ o ≠ 91 ∧ o ≠ 92 → I2 o = I o := fun o ho => (hPl.fr o ho).trans (a_u_row ho.1)
  show AW X 0 0 44 [some (.ref 44), some (.int (nI x)), none] [.int (bI (hA I2 J2 n g x))] T I2 J2 R
  refine aw_istore_n (L2 := [some (.ref 44), some (.int (nI x)), some (.int (bI (hA I2 J2 n g x)))]) hC dX12_rebase_44 rfl (by decide) rfl ?_
  refine aw_aload_n hC dX12_rebase_45 rfl ?_
  refine aw_getR hC dX12_rebase_46 aF_X12_104 rfl (tg_44 hT) (pr_44_38 hR) ?_
  refine aw_iload_n hC dX12_rebase_49 rfl ?_
  refine aw_iload_n hC dX12_rebase_50 rfl ?_
  refine aw_if_eq (tgt := 61) hC dX12_rebase_51 (by decide) (fun h4 => ?_) (fun h4 => ?_)
  · show AW X 0 0 61 [some (.ref 44), some (.int (nI x)), some (.int (bI (hA I2 J2 n g x)))] [.int (nI x), .ref 76] T I2 J2 R
    refine aw_aload_n hC dX12_rebase_61 rfl ?_
    refine aw_getR hC dX12_rebase_62 aF_X12_104 rfl (tg_44 hT) (pr_44_38 hR) ?_
    refine aw_iload_n hC dX12_rebase_65 rfl ?_
    refine aw_iaload_k (j := x) hC dX12_rebase_66 (tg_76 hT) (nI_clamp (by omega)) (vp_in_nI (by omega) (by decide)) ?_
    rw [hf2 76 (by decide)]
    refine aw_iastore_k (j := x) hC dX12_rebase_67 (tg_76 hT) (nI_clamp (by omega)) (vp_in_nI (by omega) (by decide)) ?_
    refine aw_iload_n hC dX12_rebase_68 rfl ?_
    exact aw_zreturn hC hq rfl (bI_01 _) dX12_rebase_69 a_le a_le ⟨_, rfl, rfl, rfl, I2, hPl, rfl, by first | (rw [if_pos (bI_n0.mp (by assumption)), (hPl.f44 (by decide) (by decide) (by decide)).trans (a_u_ne (fun q => absurd q.2 (by decide)))]; done) | (rw [if_pos (bI_n0.mp (by assumption))]; done) | (rw [if_neg (fun q => absurd (by assumption) (bI_n0.mpr q)), hf2 76 (by decide)]; done) | (rw [if_neg (fun q => absurd (by assumption) (bI_n0.mpr q))]; done)⟩
  · show AW X 0 0 54 [some (.ref 44), some (.int (nI x)), some (.int (bI (hA I2 J2 n g x)))] [.int (nI x), .ref 76] T I2 J2 R
    refine aw_aload_n hC dX12_rebase_54 rfl ?_
    refine aw_getI hC dX12_rebase_55 aF_X12_343 rfl (tg_44 hT) ?_
    refine aw_goto (tgt := 67) hC dX12_rebase_58 (by decide) ?_
    refine aw_iastore_k (j := x) hC dX12_rebase_67 (tg_76 hT) (nI_clamp (by omega)) (vp_in_nI (by omega) (by decide)) ?_
    refine aw_iload_n hC dX12_rebase_68 rfl ?_
    exact aw_zreturn hC hq rfl (bI_01 _) dX12_rebase_69 a_le a_le ⟨_, rfl, rfl, rfl, I2, hPl, rfl, by first | (rw [if_pos (bI_n0.mp (by assumption)), (hPl.f44 (by decide) (by decide) (by decide)).trans (a_u_ne (fun q => absurd q.2 (by decide)))]; done) | (rw [if_pos (bI_n0.mp (by assumption))]; done) | (rw [if_neg (fun q => absurd (by assumption) (bI_n0.mpr q)), hf2 76 (by decide)]; done) | (rw [if_neg (fun q => absurd (by assumption) (bI_n0.mpr q))]; done)⟩
abbrev canAp (I : aI) (x : Nat) : Prop := I 77 x ≠ 0 ∧ I 78 x = 0 ∧ I 76 x = I 44 35 ∧ 0 < I 79 x ∧ I 44 45 < 0
abbrev apR (k : Nat) (r : Nat → Int32) : Nat → Int32 := fun j => if j < k then 0 else r j
abbrev apS (I : aI) (x : Nat) : aI := a_ur (a_ur (a_u (a_u (a_u (a_u (a_u I 44 61 0) 78 x 1) 44 43 (nI x)) 44 44 0) 44 45 (I 44 13 + 3)) 81 (apR 64 (I 81))) 82 (apR 64 (I 82))
theorem ap_put {k : Nat} {r : Nat → Int32} (j : Nat) : (if j = k then 0 else apR k r j) = apR (k + 1) r j := by
  simp only [apR]
  by_cases e : j = k
  · rw [if_pos e, if_pos (by omega)]
  · rw [if_neg e]
    by_cases c : j < k
    · rw [if_pos c, if_pos (by omega)]
    · rw [if_neg c, if_neg (by omega)]
set_option maxRecDepth 100000 in
theorem m_X12_applyF2 {T : List aT} {I : aI} {J : aJ} {R : aR} (hT : aPT T) (hR : aPR R) {p x : Nat} (hp : I 44 36 = nI p) (hp9 : p ≤ 40) (hx : x < p) (hn : ¬ canAp I x) : MX12_apply 0 0 [.ref 44, .int (nI x)] T I J R (aPure (some (.int (0))) T (a_u I 44 61 2) J R) := by
  refine a_met (by decide +kernel) a_le (fun X hC hq => ?_)
  show AW X 0 0 0 [some (.ref 44), some (.int (nI x)), none, none] [] T I J R
  refine aw_aload_n hC dX12_apply_0 rfl ?_
  refine aw_aload_n hC dX12_apply_1 rfl ?_
  refine aw_iload_n hC dX12_apply_2 rfl ?_
  refine kX12_386 hC rfl (m_X12_isPlan hT hR (nI x) (p := p) (by assumption) (by omega)) dX12_apply_3 (tg_44 hT) rfl a_le a_le a_le a_le a_le rfl aPure_x (aPure_k ?_)
  show AW X 0 0 6 [some (.ref 44), some (.int (nI x)), none, none] [.int (bI (decide (0 ≤ (nI x) ∧ (nI x) < nI p))), .ref 44] T I J R
  rw [show bI (decide (0 ≤ (nI x) ∧ (nI x) < nI p)) = 1 from bI_one (nI_btw hx (by omega))]
  refine aw_if_eq (tgt := 13) hC dX12_apply_6 (by decide) (fun h1 => absurd h1 (by decide)) (fun _ => ?_)
  show AW X 0 0 9 [some (.ref 44), some (.int (nI x)), none, none] [.ref 44] T I J R
  refine aw_iconst (v := 0) hC dX12_apply_9 (by decide) ?_
  refine aw_goto (tgt := 14) hC dX12_apply_10 (by decide) ?_
  refine aw_putI hC dX12_apply_14 aF_X12_166 rfl rfl (tg_44 hT) ?_
  refine aw_aload_n hC dX12_apply_17 rfl ?_
  refine aw_getI hC dX12_apply_18 aF_X12_166 rfl (tg_44 hT) ?_
  rw [a_u_self (f := I) (o := 44) (k := 61) (v := 0)]
  refine aw_if_le (tgt := 26) hC dX12_apply_21 (by decide) (fun _ => ?_) (fun h2 => absurd h2 (by decide))
  show AW X 0 0 26 [some (.ref 44), some (.int (nI x)), none, none] [] T (a_u I 44 61 0) J R
  refine aw_aload_n hC dX12_apply_26 rfl ?_
  refine aw_getR hC dX12_apply_27 aF_X12_107 rfl (tg_44 hT) (pr_44_39 hR) ?_
  refine aw_iload_n hC dX12_apply_30 rfl ?_
  refine aw_baload_k (j := x) hC dX12_apply_31 (tg_77 hT) (nI_clamp (by omega)) (vp_in_nI (by omega) (by decide)) ?_
  rw [a_u_ne (f := I) (o := 44) (k := 61) (a := 77) (b := x) (v := 0) (fun q => absurd q.1 (by decide))]
  refine aw_if_eq (tgt := 77) hC dX12_apply_32 (by decide) (fun h3 => ?_) (fun h3 => ?_)
  · show AW X 0 0 77 [some (.ref 44), some (.int (nI x)), none, none] [] T (a_u I 44 61 0) J R
    refine aw_iconst (v := 0) hC dX12_apply_77 (by decide) ?_
    refine aw_istore_n (L2 := [some (.ref 44), some (.int (nI x)), some (.int 0), none]) hC dX12_apply_78 rfl (by decide) rfl ?_
    refine aw_aload_n hC dX12_apply_79 rfl ?_
    refine aw_iload_n hC dX12_apply_80 rfl ?_
    refine aw_if_eq (tgt := 96) hC dX12_apply_81 (by decide) (fun _ => ?_) (fun h4 => absurd h4 (by decide))
    show AW X 0 0 96 [some (.ref 44), some (.int (nI x)), some (.int 0), none] [.ref 44] T (a_u I 44 61 0) J R
    refine aw_iconst (v := 2) hC dX12_apply_96 (by decide) ?_
    refine aw_putI hC dX12_apply_97 aF_X12_166 rfl rfl (tg_44 hT) ?_
    refine aw_aload_n hC dX12_apply_100 rfl ?_
    refine aw_getI hC dX12_apply_101 aF_X12_166 rfl (tg_44 hT) ?_
    rw [a_u_self (f := a_u I 44 61 0) (o := 44) (k := 61) (v := 2)]
    refine aw_if_le (tgt := 109) hC dX12_apply_104 (by decide) (fun h5 => absurd h5 (by decide)) (fun _ => ?_)
    show AW X 0 0 107 [some (.ref 44), some (.int (nI x)), some (.int 0), none] [] T (a_u (a_u I 44 61 0) 44 61 2) J R
    refine aw_iconst (v := 0) hC dX12_apply_107 (by decide) ?_
    exact aw_ireturn hC hq rfl dX12_apply_108 a_le a_le (aPure_e (by clear hC hq; (try simp only [bI_e0, bI_n0, decide_eq_false_iff_not, decide_eq_true_eq, Classical.not_not] at *) <;> first | grind [nI_p1, a_u_2] | (exfalso; (simp only [i_le, i_lt, i_eq, Int32.reduceToInt] at *); omega)) (by clear hC hq; (try simp only [bI_e0, bI_n0, decide_eq_false_iff_not, decide_eq_true_eq, Classical.not_not] at *) <;> first | grind [nI_p1, a_u_2] | (exfalso; (simp only [i_le, i_lt, i_eq, Int32.reduceToInt] at *); omega)) rfl rfl)
  · show AW X 0 0 35 [some (.ref 44), some (.int (nI x)), none, none] [] T (a_u I 44 61 0) J R
    refine aw_aload_n hC dX12_apply_35 rfl ?_
    refine aw_getR hC dX12_apply_36 aF_X12_110 rfl (tg_44 hT) (pr_44_40 hR) ?_
    refine aw_iload_n hC dX12_apply_39 rfl ?_
    refine aw_baload_k (j := x) hC dX12_apply_40 (tg_78 hT) (nI_clamp (by omega)) (vp_in_nI (by omega) (by decide)) ?_
    rw [a_u_ne (f := I) (o := 44) (k := 61) (a := 78) (b := x) (v := 0) (fun q => absurd q.1 (by decide))]
    refine aw_if_ne (tgt := 77) hC dX12_apply_41 (by decide) (fun h6 => ?_) (fun h6 => ?_)
    · show AW X 0 0 77 [some (.ref 44), some (.int (nI x)), none, none] [] T (a_u I 44 61 0) J R
      refine aw_iconst (v := 0) hC dX12_apply_77 (by decide) ?_
      refine aw_istore_n (L2 := [some (.ref 44), some (.int (nI x)), some (.int 0), none]) hC dX12_apply_78 rfl (by decide) rfl ?_
      refine aw_aload_n hC dX12_apply_79 rfl ?_
      refine aw_iload_n hC dX12_apply_80 rfl ?_
      refine aw_if_eq (tgt := 96) hC dX12_apply_81 (by decide) (fun _ => ?_) (fun h7 => absurd h7 (by decide))
      show AW X 0 0 96 [some (.ref 44), some (.int (nI x)), some (.int 0), none] [.ref 44] T (a_u I 44 61 0) J R
      refine aw_iconst (v := 2) hC dX12_apply_96 (by decide) ?_
      refine aw_putI hC dX12_apply_97 aF_X12_166 rfl rfl (tg_44 hT) ?_
      refine aw_aload_n hC dX12_apply_100 rfl ?_
      refine aw_getI hC dX12_apply_101 aF_X12_166 rfl (tg_44 hT) ?_
      rw [a_u_self (f := a_u I 44 61 0) (o := 44) (k := 61) (v := 2)]
      refine aw_if_le (tgt := 109) hC dX12_apply_104 (by decide) (fun h8 => absurd h8 (by decide)) (fun _ => ?_)
      show AW X 0 0 107 [some (.ref 44), some (.int (nI x)), some (.int 0), none] [] T (a_u (a_u I 44 61 0) 44 61 2) J R
      refine aw_iconst (v := 0) hC dX12_apply_107 (by decide) ?_
      exact aw_ireturn hC hq rfl dX12_apply_108 a_le a_le (aPure_e (by clear hC hq; (try simp only [bI_e0, bI_n0, decide_eq_false_iff_not, decide_eq_true_eq, Classical.not_not] at *) <;> first | grind [nI_p1, a_u_2] | (exfalso; (simp only [i_le, i_lt, i_eq, Int32.reduceToInt] at *); omega)) (by clear hC hq; (try simp only [bI_e0, bI_n0, decide_eq_false_iff_not, decide_eq_true_eq, Classical.not_not] at *) <;> first | grind [nI_p1, a_u_2] | (exfalso; (simp only [i_le, i_lt, i_eq, Int32.reduceToInt] at *); omega)) rfl rfl)
    · show AW X 0 0 44 [some (.ref 44), some (.int (nI x)), none, none] [] T (a_u I 44 61 0) J R
      refine aw_aload_n hC dX12_apply_44 rfl ?_
      refine aw_getR hC dX12_apply_45 aF_X12_104 rfl (tg_44 hT) (pr_44_38 hR) ?_
      refine aw_iload_n hC dX12_apply_48 rfl ?_
      refine aw_iaload_k (j := x) hC dX12_apply_49 (tg_76 hT) (nI_clamp (by omega)) (vp_in_nI (by omega) (by decide)) ?_
      rw [a_u_ne (f := I) (o := 44) (k := 61) (a := 76) (b := x) (v := 0) (fun q => absurd q.1 (by decide))]
      refine aw_aload_n hC dX12_apply_50 rfl ?_
      refine aw_getI hC dX12_apply_51 aF_X12_343 rfl (tg_44 hT) ?_
      rw [a_u_ne (f := I) (o := 44) (k := 61) (a := 44) (b := 35) (v := 0) (fun q => absurd q.2 (by decide))]
      refine aw_icmp_ne (tgt := 77) hC dX12_apply_54 (by decide) (fun h9 => ?_) (fun h9 => ?_)
      · show AW X 0 0 77 [some (.ref 44), some (.int (nI x)), none, none] [] T (a_u I 44 61 0) J R
        refine aw_iconst (v := 0) hC dX12_apply_77 (by decide) ?_
        refine aw_istore_n (L2 := [some (.ref 44), some (.int (nI x)), some (.int 0), none]) hC dX12_apply_78 rfl (by decide) rfl ?_
        refine aw_aload_n hC dX12_apply_79 rfl ?_
        refine aw_iload_n hC dX12_apply_80 rfl ?_
        refine aw_if_eq (tgt := 96) hC dX12_apply_81 (by decide) (fun _ => ?_) (fun h10 => absurd h10 (by decide))
        show AW X 0 0 96 [some (.ref 44), some (.int (nI x)), some (.int 0), none] [.ref 44] T (a_u I 44 61 0) J R
        refine aw_iconst (v := 2) hC dX12_apply_96 (by decide) ?_
        refine aw_putI hC dX12_apply_97 aF_X12_166 rfl rfl (tg_44 hT) ?_
        refine aw_aload_n hC dX12_apply_100 rfl ?_
        refine aw_getI hC dX12_apply_101 aF_X12_166 rfl (tg_44 hT) ?_
        rw [a_u_self (f := a_u I 44 61 0) (o := 44) (k := 61) (v := 2)]
        refine aw_if_le (tgt := 109) hC dX12_apply_104 (by decide) (fun h11 => absurd h11 (by decide)) (fun _ => ?_)
        show AW X 0 0 107 [some (.ref 44), some (.int (nI x)), some (.int 0), none] [] T (a_u (a_u I 44 61 0) 44 61 2) J R
        refine aw_iconst (v := 0) hC dX12_apply_107 (by decide) ?_
        exact aw_ireturn hC hq rfl dX12_apply_108 a_le a_le (aPure_e (by clear hC hq; (try simp only [bI_e0, bI_n0, decide_eq_false_iff_not, decide_eq_true_eq, Classical.not_not] at *) <;> first | grind [nI_p1, a_u_2] | (exfalso; (simp only [i_le, i_lt, i_eq, Int32.reduceToInt] at *); omega)) (by clear hC hq; (try simp only [bI_e0, bI_n0, decide_eq_false_iff_not, decide_eq_true_eq, Classical.not_not] at *) <;> first | grind [nI_p1, a_u_2] | (exfalso; (simp only [i_le, i_lt, i_eq, Int32.reduceToInt] at *); omega)) rfl rfl)
      · show AW X 0 0 57 [some (.ref 44), some (.int (nI x)), none, none] [] T (a_u I 44 61 0) J R
        refine aw_aload_n hC dX12_apply_57 rfl ?_
        refine aw_getR hC dX12_apply_58 aF_X12_113 rfl (tg_44 hT) (pr_44_41 hR) ?_
        refine aw_iload_n hC dX12_apply_61 rfl ?_
        refine aw_iaload_k (j := x) hC dX12_apply_62 (tg_79 hT) (nI_clamp (by omega)) (vp_in_nI (by omega) (by decide)) ?_
        rw [a_u_ne (f := I) (o := 44) (k := 61) (a := 79) (b := x) (v := 0) (fun q => absurd q.1 (by decide))]
        refine aw_if_le (tgt := 77) hC dX12_apply_63 (by decide) (fun h12 => ?_) (fun h12 => ?_)
        · show AW X 0 0 77 [some (.ref 44), some (.int (nI x)), none, none] [] T (a_u I 44 61 0) J R
          refine aw_iconst (v := 0) hC dX12_apply_77 (by decide) ?_
          refine aw_istore_n (L2 := [some (.ref 44), some (.int (nI x)), some (.int 0), none]) hC dX12_apply_78 rfl (by decide) rfl ?_
          refine aw_aload_n hC dX12_apply_79 rfl ?_
          refine aw_iload_n hC dX12_apply_80 rfl ?_
          refine aw_if_eq (tgt := 96) hC dX12_apply_81 (by decide) (fun _ => ?_) (fun h13 => absurd h13 (by decide))
          show AW X 0 0 96 [some (.ref 44), some (.int (nI x)), some (.int 0), none] [.ref 44] T (a_u I 44 61 0) J R
          refine aw_iconst (v := 2) hC dX12_apply_96 (by decide) ?_
          refine aw_putI hC dX12_apply_97 aF_X12_166 rfl rfl (tg_44 hT) ?_
          refine aw_aload_n hC dX12_apply_100 rfl ?_
          refine aw_getI hC dX12_apply_101 aF_X12_166 rfl (tg_44 hT) ?_
          rw [a_u_self (f := a_u I 44 61 0) (o := 44) (k := 61) (v := 2)]
          refine aw_if_le (tgt := 109) hC dX12_apply_104 (by decide) (fun h14 => absurd h14 (by decide)) (fun _ => ?_)
          show AW X 0 0 107 [some (.ref 44), some (.int (nI x)), some (.int 0), none] [] T (a_u (a_u I 44 61 0) 44 61 2) J R
          refine aw_iconst (v := 0) hC dX12_apply_107 (by decide) ?_
          exact aw_ireturn hC hq rfl dX12_apply_108 a_le a_le (aPure_e (by clear hC hq; (try simp only [bI_e0, bI_n0, decide_eq_false_iff_not, decide_eq_true_eq, Classical.not_not] at *) <;> first | grind [nI_p1, a_u_2] | (exfalso; (simp only [i_le, i_lt, i_eq, Int32.reduceToInt] at *); omega)) (by clear hC hq; (try simp only [bI_e0, bI_n0, decide_eq_false_iff_not, decide_eq_true_eq, Classical.not_not] at *) <;> first | grind [nI_p1, a_u_2] | (exfalso; (simp only [i_le, i_lt, i_eq, Int32.reduceToInt] at *); omega)) rfl rfl)
        · show AW X 0 0 66 [some (.ref 44), some (.int (nI x)), none, none] [] T (a_u I 44 61 0) J R
          refine aw_aload_n hC dX12_apply_66 rfl ?_
          refine aw_getI hC dX12_apply_67 aF_X12_123 rfl (tg_44 hT) ?_
          rw [a_u_ne (f := I) (o := 44) (k := 61) (a := 44) (b := 45) (v := 0) (fun q => absurd q.2 (by decide))]
          refine aw_if_ge (tgt := 77) hC dX12_apply_70 (by decide) (fun h15 => ?_) (fun h15 => ?_)
          · show AW X 0 0 77 [some (.ref 44), some (.int (nI x)), none, none] [] T (a_u I 44 61 0) J R
            refine aw_iconst (v := 0) hC dX12_apply_77 (by decide) ?_
            refine aw_istore_n (L2 := [some (.ref 44), some (.int (nI x)), some (.int 0), none]) hC dX12_apply_78 rfl (by decide) rfl ?_
            refine aw_aload_n hC dX12_apply_79 rfl ?_
            refine aw_iload_n hC dX12_apply_80 rfl ?_
            refine aw_if_eq (tgt := 96) hC dX12_apply_81 (by decide) (fun _ => ?_) (fun h16 => absurd h16 (by decide))
            show AW X 0 0 96 [some (.ref 44), some (.int (nI x)), some (.int 0), none] [.ref 44] T (a_u I 44 61 0) J R
            refine aw_iconst (v := 2) hC dX12_apply_96 (by decide) ?_
            refine aw_putI hC dX12_apply_97 aF_X12_166 rfl rfl (tg_44 hT) ?_
            refine aw_aload_n hC dX12_apply_100 rfl ?_
            refine aw_getI hC dX12_apply_101 aF_X12_166 rfl (tg_44 hT) ?_
            rw [a_u_self (f := a_u I 44 61 0) (o := 44) (k := 61) (v := 2)]
            refine aw_if_le (tgt := 109) hC dX12_apply_104 (by decide) (fun h17 => absurd h17 (by decide)) (fun _ => ?_)
            show AW X 0 0 107 [some (.ref 44), some (.int (nI x)), some (.int 0), none] [] T (a_u (a_u I 44 61 0) 44 61 2) J R
            refine aw_iconst (v := 0) hC dX12_apply_107 (by decide) ?_
            exact aw_ireturn hC hq rfl dX12_apply_108 a_le a_le (aPure_e (by clear hC hq; (try simp only [bI_e0, bI_n0, decide_eq_false_iff_not, decide_eq_true_eq, Classical.not_not] at *) <;> first | grind [nI_p1, a_u_2] | (exfalso; (simp only [i_le, i_lt, i_eq, Int32.reduceToInt] at *); omega)) (by clear hC hq; (try simp only [bI_e0, bI_n0, decide_eq_false_iff_not, decide_eq_true_eq, Classical.not_not] at *) <;> first | grind [nI_p1, a_u_2] | (exfalso; (simp only [i_le, i_lt, i_eq, Int32.reduceToInt] at *); omega)) rfl rfl)
          · show AW X 0 0 73 [some (.ref 44), some (.int (nI x)), none, none] [] T (a_u I 44 61 0) J R
            exact absurd ⟨by assumption, by assumption, by assumption, Int32.not_le.mp (by assumption), Int32.not_le.mp (by assumption)⟩ hn
set_option maxRecDepth 100000 in
theorem m_X12_applyT {T : List aT} {I : aI} {J : aJ} {R : aR} (hT : aPT T) (hR : aPR R) {n g : Nat} (hS : SW I n) (hZ : Zr J) (hg : GW I g) {p x : Nat} (hp : I 44 36 = nI p) (hp9 : p ≤ 40) (hx : x < p) (hm : NR I 79 40 129) (hc : canAp I x) : MX12_apply 0 0 [.ref 44, .int (nI x)] T I J R (aRel (fun I3 _ => some (.int (if I3 44 61 = 0 then I 79 x else 0))) (fun I3 J2 => ∃ I2, PlR (a_u I 44 61 0) I2 J J2 n g ∧ I3 = if hA I2 J2 n g x = true then apS I2 x else a_u I2 44 61 2) T R) := by
  refine a_met (by decide +kernel) a_le (fun X hC hq => ?_)
  show AW X 0 0 0 [some (.ref 44), some (.int (nI x)), none, none] [] T I J R
  refine aw_aload_n hC dX12_apply_0 rfl ?_
  refine aw_aload_n hC dX12_apply_1 rfl ?_
  refine aw_iload_n hC dX12_apply_2 rfl ?_
  refine kX12_386 hC rfl (m_X12_isPlan hT hR (nI x) (p := p) (by assumption) (by omega)) dX12_apply_3 (tg_44 hT) rfl a_le a_le a_le a_le a_le rfl aPure_x (aPure_k ?_)
  show AW X 0 0 6 [some (.ref 44), some (.int (nI x)), none, none] [.int (bI (decide (0 ≤ (nI x) ∧ (nI x) < nI p))), .ref 44] T I J R
  rw [show bI (decide (0 ≤ (nI x) ∧ (nI x) < nI p)) = 1 from bI_one (nI_btw hx (by omega))]
  refine aw_if_eq (tgt := 13) hC dX12_apply_6 (by decide) (fun h1 => absurd h1 (by decide)) (fun _ => ?_)
  show AW X 0 0 9 [some (.ref 44), some (.int (nI x)), none, none] [.ref 44] T I J R
  refine aw_iconst (v := 0) hC dX12_apply_9 (by decide) ?_
  refine aw_goto (tgt := 14) hC dX12_apply_10 (by decide) ?_
  refine aw_putI hC dX12_apply_14 aF_X12_166 rfl rfl (tg_44 hT) ?_
  refine aw_aload_n hC dX12_apply_17 rfl ?_
  refine aw_getI hC dX12_apply_18 aF_X12_166 rfl (tg_44 hT) ?_
  rw [a_u_self (f := I) (o := 44) (k := 61) (v := 0)]
  refine aw_if_le (tgt := 26) hC dX12_apply_21 (by decide) (fun _ => ?_) (fun h2 => absurd h2 (by decide))
  show AW X 0 0 26 [some (.ref 44), some (.int (nI x)), none, none] [] T (a_u I 44 61 0) J R
  refine aw_aload_n hC dX12_apply_26 rfl ?_
  refine aw_getR hC dX12_apply_27 aF_X12_107 rfl (tg_44 hT) (pr_44_39 hR) ?_
  refine aw_iload_n hC dX12_apply_30 rfl ?_
  refine aw_baload_k (j := x) hC dX12_apply_31 (tg_77 hT) (nI_clamp (by omega)) (vp_in_nI (by omega) (by decide)) ?_
  rw [a_u_ne (f := I) (o := 44) (k := 61) (a := 77) (b := x) (v := 0) (fun q => absurd q.1 (by decide))]
  refine aw_if_eq (tgt := 77) hC dX12_apply_32 (by decide) (fun h => absurd h hc.1) (fun _ => ?_)
  show AW X 0 0 35 [some (.ref 44), some (.int (nI x)), none, none] [] T (a_u I 44 61 0) J R
  refine aw_aload_n hC dX12_apply_35 rfl ?_
  refine aw_getR hC dX12_apply_36 aF_X12_110 rfl (tg_44 hT) (pr_44_40 hR) ?_
  refine aw_iload_n hC dX12_apply_39 rfl ?_
  refine aw_baload_k (j := x) hC dX12_apply_40 (tg_78 hT) (nI_clamp (by omega)) (vp_in_nI (by omega) (by decide)) ?_
  rw [a_u_ne (f := I) (o := 44) (k := 61) (a := 78) (b := x) (v := 0) (fun q => absurd q.1 (by decide))]
  refine aw_if_ne (tgt := 77) hC dX12_apply_41 (by decide) (fun h => absurd hc.2.1 h) (fun _ => ?_)
  show AW X 0 0 44 [some (.ref 44), some (.int (nI x)), none, none] [] T (a_u I 44 61 0) J R
  refine aw_aload_n hC dX12_apply_44 rfl ?_
  refine aw_getR hC dX12_apply_45 aF_X12_104 rfl (tg_44 hT) (pr_44_38 hR) ?_
  refine aw_iload_n hC dX12_apply_48 rfl ?_
  refine aw_iaload_k (j := x) hC dX12_apply_49 (tg_76 hT) (nI_clamp (by omega)) (vp_in_nI (by omega) (by decide)) ?_
  rw [a_u_ne (f := I) (o := 44) (k := 61) (a := 76) (b := x) (v := 0) (fun q => absurd q.1 (by decide))]
  refine aw_aload_n hC dX12_apply_50 rfl ?_
  refine aw_getI hC dX12_apply_51 aF_X12_343 rfl (tg_44 hT) ?_
  rw [a_u_ne (f := I) (o := 44) (k := 61) (a := 44) (b := 35) (v := 0) (fun q => absurd q.2 (by decide))]
  refine aw_icmp_ne (tgt := 77) hC dX12_apply_54 (by decide) (fun h => absurd hc.2.2.1 h) (fun _ => ?_)
  show AW X 0 0 57 [some (.ref 44), some (.int (nI x)), none, none] [] T (a_u I 44 61 0) J R
  refine aw_aload_n hC dX12_apply_57 rfl ?_
  refine aw_getR hC dX12_apply_58 aF_X12_113 rfl (tg_44 hT) (pr_44_41 hR) ?_
  refine aw_iload_n hC dX12_apply_61 rfl ?_
  refine aw_iaload_k (j := x) hC dX12_apply_62 (tg_79 hT) (nI_clamp (by omega)) (vp_in_nI (by omega) (by decide)) ?_
  rw [a_u_ne (f := I) (o := 44) (k := 61) (a := 79) (b := x) (v := 0) (fun q => absurd q.1 (by decide))]
  refine aw_if_le (tgt := 77) hC dX12_apply_63 (by decide) (fun h => absurd hc.2.2.2.1 (Int32.not_lt.mpr h)) (fun _ => ?_)
  show AW X 0 0 66 [some (.ref 44), some (.int (nI x)), none, none] [] T (a_u I 44 61 0) J R
  refine aw_aload_n hC dX12_apply_66 rfl ?_
  refine aw_getI hC dX12_apply_67 aF_X12_123 rfl (tg_44 hT) ?_
  rw [a_u_ne (f := I) (o := 44) (k := 61) (a := 44) (b := 45) (v := 0) (fun q => absurd q.2 (by decide))]
  refine aw_if_ge (tgt := 77) hC dX12_apply_70 (by decide) (fun h => absurd hc.2.2.2.2 (Int32.not_lt.mpr h)) (fun _ => ?_)
  show AW X 0 0 73 [some (.ref 44), some (.int (nI x)), none, none] [] T (a_u I 44 61 0) J R
  refine aw_iconst (v := 1) hC dX12_apply_73 (by decide) ?_
  refine aw_goto (tgt := 78) hC dX12_apply_74 (by decide) ?_
  refine aw_istore_n (L2 := [some (.ref 44), some (.int (nI x)), some (.int 1), none]) hC dX12_apply_78 rfl (by decide) rfl ?_
  refine aw_aload_n hC dX12_apply_79 rfl ?_
  refine aw_iload_n hC dX12_apply_80 rfl ?_
  refine aw_if_eq (tgt := 96) hC dX12_apply_81 (by decide) (fun h3 => absurd h3 (by decide)) (fun _ => ?_)
  show AW X 0 0 84 [some (.ref 44), some (.int (nI x)), some (.int 1), none] [.ref 44] T (a_u I 44 61 0) J R
  refine aw_aload_n hC dX12_apply_84 rfl ?_
  refine aw_iload_n hC dX12_apply_85 rfl ?_
  refine kX12_389 hC rfl (m_X12_hasAll (I := a_u I 44 61 0) (J := J) (n := n) (g := g) hT hR hS.th hZ hg.th (p := x) (by omega) (hm.ne (by decide))) dX12_apply_86 (tg_44 hT) rfl a_le a_le a_le a_le a_le rfl aRel_x (aRel_k (fun I2 J2 hQ => ?_))
  have hPl : PlR (a_u I 44 61 0) I2 J J2 n g := hQ
  have hf2 : ∀ o, o ≠ 44 ∧ o ≠ 83 ∧ o ≠ 84 ∧ o ≠ 85 ∧ o ≠ 86 ∧ o ≠ 91 ∧ o ≠ 92 → I2 o = I o := fun o ho => (hPl.fr o ho).trans (a_u_row ho.1)
  show AW X 0 0 89 [some (.ref 44), some (.int (nI x)), some (.int 1), none] [.int (bI (hA I2 J2 n g x)), .ref 44] T I2 J2 R
  refine aw_if_eq (tgt := 96) hC dX12_apply_89 (by decide) (fun h4 => ?_) (fun h4 => ?_)
  · show AW X 0 0 96 [some (.ref 44), some (.int (nI x)), some (.int 1), none] [.ref 44] T I2 J2 R
    refine aw_iconst (v := 2) hC dX12_apply_96 (by decide) ?_
    refine aw_putI hC dX12_apply_97 aF_X12_166 rfl rfl (tg_44 hT) ?_
    refine aw_aload_n hC dX12_apply_100 rfl ?_
    refine aw_getI hC dX12_apply_101 aF_X12_166 rfl (tg_44 hT) ?_
    rw [a_u_self (f := I2) (o := 44) (k := 61) (v := 2)]
    refine aw_if_le (tgt := 109) hC dX12_apply_104 (by decide) (fun h5 => absurd h5 (by decide)) (fun _ => ?_)
    show AW X 0 0 107 [some (.ref 44), some (.int (nI x)), some (.int 1), none] [] T (a_u I2 44 61 2) J2 R
    refine aw_iconst (v := 0) hC dX12_apply_107 (by decide) ?_
    exact aw_ireturn hC hq rfl dX12_apply_108 a_le a_le ⟨by dsimp only; rw [a_u_self]; rfl, rfl, rfl, I2, hPl, (if_neg (fun q => absurd (by assumption) (bI_n0.mpr q))).symm⟩
  · show AW X 0 0 92 [some (.ref 44), some (.int (nI x)), some (.int 1), none] [.ref 44] T I2 J2 R
    refine aw_iconst (v := 0) hC dX12_apply_92 (by decide) ?_
    refine aw_goto (tgt := 97) hC dX12_apply_93 (by decide) ?_
    refine aw_putI hC dX12_apply_97 aF_X12_166 rfl rfl (tg_44 hT) ?_
    refine aw_aload_n hC dX12_apply_100 rfl ?_
    refine aw_getI hC dX12_apply_101 aF_X12_166 rfl (tg_44 hT) ?_
    rw [a_u_self (f := I2) (o := 44) (k := 61) (v := 0)]
    refine aw_if_le (tgt := 109) hC dX12_apply_104 (by decide) (fun _ => ?_) (fun h6 => absurd h6 (by decide))
    show AW X 0 0 109 [some (.ref 44), some (.int (nI x)), some (.int 1), none] [] T (a_u I2 44 61 0) J2 R
    refine aw_aload_n hC dX12_apply_109 rfl ?_
    refine aw_getR hC dX12_apply_110 aF_X12_110 rfl (tg_44 hT) (pr_44_40 hR) ?_
    refine aw_iload_n hC dX12_apply_113 rfl ?_
    refine aw_iconst (v := 1) hC dX12_apply_114 (by decide) ?_
    refine aw_bastore_k (j := x) hC dX12_apply_115 (tg_78 hT) (nI_clamp (by omega)) (vp_in_nI (by omega) (by decide)) (Or.inr rfl) ?_
    refine aw_aload_n hC dX12_apply_116 rfl ?_
    refine aw_iload_n hC dX12_apply_117 rfl ?_
    refine aw_putI hC dX12_apply_118 aF_X12_119 rfl rfl (tg_44 hT) ?_
    refine aw_aload_n hC dX12_apply_121 rfl ?_
    refine aw_iconst (v := 0) hC dX12_apply_122 (by decide) ?_
    refine aw_putI hC dX12_apply_123 aF_X12_392 rfl rfl (tg_44 hT) ?_
    refine aw_aload_n hC dX12_apply_126 rfl ?_
    refine aw_aload_n hC dX12_apply_127 rfl ?_
    refine aw_getI hC dX12_apply_128 aF_X12_193 rfl (tg_44 hT) ?_
    rw [a_u_ne (f := a_u (a_u (a_u I2 44 61 0) 78 x 1) 44 43 (nI x)) (o := 44) (k := 44) (a := 44) (b := 13) (v := 0) (fun q => absurd q.2 (by decide))]
    rw [a_u_ne (f := a_u (a_u I2 44 61 0) 78 x 1) (o := 44) (k := 43) (a := 44) (b := 13) (v := nI x) (fun q => absurd q.2 (by decide))]
    rw [a_u_ne (f := a_u I2 44 61 0) (o := 78) (k := x) (a := 44) (b := 13) (v := 1) (fun q => absurd q.1 (by decide))]
    rw [a_u_ne (f := I2) (o := 44) (k := 61) (a := 44) (b := 13) (v := 0) (fun q => absurd q.2 (by decide))]
    refine aw_iconst (v := 3) hC dX12_apply_131 (by decide) ?_
    refine aw_iadd hC dX12_apply_132 ?_
    refine aw_putI hC dX12_apply_133 aF_X12_123 rfl rfl (tg_44 hT) ?_
    refine aw_iconst (v := 0) hC dX12_apply_136 (by decide) ?_
    refine aw_istore_n (L2 := [some (.ref 44), some (.int (nI x)), some (.int 1), some (.int 0)]) hC dX12_apply_137 rfl (by decide) rfl ?_
    rw [show a_u (a_u (a_u (a_u (a_u I2 44 61 0) 78 x 1) 44 43 (nI x)) 44 44 0) 44 45 ((I2 44 13) + 3) = a_ur (a_ur (a_u (a_u (a_u (a_u (a_u I2 44 61 0) 78 x 1) 44 43 (nI x)) 44 44 0) 44 45 ((I2 44 13) + 3)) 81 (apR 0 (I2 81))) 82 (apR 0 (I2 82)) from by rw [a_ur_id (f := a_u (a_u (a_u (a_u (a_u I2 44 61 0) 78 x 1) 44 43 (nI x)) 44 44 0) 44 45 ((I2 44 13) + 3)) (o := 81) (fun j => by simp only [apR]; rw [if_neg (by omega), a_u_row (by decide), a_u_row (by decide), a_u_row (by decide), a_u_row (by decide), a_u_row (by decide)]), a_ur_id (f := a_u (a_u (a_u (a_u (a_u I2 44 61 0) 78 x 1) 44 43 (nI x)) 44 44 0) 44 45 ((I2 44 13) + 3)) (o := 82) (fun j => by simp only [apR]; rw [if_neg (by omega), a_u_row (by decide), a_u_row (by decide), a_u_row (by decide), a_u_row (by decide), a_u_row (by decide)])]]
    have loop : ∀ k, k ≤ 64 → AW X 0 0 138 [some (.ref 44), some (.int (nI x)), some (.int 1), some (.int (nI k))] [] T (a_ur (a_ur (a_u (a_u (a_u (a_u (a_u I2 44 61 0) 78 x 1) 44 43 (nI x)) 44 44 0) 44 45 ((I2 44 13) + 3)) 81 (apR k (I2 81))) 82 (apR k (I2 82))) J2 R := by
      refine a_down 64 (fun k hkl ih => ?_)
      refine aw_iload_n hC dX12_apply_138 rfl ?_
      refine aw_bipush (v := 64) hC dX12_apply_139 (by decide) ?_
      refine aw_icmp_ge (tgt := 164) hC dX12_apply_141 (by decide) (fun h7 => ?_) (fun h7 => ?_)
      · show AW X 0 0 164 [some (.ref 44), some (.int (nI x)), some (.int 1), some (.int (nI k))] [] T (a_ur (a_ur (a_u (a_u (a_u (a_u (a_u I2 44 61 0) 78 x 1) 44 43 (nI x)) 44 44 0) 44 45 ((I2 44 13) + 3)) 81 (apR k (I2 81))) 82 (apR k (I2 82))) J2 R
        have h7n : 64 ≤ k := (nI_leI (a := 64) (b := k) (by omega) (by omega)).mp h7
        refine aw_aload_n hC dX12_apply_164 rfl ?_
        refine aw_getR hC dX12_apply_165 aF_X12_113 rfl (tg_44 hT) (pr_44_41 hR) ?_
        refine aw_iload_n hC dX12_apply_168 rfl ?_
        refine aw_iaload_k (j := x) hC dX12_apply_169 (tg_79 hT) (nI_clamp (by omega)) (vp_in_nI (by omega) (by decide)) ?_
        rw [a_ur_ne (f := a_ur (a_u (a_u (a_u (a_u (a_u I2 44 61 0) 78 x 1) 44 43 (nI x)) 44 44 0) 44 45 ((I2 44 13) + 3)) 81 (apR k (I2 81))) (o := 82) (a := 79) (g := apR k (I2 82)) (by decide)]
        rw [a_ur_ne (f := a_u (a_u (a_u (a_u (a_u I2 44 61 0) 78 x 1) 44 43 (nI x)) 44 44 0) 44 45 ((I2 44 13) + 3)) (o := 81) (a := 79) (g := apR k (I2 81)) (by decide)]
        rw [a_u_ne (f := a_u (a_u (a_u (a_u I2 44 61 0) 78 x 1) 44 43 (nI x)) 44 44 0) (o := 44) (k := 45) (a := 79) (b := x) (v := (I2 44 13) + 3) (fun q => absurd q.1 (by decide))]
        rw [a_u_ne (f := a_u (a_u (a_u I2 44 61 0) 78 x 1) 44 43 (nI x)) (o := 44) (k := 44) (a := 79) (b := x) (v := 0) (fun q => absurd q.1 (by decide))]
        rw [a_u_ne (f := a_u (a_u I2 44 61 0) 78 x 1) (o := 44) (k := 43) (a := 79) (b := x) (v := nI x) (fun q => absurd q.1 (by decide))]
        rw [a_u_ne (f := a_u I2 44 61 0) (o := 78) (k := x) (a := 79) (b := x) (v := 1) (fun q => absurd q.1 (by decide))]
        rw [a_u_ne (f := I2) (o := 44) (k := 61) (a := 79) (b := x) (v := 0) (fun q => absurd q.1 (by decide))]
        rw [hf2 79 (by decide)]
        exact aw_ireturn hC hq rfl dX12_apply_170 a_le a_le ⟨by dsimp only; rw [a_ur_ne (by decide), a_ur_ne (by decide), a_u_ne (by decide), a_u_ne (by decide), a_u_ne (by decide), a_u_row (by decide), a_u_self, if_pos rfl], rfl, rfl, I2, hPl, by rw [if_pos (bI_n0.mp (by assumption)), show k = 64 from by omega]⟩
      · show AW X 0 0 144 [some (.ref 44), some (.int (nI x)), some (.int 1), some (.int (nI k))] [] T (a_ur (a_ur (a_u (a_u (a_u (a_u (a_u I2 44 61 0) 78 x 1) 44 43 (nI x)) 44 44 0) 44 45 ((I2 44 13) + 3)) 81 (apR k (I2 81))) 82 (apR k (I2 82))) J2 R
        have h7n : ¬ 64 ≤ k := fun q9 => h7 ((nI_leI (a := 64) (b := k) (by omega) (by omega)).mpr q9)
        refine aw_aload_n hC dX12_apply_144 rfl ?_
        refine aw_getR hC dX12_apply_145 aF_X12_126 rfl (tg_44 hT) (pr_44_46 hR) ?_
        refine aw_iload_n hC dX12_apply_148 rfl ?_
        refine aw_iconst (v := 0) hC dX12_apply_149 (by decide) ?_
        refine aw_bastore_k (j := k) hC dX12_apply_150 (tg_81 hT) (nI_clamp (by omega)) (vp_in_nI (by omega) (by decide)) (Or.inl rfl) ?_
        rw [show a_u (a_ur (a_ur (a_u (a_u (a_u (a_u (a_u I2 44 61 0) 78 x 1) 44 43 (nI x)) 44 44 0) 44 45 ((I2 44 13) + 3)) 81 (apR k (I2 81))) 82 (apR k (I2 82))) 81 k 0 = a_ur (a_ur (a_u (a_u (a_u (a_u (a_u I2 44 61 0) 78 x 1) 44 43 (nI x)) 44 44 0) 44 45 ((I2 44 13) + 3)) 81 (fun j => if j = k then 0 else (apR k (I2 81)) j)) 82 (apR k (I2 82)) from by rw [a_u_swap (by first | decide | omega), a_ur_put]]
        refine aw_aload_n hC dX12_apply_151 rfl ?_
        refine aw_getR hC dX12_apply_152 aF_X12_129 rfl (tg_44 hT) (pr_44_47 hR) ?_
        refine aw_iload_n hC dX12_apply_155 rfl ?_
        refine aw_iconst (v := 0) hC dX12_apply_156 (by decide) ?_
        refine aw_iastore_k (j := k) hC dX12_apply_157 (tg_82 hT) (nI_clamp (by omega)) (vp_in_nI (by omega) (by decide)) ?_
        rw [show a_u (a_ur (a_ur (a_u (a_u (a_u (a_u (a_u I2 44 61 0) 78 x 1) 44 43 (nI x)) 44 44 0) 44 45 ((I2 44 13) + 3)) 81 (fun j => if j = k then 0 else (apR k (I2 81)) j)) 82 (apR k (I2 82))) 82 k 0 = a_ur (a_ur (a_u (a_u (a_u (a_u (a_u I2 44 61 0) 78 x 1) 44 43 (nI x)) 44 44 0) 44 45 ((I2 44 13) + 3)) 81 (fun j => if j = k then 0 else (apR k (I2 81)) j)) 82 (fun j => if j = k then 0 else (apR k (I2 82)) j) from by rw [a_ur_put]]
        refine aw_iinc (v := nI (k + 1)) (L2 := [some (.ref 44), some (.int (nI x)), some (.int 1), some (.int (nI (k + 1)))]) hC dX12_apply_158 rfl (nI_inc _) (by decide) rfl ?_
        refine aw_goto (tgt := 138) hC dX12_apply_161 (by decide) ?_
        rw [show a_ur (a_ur (a_u (a_u (a_u (a_u (a_u I2 44 61 0) 78 x 1) 44 43 (nI x)) 44 44 0) 44 45 ((I2 44 13) + 3)) 81 (fun j => if j = k then 0 else (apR k (I2 81)) j)) 82 (fun j => if j = k then 0 else (apR k (I2 82)) j) = a_ur (a_ur (a_u (a_u (a_u (a_u (a_u I2 44 61 0) 78 x 1) 44 43 (nI x)) 44 44 0) 44 45 ((I2 44 13) + 3)) 81 (apR (k + 1) (I2 81))) 82 (apR (k + 1) (I2 82)) from a_ur_cg (a_ur_ext ap_put) ap_put]
        exact ih (by omega)
    exact loop 0 (Nat.zero_le _)
