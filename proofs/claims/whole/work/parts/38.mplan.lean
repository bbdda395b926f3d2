/-- the actions that a name brings on the way up, and on the way down -/
def upL (I : aI) (x : Nat) : List Nat := (if I 91 x = 3 ∧ I 59 (iN I 62 (x / 16)) = 0 then [300 + x] else []) ++ ((if I 91 x = 1 ∨ I 91 x = 3 then [100 + x] else []) ++ (if I 91 x = 2 then [200 + x] else []))
def dnL (I : aI) (x : Nat) : List Nat := (if I 91 x = 4 then [300 + x] else []) ++ (if I 91 x = 3 ∧ I 59 (iN I 62 (x / 16)) ≠ 0 then [400 + x] else [])
def aUp (I : aI) : Nat → List Nat
  | 0 => []
  | k + 1 => aUp I k ++ upL I k
def aDn (I : aI) (n : Nat) : Nat → List Nat
  | 0 => []
  | j + 1 => aDn I n j ++ dnL I (n - 1 - j)
theorem ud_2 (I : aI) (x : Nat) : (upL I x).length + (dnL I x).length ≤ 2 := by
  unfold upL dnL
  by_cases h1 : I 91 x = 1
  · simp [h1]
  by_cases h2 : I 91 x = 2
  · simp [h2]
  by_cases h3 : I 91 x = 3
  · by_cases h5 : I 59 (iN I 62 (x / 16)) = 0 <;> simp [h3, h5]
  by_cases h4 : I 91 x = 4
  · simp [h4]
  simp [h1, h2, h3, h4]
theorem aUp_2 (I : aI) : ∀ k, (aUp I k).length ≤ 2 * k
  | 0 => Nat.le_refl _
  | k + 1 => by have := aUp_2 I k; have := ud_2 I k; simp only [aUp, List.length_append]; omega
theorem aDn_2 (I : aI) (n : Nat) : ∀ j, j ≤ n → (aUp I n).length + (aDn I n j).length ≤ 2 * j + (aUp I (n - j)).length
  | 0, _ => by simp [aDn]
  | j + 1, hj => by
    have h1 := aDn_2 I n j (by omega)
    have h2 := ud_2 I (n - 1 - j)
    have e : n - j = (n - 1 - j) + 1 := by omega
    rw [e] at h1
    simp only [aUp, List.length_append] at h1
    simp only [aDn, List.length_append]
    rw [show n - (j + 1) = n - 1 - j by omega]; omega
abbrev allA (I : aI) (n : Nat) : List Nat := aUp I n ++ aDn I n n
/-- the list holds A; nothing else has changed -/
def LI (I0 I3 : aI) (A : List Nat) : Prop := (∀ o, o ≠ 44 ∧ o ≠ 92 → I3 o = I0 o) ∧ (∀ j, j ≠ 59 → I3 44 j = I0 44 j) ∧ I3 44 59 = nI A.length ∧ ∀ k (h : k < A.length), I3 92 k = nI A[k]
theorem LI.put {I0 I3 : aI} {A : List Nat} {a l : Nat} (h : LI I0 I3 A) (hl : l = A.length) : LI I0 (a_u (a_u I3 92 l (nI a)) 44 59 (nI (l + 1))) (A ++ [a]) := by
  subst hl
  refine ⟨fun o ho => by rw [a_u_row ho.1, a_u_row ho.2]; exact h.1 o ho, fun j hj => by rw [a_u_ne (fun q => hj q.2), a_u_row (by decide)]; exact h.2.1 j hj, by rw [a_u_self, List.length_append]; rfl, fun k hk => ?_⟩
  rw [a_u_row (by decide)]
  by_cases e : k = A.length
  · subst e; rw [a_u_self, List.getElem_concat_length rfl]
  · rw [a_u_ne (fun q => e q.2), List.getElem_append_left (by rw [List.length_append] at hk; simp at hk; omega)]; exact h.2.2.2 k _
theorem LI.st (I0 : aI) : LI I0 (a_u I0 44 59 0) [] := ⟨fun o ho => by rw [a_u_row ho.1], fun j hj => by rw [a_u_ne (fun q => hj q.2)], by rw [a_u_self]; rfl, fun k hk => absurd hk (by simp)⟩
theorem LI.gw {I0 I3 : aI} {A : List Nat} {g : Nat} (h : LI I0 I3 A) (hg : GW I0 g) : GW I3 g :=
  GW_cg (h.2.1 20 (by decide)) (h.1 65 (by decide)) (h.1 62 (by decide)) (h.1 61 (by decide)) (h.1 63 (by decide)) (h.1 71 (by decide)) hg
theorem LI.sw {I0 I3 : aI} {A : List Nat} {n : Nat} (h : LI I0 I3 A) (hg : SW I0 n) : SW I3 n :=
  SW_cg (h.2.1 0 (by decide)) (h.1 45 (by decide)) (h.1 46 (by decide)) (h.1 47 (by decide)) (h.1 48 (by decide)) (h.1 49 (by decide)) (h.1 50 (by decide)) (h.1 51 (by decide)) (h.1 53 (by decide)) hg
theorem LI.gok {I0 I3 : aI} {A : List Nat} {n : Nat} (h : LI I0 I3 A) (hg : GOK I0 n) : GOK I3 n := fun s hs => by
  rw [h.1 85 (by decide), h.1 46 (by decide)]; exact hg s hs
/-- what plansNow leaves: I2 compared, the list -/
def PlR (I I2 : aI) (J J2 : aJ) (n g : Nat) : Prop := ∃ I1 Ic, SolP I I1 J J2 n ∧ (∃ S, Ic = a_ur I1 91 S) ∧ CmpOK Ic J2 g ∧ LI Ic I2 (allA Ic (16 * g))
set_option maxRecDepth 100000 in
theorem m_X12_plansNow {T : List aT} {I : aI} {J : aJ} {R : aR} (hT : aPT T) (hR : aPR R) {n g : Nat} (hS : SW I n) (hZ : Zr J) (hg : GW I g) : MX12_plansNow 0 0 [.ref 44] T I J R (aRel (fun I2 J2 => some (.int (bI (cP I2 J2 n g)))) (fun I2 J2 => PlR I I2 J J2 n g) T R) := by
  refine a_met (by decide +kernel) a_le (fun X hC hq => ?_)
  show AW X 0 0 0 [some (.ref 44), none, none, none] [] T I J R
  refine aw_aload_n hC dX12_plansNow_0 rfl ?_
  refine kX12_364 hC rfl (m_X12_comparesAll (I := I) (J := J) (n := n) (g := g) hT hR hS hZ hg) dX12_plansNow_1 (tg_44 hT) rfl a_le a_le a_le a_le a_le rfl aRel_x (aRel_k (fun Ic J1 hQ => ?_))
  obtain ⟨I1, hSol, hSx, hCm⟩ := hQ
  have hgc : GW Ic g := by obtain ⟨S9, hS9⟩ := hSx; rw [hS9]; exact GW_cg (by rw [a_ur_ne (by decide)]) (a_ur_ne (by decide)) (a_ur_ne (by decide)) (a_ur_ne (by decide)) (a_ur_ne (by decide)) (a_ur_ne (by decide)) (hSol.gw hg)
  have hsc : SW Ic n := by obtain ⟨S9, hS9⟩ := hSx; rw [hS9]; exact SW_cg (by rw [a_ur_ne (by decide)]) (a_ur_ne (by decide)) (a_ur_ne (by decide)) (a_ur_ne (by decide)) (a_ur_ne (by decide)) (a_ur_ne (by decide)) (a_ur_ne (by decide)) (a_ur_ne (by decide)) (a_ur_ne (by decide)) (hSol.sw hS)
  have hkc : GOK Ic n := by obtain ⟨S9, hS9⟩ := hSx; rw [hS9]; intro s hs; rw [a_ur_ne (by decide), a_ur_ne (by decide)]; exact hSol.gok hS s hs
  have hg4 := hg.g4
  show AW X 0 0 4 [some (.ref 44), none, none, none] [] T Ic J1 R
  refine aw_aload_n hC dX12_plansNow_4 rfl ?_
  refine aw_iconst (v := 0) hC dX12_plansNow_5 (by decide) ?_
  refine aw_putI hC dX12_plansNow_6 aF_X12_361 rfl rfl (tg_44 hT) ?_
  refine aw_bipush (v := 16) hC dX12_plansNow_9 (by decide) ?_
  refine aw_aload_n hC dX12_plansNow_11 rfl ?_
  refine aw_getI hC dX12_plansNow_12 aF_X12_312 rfl (tg_44 hT) ?_
  rw [a_u_ne (f := Ic) (o := 44) (k := 59) (a := 44) (b := 20) (v := 0) (fun q => absurd q.2 (by decide))]
  rw [hgc.gn]
  refine aw_imul hC dX12_plansNow_15 ?_
  rw [show 16 * (nI g) = nI (16 * g) from pk_mul 16 g]
  refine aw_istore_n (L2 := [some (.ref 44), some (.int (nI (16 * g))), none, none]) hC dX12_plansNow_16 rfl (by decide) rfl ?_
  refine aw_iconst (v := 0) hC dX12_plansNow_17 (by decide) ?_
  refine aw_istore_n (L2 := [some (.ref 44), some (.int (nI (16 * g))), some (.int 0), none]) hC dX12_plansNow_18 rfl (by decide) rfl ?_
  have loop1 : ∀ k, k ≤ 16 * g → ∀ I3 : aI, LI Ic I3 (aUp Ic k) → AW X 0 0 19 [some (.ref 44), some (.int (nI (16 * g))), some (.int (nI k)), none] [] T I3 J1 R := by
    refine a_down (16 * g) (fun k hk1 ih1 => ?_)
    intro I3 hL
    have hl0 := aUp_2 Ic k
    refine aw_iload_n hC dX12_plansNow_19 rfl ?_
    refine aw_iload_n hC dX12_plansNow_20 rfl ?_
    refine aw_icmp_ge (tgt := 107) hC dX12_plansNow_21 (by decide) (fun h1 => ?_) (fun h1 => ?_)
    · show AW X 0 0 107 [some (.ref 44), some (.int (nI (16 * g))), some (.int (nI k)), none] [] T I3 J1 R
      have h1n : (16 * g) ≤ k := (nI_leI (a := (16 * g)) (b := k) (by omega) (by omega)).mp h1
      refine aw_iload_n hC dX12_plansNow_107 rfl ?_
      refine aw_iconst (v := 1) hC dX12_plansNow_108 (by decide) ?_
      refine aw_isub hC dX12_plansNow_109 ?_
      refine aw_istore_n (L2 := [some (.ref 44), some (.int (nI (16 * g))), some (.int ((nI (16 * g)) - 1)), none]) hC dX12_plansNow_110 rfl (by decide) rfl ?_
      have hLu : LI Ic I3 (aUp Ic (16 * g) ++ aDn Ic (16 * g) 0) := by rw [show k = 16 * g from by omega] at hL; rw [aDn, List.append_nil]; exact hL
      rw [show nI (16 * g) - 1 = nI (16 * g) + (-1) from Int32.sub_eq_add_neg ..]
      have loop2 : ∀ m, m ≤ 16 * g → ∀ I4 : aI, LI Ic I4 (aUp Ic (16 * g) ++ aDn Ic (16 * g) (16 * g - m)) → AW X 0 0 111 [some (.ref 44), some (.int (nI (16 * g))), some (.int (nI m + (-1))), none] [] T I4 J1 R := by
        intro m
        induction m with
        | zero =>
          intro _ I4 hL4
          rw [show nI 0 + (-1) = (-1 : Int32) from by decide]
          refine aw_iload_n hC dX12_plansNow_111 rfl ?_
          refine aw_if_lt (tgt := 170) hC dX12_plansNow_112 (by decide) (fun _ => ?_) (fun h2 => absurd h2 (by decide))
          show AW X 0 0 170 [some (.ref 44), some (.int (nI (16 * g))), some (.int (-1)), none] [] T I4 J1 R
          refine aw_aload_n hC dX12_plansNow_170 rfl ?_
          refine kX12_371 hC rfl (m_X12_canPlan (I := I4) (J := J1) hT hR (n := n) (g := g) (LI.sw hL4 hsc) (LI.gok hL4 hkc) (LI.gw hL4 hgc)) dX12_plansNow_171 (tg_44 hT) rfl a_le a_le a_le a_le a_le rfl aPure_x (aPure_k ?_)
          show AW X 0 0 174 [some (.ref 44), some (.int (nI (16 * g))), some (.int (-1)), none] [.int (bI (cP I4 J1 n g))] T I4 J1 R
          exact aw_zreturn hC hq rfl (bI_01 _) dX12_plansNow_174 a_le a_le ⟨rfl, rfl, rfl, I1, Ic, hSol, hSx, hCm, by rw [show 16 * g - 0 = 16 * g from rfl] at hL4; exact hL4⟩
        | succ m ih =>
          intro hm I4 hL4
          rw [pk_m1]
          have hl9 := aDn_2 Ic (16 * g) (16 * g - (m + 1)) (by omega)
          have hl8 := aUp_2 Ic (16 * g - (16 * g - (m + 1)))
          have hl7 := ud_2 Ic m
          have hl6 : 16 * g - (16 * g - (m + 1)) = m + 1 := by omega
          rw [hl6] at hl9 hl8
          have hl5 := aUp_2 Ic m
          simp only [aUp, List.length_append] at hl9 hl8
          have hl4 : (aUp Ic (16 * g) ++ aDn Ic (16 * g) (16 * g - (m + 1))).length = (aUp Ic (16 * g)).length + (aDn Ic (16 * g) (16 * g - (m + 1))).length := List.length_append ..
          refine aw_iload_n hC dX12_plansNow_111 rfl ?_
          refine aw_if_lt (tgt := 170) hC dX12_plansNow_112 (by decide) (fun h => absurd ((nI_ltI (a := m) (b := 0) (by omega) (by omega)).mp h) (by omega)) (fun _ => ?_)
          show AW X 0 0 115 [some (.ref 44), some (.int (nI (16 * g))), some (.int (nI m)), none] [] T I4 J1 R
          refine aw_aload_n hC dX12_plansNow_115 rfl ?_
          refine aw_getR hC dX12_plansNow_116 aF_X12_157 rfl (tg_44 hT) (pr_44_58 hR) ?_
          refine aw_iload_n hC dX12_plansNow_119 rfl ?_
          refine aw_iaload_k (j := m) hC dX12_plansNow_120 (tg_91 hT) (nI_clamp (by omega)) (vp_in_nI (by omega) (by decide)) ?_
          rw [hL4.1 91 (by decide)]
          refine aw_iconst (v := 4) hC dX12_plansNow_121 (by decide) ?_
          refine aw_icmp_ne (tgt := 131) hC dX12_plansNow_122 (by decide) (fun h3 => ?_) (fun h3 => ?_)
          · show AW X 0 0 131 [some (.ref 44), some (.int (nI (16 * g))), some (.int (nI m)), none] [] T I4 J1 R
            refine aw_aload_n hC dX12_plansNow_131 rfl ?_
            refine aw_getR hC dX12_plansNow_132 aF_X12_157 rfl (tg_44 hT) (pr_44_58 hR) ?_
            refine aw_iload_n hC dX12_plansNow_135 rfl ?_
            refine aw_iaload_k (j := m) hC dX12_plansNow_136 (tg_91 hT) (nI_clamp (by omega)) (vp_in_nI (by omega) (by decide)) ?_
            rw [hL4.1 91 (by decide)]
            refine aw_iconst (v := 3) hC dX12_plansNow_137 (by decide) ?_
            refine aw_icmp_ne (tgt := 164) hC dX12_plansNow_138 (by decide) (fun h4 => ?_) (fun h4 => ?_)
            · show AW X 0 0 164 [some (.ref 44), some (.int (nI (16 * g))), some (.int (nI m)), none] [] T I4 J1 R
              refine aw_iinc (v := nI m + (-1)) (L2 := [some (.ref 44), some (.int (nI (16 * g))), some (.int (nI m + (-1))), none]) hC dX12_plansNow_164 rfl rfl (by decide) rfl ?_
              refine aw_goto (tgt := 111) hC dX12_plansNow_167 (by decide) ?_
              exact ih (by omega) I4 (by have e9 : aDn Ic (16 * g) (16 * g - m) = aDn Ic (16 * g) (16 * g - (m + 1)) ++ dnL Ic m := (by rw [show 16 * g - m = (16 * g - (m + 1)) + 1 by omega, aDn, show 16 * g - 1 - (16 * g - (m + 1)) = m by omega]); have e8 : aUp Ic (16 * g) ++ aDn Ic (16 * g) (16 * g - m) = aUp Ic (16 * g) ++ aDn Ic (16 * g) (16 * g - (m + 1)) := (by clear hC hq; rw [e9]; simp only [dnL]; simp_all); rw [e8]; exact hL4)
            · show AW X 0 0 141 [some (.ref 44), some (.int (nI (16 * g))), some (.int (nI m)), none] [] T I4 J1 R
              refine aw_aload_n hC dX12_plansNow_141 rfl ?_
              refine aw_getR hC dX12_plansNow_142 aF_X12_53 rfl (tg_44 hT) (pr_44_17 hR) ?_
              refine aw_aload_n hC dX12_plansNow_145 rfl ?_
              refine aw_getR hC dX12_plansNow_146 aF_X12_62 rfl (tg_44 hT) (pr_44_21 hR) ?_
              refine aw_iload_n hC dX12_plansNow_149 rfl ?_
              refine aw_bipush (v := 16) hC dX12_plansNow_150 (by decide) ?_
              refine aw_idiv hC dX12_plansNow_152 (by decide) ?_
              rw [show (nI m) / 16 = nI (m / 16) from pk_div (a := m) (d := 16) (by omega) (by decide) (by decide)]
              refine aw_iaload_k (j := (m / 16)) hC dX12_plansNow_153 (tg_62 hT) (nI_clamp (by omega)) (vp_in_nI (by omega) (by decide)) ?_
              rw [hL4.1 62 (by decide)]
              have hb5 := hgc.ty (m / 16) (by omega)
              rw [hb5.1]
              refine aw_baload_k (j := (iN Ic 62 (m / 16))) hC dX12_plansNow_154 (tg_59 hT) (nI_clamp (by omega)) (vp_in_nI (by omega) (by decide)) ?_
              rw [hL4.1 59 (by decide)]
              refine aw_if_eq (tgt := 164) hC dX12_plansNow_155 (by decide) (fun h6 => ?_) (fun h6 => ?_)
              · show AW X 0 0 164 [some (.ref 44), some (.int (nI (16 * g))), some (.int (nI m)), none] [] T I4 J1 R
                refine aw_iinc (v := nI m + (-1)) (L2 := [some (.ref 44), some (.int (nI (16 * g))), some (.int (nI m + (-1))), none]) hC dX12_plansNow_164 rfl rfl (by decide) rfl ?_
                refine aw_goto (tgt := 111) hC dX12_plansNow_167 (by decide) ?_
                exact ih (by omega) I4 (by have e9 : aDn Ic (16 * g) (16 * g - m) = aDn Ic (16 * g) (16 * g - (m + 1)) ++ dnL Ic m := (by rw [show 16 * g - m = (16 * g - (m + 1)) + 1 by omega, aDn, show 16 * g - 1 - (16 * g - (m + 1)) = m by omega]); have e8 : aUp Ic (16 * g) ++ aDn Ic (16 * g) (16 * g - m) = aUp Ic (16 * g) ++ aDn Ic (16 * g) (16 * g - (m + 1)) := (by clear hC hq; rw [e9]; simp only [dnL]; simp_all); rw [e8]; exact hL4)
              · show AW X 0 0 158 [some (.ref 44), some (.int (nI (16 * g))), some (.int (nI m)), none] [] T I4 J1 R
                refine aw_aload_n hC dX12_plansNow_158 rfl ?_
                refine aw_iconst (v := 4) hC dX12_plansNow_159 (by decide) ?_
                refine aw_iload_n hC dX12_plansNow_160 rfl ?_
                refine kX12_367 hC rfl (m_X12_lists (I := I4) (J := J1) hT hR (l := (aUp Ic (16 * g) ++ aDn Ic (16 * g) (16 * g - (m + 1))).length) (a := 4) (x := m) hL4.2.2.1 (by first | (have hd : (dnL Ic m).length = 1 := (by simp only [dnL]; simp_all); omega) | (exfalso; simp_all; done))) dX12_plansNow_161 (tg_44 hT) rfl a_le a_le a_le a_le a_le rfl aPure_x (aPure_k ?_)
                obtain ⟨I5, e1⟩ : ∃ I5, I5 = a_u (a_u I4 92 (aUp Ic (16 * g) ++ aDn Ic (16 * g) (16 * g - (m + 1))).length (nI (100 * 4 + m))) 44 59 (nI ((aUp Ic (16 * g) ++ aDn Ic (16 * g) (16 * g - (m + 1))).length + 1)) := ⟨_, rfl⟩
                rw [← e1]
                have hL1 : LI Ic I5 (aUp Ic (16 * g) ++ aDn Ic (16 * g) (16 * g - (m + 1)) ++ [100 * 4 + m]) := by rw [e1]; exact LI.put hL4 rfl
                have hl1 : (aUp Ic (16 * g) ++ aDn Ic (16 * g) (16 * g - (m + 1)) ++ [100 * 4 + m]).length = (aUp Ic (16 * g) ++ aDn Ic (16 * g) (16 * g - (m + 1))).length + 1 := by rw [List.length_append]; rfl
                show AW X 0 0 164 [some (.ref 44), some (.int (nI (16 * g))), some (.int (nI m)), none] [] T I5 J1 R
                refine aw_iinc (v := nI m + (-1)) (L2 := [some (.ref 44), some (.int (nI (16 * g))), some (.int (nI m + (-1))), none]) hC dX12_plansNow_164 rfl rfl (by decide) rfl ?_
                refine aw_goto (tgt := 111) hC dX12_plansNow_167 (by decide) ?_
                exact ih (by omega) I5 (by have e9 : aDn Ic (16 * g) (16 * g - m) = aDn Ic (16 * g) (16 * g - (m + 1)) ++ dnL Ic m := (by rw [show 16 * g - m = (16 * g - (m + 1)) + 1 by omega, aDn, show 16 * g - 1 - (16 * g - (m + 1)) = m by omega]); have e8 : aUp Ic (16 * g) ++ aDn Ic (16 * g) (16 * g - m) = aUp Ic (16 * g) ++ aDn Ic (16 * g) (16 * g - (m + 1)) ++ [100 * 4 + m] := (by clear hC hq; rw [e9]; simp only [dnL]; simp_all); rw [e8]; exact hL1)
          · show AW X 0 0 125 [some (.ref 44), some (.int (nI (16 * g))), some (.int (nI m)), none] [] T I4 J1 R
            refine aw_aload_n hC dX12_plansNow_125 rfl ?_
            refine aw_iconst (v := 3) hC dX12_plansNow_126 (by decide) ?_
            refine aw_iload_n hC dX12_plansNow_127 rfl ?_
            refine kX12_367 hC rfl (m_X12_lists (I := I4) (J := J1) hT hR (l := (aUp Ic (16 * g) ++ aDn Ic (16 * g) (16 * g - (m + 1))).length) (a := 3) (x := m) hL4.2.2.1 (by first | (have hd : (dnL Ic m).length = 1 := (by simp only [dnL]; simp_all); omega) | (exfalso; simp_all; done))) dX12_plansNow_128 (tg_44 hT) rfl a_le a_le a_le a_le a_le rfl aPure_x (aPure_k ?_)
            obtain ⟨I6, e2⟩ : ∃ I6, I6 = a_u (a_u I4 92 (aUp Ic (16 * g) ++ aDn Ic (16 * g) (16 * g - (m + 1))).length (nI (100 * 3 + m))) 44 59 (nI ((aUp Ic (16 * g) ++ aDn Ic (16 * g) (16 * g - (m + 1))).length + 1)) := ⟨_, rfl⟩
            rw [← e2]
            have hL2 : LI Ic I6 (aUp Ic (16 * g) ++ aDn Ic (16 * g) (16 * g - (m + 1)) ++ [100 * 3 + m]) := by rw [e2]; exact LI.put hL4 rfl
            have hl2 : (aUp Ic (16 * g) ++ aDn Ic (16 * g) (16 * g - (m + 1)) ++ [100 * 3 + m]).length = (aUp Ic (16 * g) ++ aDn Ic (16 * g) (16 * g - (m + 1))).length + 1 := by rw [List.length_append]; rfl
            show AW X 0 0 131 [some (.ref 44), some (.int (nI (16 * g))), some (.int (nI m)), none] [] T I6 J1 R
            refine aw_aload_n hC dX12_plansNow_131 rfl ?_
            refine aw_getR hC dX12_plansNow_132 aF_X12_157 rfl (tg_44 hT) (pr_44_58 hR) ?_
            refine aw_iload_n hC dX12_plansNow_135 rfl ?_
            refine aw_iaload_k (j := m) hC dX12_plansNow_136 (tg_91 hT) (nI_clamp (by omega)) (vp_in_nI (by omega) (by decide)) ?_
            rw [hL2.1 91 (by decide)]
            refine aw_iconst (v := 3) hC dX12_plansNow_137 (by decide) ?_
            refine aw_icmp_ne (tgt := 164) hC dX12_plansNow_138 (by decide) (fun h7 => ?_) (fun h7 => ?_)
            · show AW X 0 0 164 [some (.ref 44), some (.int (nI (16 * g))), some (.int (nI m)), none] [] T I6 J1 R
              refine aw_iinc (v := nI m + (-1)) (L2 := [some (.ref 44), some (.int (nI (16 * g))), some (.int (nI m + (-1))), none]) hC dX12_plansNow_164 rfl rfl (by decide) rfl ?_
              refine aw_goto (tgt := 111) hC dX12_plansNow_167 (by decide) ?_
              exact ih (by omega) I6 (by have e9 : aDn Ic (16 * g) (16 * g - m) = aDn Ic (16 * g) (16 * g - (m + 1)) ++ dnL Ic m := (by rw [show 16 * g - m = (16 * g - (m + 1)) + 1 by omega, aDn, show 16 * g - 1 - (16 * g - (m + 1)) = m by omega]); have e8 : aUp Ic (16 * g) ++ aDn Ic (16 * g) (16 * g - m) = aUp Ic (16 * g) ++ aDn Ic (16 * g) (16 * g - (m + 1)) ++ [100 * 3 + m] := (by clear hC hq; rw [e9]; simp only [dnL]; simp_all); rw [e8]; exact hL2)
            · show AW X 0 0 141 [some (.ref 44), some (.int (nI (16 * g))), some (.int (nI m)), none] [] T I6 J1 R
              refine aw_aload_n hC dX12_plansNow_141 rfl ?_
              refine aw_getR hC dX12_plansNow_142 aF_X12_53 rfl (tg_44 hT) (pr_44_17 hR) ?_
              refine aw_aload_n hC dX12_plansNow_145 rfl ?_
              refine aw_getR hC dX12_plansNow_146 aF_X12_62 rfl (tg_44 hT) (pr_44_21 hR) ?_
              refine aw_iload_n hC dX12_plansNow_149 rfl ?_
              refine aw_bipush (v := 16) hC dX12_plansNow_150 (by decide) ?_
              refine aw_idiv hC dX12_plansNow_152 (by decide) ?_
              rw [show (nI m) / 16 = nI (m / 16) from pk_div (a := m) (d := 16) (by omega) (by decide) (by decide)]
              refine aw_iaload_k (j := (m / 16)) hC dX12_plansNow_153 (tg_62 hT) (nI_clamp (by omega)) (vp_in_nI (by omega) (by decide)) ?_
              rw [hL2.1 62 (by decide)]
              have hb8 := hgc.ty (m / 16) (by omega)
              rw [hb8.1]
              refine aw_baload_k (j := (iN Ic 62 (m / 16))) hC dX12_plansNow_154 (tg_59 hT) (nI_clamp (by omega)) (vp_in_nI (by omega) (by decide)) ?_
              rw [hL2.1 59 (by decide)]
              refine aw_if_eq (tgt := 164) hC dX12_plansNow_155 (by decide) (fun h9 => ?_) (fun h9 => ?_)
              · show AW X 0 0 164 [some (.ref 44), some (.int (nI (16 * g))), some (.int (nI m)), none] [] T I6 J1 R
                refine aw_iinc (v := nI m + (-1)) (L2 := [some (.ref 44), some (.int (nI (16 * g))), some (.int (nI m + (-1))), none]) hC dX12_plansNow_164 rfl rfl (by decide) rfl ?_
                refine aw_goto (tgt := 111) hC dX12_plansNow_167 (by decide) ?_
                exact ih (by omega) I6 (by have e9 : aDn Ic (16 * g) (16 * g - m) = aDn Ic (16 * g) (16 * g - (m + 1)) ++ dnL Ic m := (by rw [show 16 * g - m = (16 * g - (m + 1)) + 1 by omega, aDn, show 16 * g - 1 - (16 * g - (m + 1)) = m by omega]); have e8 : aUp Ic (16 * g) ++ aDn Ic (16 * g) (16 * g - m) = aUp Ic (16 * g) ++ aDn Ic (16 * g) (16 * g - (m + 1)) ++ [100 * 3 + m] := (by clear hC hq; rw [e9]; simp only [dnL]; simp_all); rw [e8]; exact hL2)
              · show AW X 0 0 158 [some (.ref 44), some (.int (nI (16 * g))), some (.int (nI m)), none] [] T I6 J1 R
                refine aw_aload_n hC dX12_plansNow_158 rfl ?_
                refine aw_iconst (v := 4) hC dX12_plansNow_159 (by decide) ?_
                refine aw_iload_n hC dX12_plansNow_160 rfl ?_
                refine kX12_367 hC rfl (m_X12_lists (I := I6) (J := J1) hT hR (l := (aUp Ic (16 * g) ++ aDn Ic (16 * g) (16 * g - (m + 1)) ++ [100 * 3 + m]).length) (a := 4) (x := m) hL2.2.2.1 (by first | (have hd : (dnL Ic m).length = 1 := (by simp only [dnL]; simp_all); omega) | (exfalso; simp_all; done))) dX12_plansNow_161 (tg_44 hT) rfl a_le a_le a_le a_le a_le rfl aPure_x (aPure_k ?_)
                obtain ⟨I7, e3⟩ : ∃ I7, I7 = a_u (a_u I6 92 (aUp Ic (16 * g) ++ aDn Ic (16 * g) (16 * g - (m + 1)) ++ [100 * 3 + m]).length (nI (100 * 4 + m))) 44 59 (nI ((aUp Ic (16 * g) ++ aDn Ic (16 * g) (16 * g - (m + 1)) ++ [100 * 3 + m]).length + 1)) := ⟨_, rfl⟩
                rw [← e3]
                have hL3 : LI Ic I7 (aUp Ic (16 * g) ++ aDn Ic (16 * g) (16 * g - (m + 1)) ++ [100 * 3 + m] ++ [100 * 4 + m]) := by rw [e3]; exact LI.put hL2 rfl
                have hl3 : (aUp Ic (16 * g) ++ aDn Ic (16 * g) (16 * g - (m + 1)) ++ [100 * 3 + m] ++ [100 * 4 + m]).length = (aUp Ic (16 * g) ++ aDn Ic (16 * g) (16 * g - (m + 1)) ++ [100 * 3 + m]).length + 1 := by rw [List.length_append]; rfl
                show AW X 0 0 164 [some (.ref 44), some (.int (nI (16 * g))), some (.int (nI m)), none] [] T I7 J1 R
                refine aw_iinc (v := nI m + (-1)) (L2 := [some (.ref 44), some (.int (nI (16 * g))), some (.int (nI m + (-1))), none]) hC dX12_plansNow_164 rfl rfl (by decide) rfl ?_
                refine aw_goto (tgt := 111) hC dX12_plansNow_167 (by decide) ?_
                exact ih (by omega) I7 (by have e9 : aDn Ic (16 * g) (16 * g - m) = aDn Ic (16 * g) (16 * g - (m + 1)) ++ dnL Ic m := (by rw [show 16 * g - m = (16 * g - (m + 1)) + 1 by omega, aDn, show 16 * g - 1 - (16 * g - (m + 1)) = m by omega]); have e8 : aUp Ic (16 * g) ++ aDn Ic (16 * g) (16 * g - m) = aUp Ic (16 * g) ++ aDn Ic (16 * g) (16 * g - (m + 1)) ++ [100 * 3 + m] ++ [100 * 4 + m] := (by clear hC hq; rw [e9]; simp only [dnL]; simp_all); rw [e8]; exact hL3)
      exact loop2 (16 * g) (Nat.le_refl _) I3 (by rw [Nat.sub_self]; exact hLu)
    · show AW X 0 0 24 [some (.ref 44), some (.int (nI (16 * g))), some (.int (nI k)), none] [] T I3 J1 R
      have h1n : ¬ (16 * g) ≤ k := fun q9 => h1 ((nI_leI (a := (16 * g)) (b := k) (by omega) (by omega)).mpr q9)
      refine aw_aload_n hC dX12_plansNow_24 rfl ?_
      refine aw_getR hC dX12_plansNow_25 aF_X12_53 rfl (tg_44 hT) (pr_44_17 hR) ?_
      refine aw_aload_n hC dX12_plansNow_28 rfl ?_
      refine aw_getR hC dX12_plansNow_29 aF_X12_62 rfl (tg_44 hT) (pr_44_21 hR) ?_
      refine aw_iload_n hC dX12_plansNow_32 rfl ?_
      refine aw_bipush (v := 16) hC dX12_plansNow_33 (by decide) ?_
      refine aw_idiv hC dX12_plansNow_35 (by decide) ?_
      rw [show (nI k) / 16 = nI (k / 16) from pk_div (a := k) (d := 16) (by omega) (by decide) (by decide)]
      refine aw_iaload_k (j := (k / 16)) hC dX12_plansNow_36 (tg_62 hT) (nI_clamp (by omega)) (vp_in_nI (by omega) (by decide)) ?_
      rw [hL.1 62 (by decide)]
      have hb10 := hgc.ty (k / 16) (by omega)
      rw [hb10.1]
      refine aw_baload_k (j := (iN Ic 62 (k / 16))) hC dX12_plansNow_37 (tg_59 hT) (nI_clamp (by omega)) (vp_in_nI (by omega) (by decide)) ?_
      rw [hL.1 59 (by decide)]
      refine aw_istore_n (L2 := [some (.ref 44), some (.int (nI (16 * g))), some (.int (nI k)), some (.int (Ic 59 (iN Ic 62 (k / 16))))]) hC dX12_plansNow_38 rfl (by decide) rfl ?_
      refine aw_aload_n hC dX12_plansNow_39 rfl ?_
      refine aw_getR hC dX12_plansNow_40 aF_X12_157 rfl (tg_44 hT) (pr_44_58 hR) ?_
      refine aw_iload_n hC dX12_plansNow_43 rfl ?_
      refine aw_iaload_k (j := k) hC dX12_plansNow_44 (tg_91 hT) (nI_clamp (by omega)) (vp_in_nI (by omega) (by decide)) ?_
      rw [hL.1 91 (by decide)]
      refine aw_iconst (v := 3) hC dX12_plansNow_45 (by decide) ?_
      refine aw_icmp_ne (tgt := 59) hC dX12_plansNow_46 (by decide) (fun h11 => ?_) (fun h11 => ?_)
      · show AW X 0 0 59 [some (.ref 44), some (.int (nI (16 * g))), some (.int (nI k)), some (.int (Ic 59 (iN Ic 62 (k / 16))))] [] T I3 J1 R
        refine aw_aload_n hC dX12_plansNow_59 rfl ?_
        refine aw_getR hC dX12_plansNow_60 aF_X12_157 rfl (tg_44 hT) (pr_44_58 hR) ?_
        refine aw_iload_n hC dX12_plansNow_63 rfl ?_
        refine aw_iaload_k (j := k) hC dX12_plansNow_64 (tg_91 hT) (nI_clamp (by omega)) (vp_in_nI (by omega) (by decide)) ?_
        rw [hL.1 91 (by decide)]
        refine aw_iconst (v := 1) hC dX12_plansNow_65 (by decide) ?_
        refine aw_icmp_eq (tgt := 79) hC dX12_plansNow_66 (by decide) (fun h12 => ?_) (fun h12 => ?_)
        · show AW X 0 0 79 [some (.ref 44), some (.int (nI (16 * g))), some (.int (nI k)), some (.int (Ic 59 (iN Ic 62 (k / 16))))] [] T I3 J1 R
          refine aw_aload_n hC dX12_plansNow_79 rfl ?_
          refine aw_iconst (v := 1) hC dX12_plansNow_80 (by decide) ?_
          refine aw_iload_n hC dX12_plansNow_81 rfl ?_
          refine kX12_367 hC rfl (m_X12_lists (I := I3) (J := J1) hT hR (l := (aUp Ic k).length) (a := 1) (x := k) hL.2.2.1 (by first | omega | (exfalso; simp_all; done))) dX12_plansNow_82 (tg_44 hT) rfl a_le a_le a_le a_le a_le rfl aPure_x (aPure_k ?_)
          obtain ⟨I8, e4⟩ : ∃ I8, I8 = a_u (a_u I3 92 (aUp Ic k).length (nI (100 * 1 + k))) 44 59 (nI ((aUp Ic k).length + 1)) := ⟨_, rfl⟩
          rw [← e4]
          have hL4 : LI Ic I8 (aUp Ic k ++ [100 * 1 + k]) := by rw [e4]; exact LI.put hL rfl
          have hl4 : (aUp Ic k ++ [100 * 1 + k]).length = (aUp Ic k).length + 1 := by rw [List.length_append]; rfl
          show AW X 0 0 85 [some (.ref 44), some (.int (nI (16 * g))), some (.int (nI k)), some (.int (Ic 59 (iN Ic 62 (k / 16))))] [] T I8 J1 R
          refine aw_aload_n hC dX12_plansNow_85 rfl ?_
          refine aw_getR hC dX12_plansNow_86 aF_X12_157 rfl (tg_44 hT) (pr_44_58 hR) ?_
          refine aw_iload_n hC dX12_plansNow_89 rfl ?_
          refine aw_iaload_k (j := k) hC dX12_plansNow_90 (tg_91 hT) (nI_clamp (by omega)) (vp_in_nI (by omega) (by decide)) ?_
          rw [hL4.1 91 (by decide)]
          refine aw_iconst (v := 2) hC dX12_plansNow_91 (by decide) ?_
          refine aw_icmp_ne (tgt := 101) hC dX12_plansNow_92 (by decide) (fun h13 => ?_) (fun h13 => ?_)
          · show AW X 0 0 101 [some (.ref 44), some (.int (nI (16 * g))), some (.int (nI k)), some (.int (Ic 59 (iN Ic 62 (k / 16))))] [] T I8 J1 R
            refine aw_iinc (v := nI (k + 1)) (L2 := [some (.ref 44), some (.int (nI (16 * g))), some (.int (nI (k + 1))), some (.int (Ic 59 (iN Ic 62 (k / 16))))]) hC dX12_plansNow_101 rfl (nI_inc _) (by decide) rfl ?_
            refine aw_goto (tgt := 19) hC dX12_plansNow_104 (by decide) ?_
            refine aw_forget 3 (L2 := [some (.ref 44), some (.int (nI (16 * g))), some (.int (nI (k + 1))), none]) rfl ?_
            exact ih1 (by omega) I8 (by have e9 : aUp Ic (k + 1) = aUp Ic k ++ [100 * 1 + k] := (by clear hC hq; simp only [aUp, upL]; simp_all); rw [e9]; exact hL4)
          · show AW X 0 0 95 [some (.ref 44), some (.int (nI (16 * g))), some (.int (nI k)), some (.int (Ic 59 (iN Ic 62 (k / 16))))] [] T I8 J1 R
            refine aw_aload_n hC dX12_plansNow_95 rfl ?_
            refine aw_iconst (v := 2) hC dX12_plansNow_96 (by decide) ?_
            refine aw_iload_n hC dX12_plansNow_97 rfl ?_
            refine kX12_367 hC rfl (m_X12_lists (I := I8) (J := J1) hT hR (l := (aUp Ic k ++ [100 * 1 + k]).length) (a := 2) (x := k) hL4.2.2.1 (by first | omega | (exfalso; simp_all; done))) dX12_plansNow_98 (tg_44 hT) rfl a_le a_le a_le a_le a_le rfl aPure_x (aPure_k ?_)
            obtain ⟨I9, e5⟩ : ∃ I9, I9 = a_u (a_u I8 92 (aUp Ic k ++ [100 * 1 + k]).length (nI (100 * 2 + k))) 44 59 (nI ((aUp Ic k ++ [100 * 1 + k]).length + 1)) := ⟨_, rfl⟩
            rw [← e5]
            have hL5 : LI Ic I9 (aUp Ic k ++ [100 * 1 + k] ++ [100 * 2 + k]) := by rw [e5]; exact LI.put hL4 rfl
            have hl5 : (aUp Ic k ++ [100 * 1 + k] ++ [100 * 2 + k]).length = (aUp Ic k ++ [100 * 1 + k]).length + 1 := by rw [List.length_append]; rfl
            show AW X 0 0 101 [some (.ref 44), some (.int (nI (16 * g))), some (.int (nI k)), some (.int (Ic 59 (iN Ic 62 (k / 16))))] [] T I9 J1 R
            refine aw_iinc (v := nI (k + 1)) (L2 := [some (.ref 44), some (.int (nI (16 * g))), some (.int (nI (k + 1))), some (.int (Ic 59 (iN Ic 62 (k / 16))))]) hC dX12_plansNow_101 rfl (nI_inc _) (by decide) rfl ?_
            refine aw_goto (tgt := 19) hC dX12_plansNow_104 (by decide) ?_
            refine aw_forget 3 (L2 := [some (.ref 44), some (.int (nI (16 * g))), some (.int (nI (k + 1))), none]) rfl ?_
            exact ih1 (by omega) I9 (by have e9 : aUp Ic (k + 1) = aUp Ic k ++ [100 * 1 + k] ++ [100 * 2 + k] := (by clear hC hq; simp only [aUp, upL]; simp_all); rw [e9]; exact hL5)
        · show AW X 0 0 69 [some (.ref 44), some (.int (nI (16 * g))), some (.int (nI k)), some (.int (Ic 59 (iN Ic 62 (k / 16))))] [] T I3 J1 R
          refine aw_aload_n hC dX12_plansNow_69 rfl ?_
          refine aw_getR hC dX12_plansNow_70 aF_X12_157 rfl (tg_44 hT) (pr_44_58 hR) ?_
          refine aw_iload_n hC dX12_plansNow_73 rfl ?_
          refine aw_iaload_k (j := k) hC dX12_plansNow_74 (tg_91 hT) (nI_clamp (by omega)) (vp_in_nI (by omega) (by decide)) ?_
          rw [hL.1 91 (by decide)]
          refine aw_iconst (v := 3) hC dX12_plansNow_75 (by decide) ?_
          refine aw_icmp_ne (tgt := 85) hC dX12_plansNow_76 (by decide) (fun h14 => ?_) (fun h14 => ?_)
          · show AW X 0 0 85 [some (.ref 44), some (.int (nI (16 * g))), some (.int (nI k)), some (.int (Ic 59 (iN Ic 62 (k / 16))))] [] T I3 J1 R
            refine aw_aload_n hC dX12_plansNow_85 rfl ?_
            refine aw_getR hC dX12_plansNow_86 aF_X12_157 rfl (tg_44 hT) (pr_44_58 hR) ?_
            refine aw_iload_n hC dX12_plansNow_89 rfl ?_
            refine aw_iaload_k (j := k) hC dX12_plansNow_90 (tg_91 hT) (nI_clamp (by omega)) (vp_in_nI (by omega) (by decide)) ?_
            rw [hL.1 91 (by decide)]
            refine aw_iconst (v := 2) hC dX12_plansNow_91 (by decide) ?_
            refine aw_icmp_ne (tgt := 101) hC dX12_plansNow_92 (by decide) (fun h15 => ?_) (fun h15 => ?_)
            · show AW X 0 0 101 [some (.ref 44), some (.int (nI (16 * g))), some (.int (nI k)), some (.int (Ic 59 (iN Ic 62 (k / 16))))] [] T I3 J1 R
              refine aw_iinc (v := nI (k + 1)) (L2 := [some (.ref 44), some (.int (nI (16 * g))), some (.int (nI (k + 1))), some (.int (Ic 59 (iN Ic 62 (k / 16))))]) hC dX12_plansNow_101 rfl (nI_inc _) (by decide) rfl ?_
              refine aw_goto (tgt := 19) hC dX12_plansNow_104 (by decide) ?_
              refine aw_forget 3 (L2 := [some (.ref 44), some (.int (nI (16 * g))), some (.int (nI (k + 1))), none]) rfl ?_
              exact ih1 (by omega) I3 (by have e9 : aUp Ic (k + 1) = aUp Ic k := (by clear hC hq; simp only [aUp, upL]; simp_all); rw [e9]; exact hL)
            · show AW X 0 0 95 [some (.ref 44), some (.int (nI (16 * g))), some (.int (nI k)), some (.int (Ic 59 (iN Ic 62 (k / 16))))] [] T I3 J1 R
              refine aw_aload_n hC dX12_plansNow_95 rfl ?_
              refine aw_iconst (v := 2) hC dX12_plansNow_96 (by decide) ?_
              refine aw_iload_n hC dX12_plansNow_97 rfl ?_
              refine kX12_367 hC rfl (m_X12_lists (I := I3) (J := J1) hT hR (l := (aUp Ic k).length) (a := 2) (x := k) hL.2.2.1 (by first | omega | (exfalso; simp_all; done))) dX12_plansNow_98 (tg_44 hT) rfl a_le a_le a_le a_le a_le rfl aPure_x (aPure_k ?_)
              obtain ⟨I10, e6⟩ : ∃ I10, I10 = a_u (a_u I3 92 (aUp Ic k).length (nI (100 * 2 + k))) 44 59 (nI ((aUp Ic k).length + 1)) := ⟨_, rfl⟩
              rw [← e6]
              have hL6 : LI Ic I10 (aUp Ic k ++ [100 * 2 + k]) := by rw [e6]; exact LI.put hL rfl
              have hl6 : (aUp Ic k ++ [100 * 2 + k]).length = (aUp Ic k).length + 1 := by rw [List.length_append]; rfl
              show AW X 0 0 101 [some (.ref 44), some (.int (nI (16 * g))), some (.int (nI k)), some (.int (Ic 59 (iN Ic 62 (k / 16))))] [] T I10 J1 R
              refine aw_iinc (v := nI (k + 1)) (L2 := [some (.ref 44), some (.int (nI (16 * g))), some (.int (nI (k + 1))), some (.int (Ic 59 (iN Ic 62 (k / 16))))]) hC dX12_plansNow_101 rfl (nI_inc _) (by decide) rfl ?_
              refine aw_goto (tgt := 19) hC dX12_plansNow_104 (by decide) ?_
              refine aw_forget 3 (L2 := [some (.ref 44), some (.int (nI (16 * g))), some (.int (nI (k + 1))), none]) rfl ?_
              exact ih1 (by omega) I10 (by have e9 : aUp Ic (k + 1) = aUp Ic k ++ [100 * 2 + k] := (by clear hC hq; simp only [aUp, upL]; simp_all); rw [e9]; exact hL6)
          · show AW X 0 0 79 [some (.ref 44), some (.int (nI (16 * g))), some (.int (nI k)), some (.int (Ic 59 (iN Ic 62 (k / 16))))] [] T I3 J1 R
            refine aw_aload_n hC dX12_plansNow_79 rfl ?_
            refine aw_iconst (v := 1) hC dX12_plansNow_80 (by decide) ?_
            refine aw_iload_n hC dX12_plansNow_81 rfl ?_
            refine kX12_367 hC rfl (m_X12_lists (I := I3) (J := J1) hT hR (l := (aUp Ic k).length) (a := 1) (x := k) hL.2.2.1 (by first | omega | (exfalso; simp_all; done))) dX12_plansNow_82 (tg_44 hT) rfl a_le a_le a_le a_le a_le rfl aPure_x (aPure_k ?_)
            obtain ⟨I11, e7⟩ : ∃ I11, I11 = a_u (a_u I3 92 (aUp Ic k).length (nI (100 * 1 + k))) 44 59 (nI ((aUp Ic k).length + 1)) := ⟨_, rfl⟩
            rw [← e7]
            have hL7 : LI Ic I11 (aUp Ic k ++ [100 * 1 + k]) := by rw [e7]; exact LI.put hL rfl
            have hl7 : (aUp Ic k ++ [100 * 1 + k]).length = (aUp Ic k).length + 1 := by rw [List.length_append]; rfl
            show AW X 0 0 85 [some (.ref 44), some (.int (nI (16 * g))), some (.int (nI k)), some (.int (Ic 59 (iN Ic 62 (k / 16))))] [] T I11 J1 R
            refine aw_aload_n hC dX12_plansNow_85 rfl ?_
            refine aw_getR hC dX12_plansNow_86 aF_X12_157 rfl (tg_44 hT) (pr_44_58 hR) ?_
            refine aw_iload_n hC dX12_plansNow_89 rfl ?_
            refine aw_iaload_k (j := k) hC dX12_plansNow_90 (tg_91 hT) (nI_clamp (by omega)) (vp_in_nI (by omega) (by decide)) ?_
            rw [hL7.1 91 (by decide)]
            refine aw_iconst (v := 2) hC dX12_plansNow_91 (by decide) ?_
            refine aw_icmp_ne (tgt := 101) hC dX12_plansNow_92 (by decide) (fun h16 => ?_) (fun h16 => ?_)
            · show AW X 0 0 101 [some (.ref 44), some (.int (nI (16 * g))), some (.int (nI k)), some (.int (Ic 59 (iN Ic 62 (k / 16))))] [] T I11 J1 R
              refine aw_iinc (v := nI (k + 1)) (L2 := [some (.ref 44), some (.int (nI (16 * g))), some (.int (nI (k + 1))), some (.int (Ic 59 (iN Ic 62 (k / 16))))]) hC dX12_plansNow_101 rfl (nI_inc _) (by decide) rfl ?_
              refine aw_goto (tgt := 19) hC dX12_plansNow_104 (by decide) ?_
              refine aw_forget 3 (L2 := [some (.ref 44), some (.int (nI (16 * g))), some (.int (nI (k + 1))), none]) rfl ?_
              exact ih1 (by omega) I11 (by have e9 : aUp Ic (k + 1) = aUp Ic k ++ [100 * 1 + k] := (by clear hC hq; simp only [aUp, upL]; simp_all); rw [e9]; exact hL7)
            · show AW X 0 0 95 [some (.ref 44), some (.int (nI (16 * g))), some (.int (nI k)), some (.int (Ic 59 (iN Ic 62 (k / 16))))] [] T I11 J1 R
              refine aw_aload_n hC dX12_plansNow_95 rfl ?_
              refine aw_iconst (v := 2) hC dX12_plansNow_96 (by decide) ?_
              refine aw_iload_n hC dX12_plansNow_97 rfl ?_
              refine kX12_367 hC rfl (m_X12_lists (I := I11) (J := J1) hT hR (l := (aUp Ic k ++ [100 * 1 + k]).length) (a := 2) (x := k) hL7.2.2.1 (by first | omega | (exfalso; simp_all; done))) dX12_plansNow_98 (tg_44 hT) rfl a_le a_le a_le a_le a_le rfl aPure_x (aPure_k ?_)
              obtain ⟨I12, e8⟩ : ∃ I12, I12 = a_u (a_u I11 92 (aUp Ic k ++ [100 * 1 + k]).length (nI (100 * 2 + k))) 44 59 (nI ((aUp Ic k ++ [100 * 1 + k]).length + 1)) := ⟨_, rfl⟩
              rw [← e8]
              have hL8 : LI Ic I12 (aUp Ic k ++ [100 * 1 + k] ++ [100 * 2 + k]) := by rw [e8]; exact LI.put hL7 rfl
              have hl8 : (aUp Ic k ++ [100 * 1 + k] ++ [100 * 2 + k]).length = (aUp Ic k ++ [100 * 1 + k]).length + 1 := by rw [List.length_append]; rfl
              show AW X 0 0 101 [some (.ref 44), some (.int (nI (16 * g))), some (.int (nI k)), some (.int (Ic 59 (iN Ic 62 (k / 16))))] [] T I12 J1 R
              refine aw_iinc (v := nI (k + 1)) (L2 := [some (.ref 44), some (.int (nI (16 * g))), some (.int (nI (k + 1))), some (.int (Ic 59 (iN Ic 62 (k / 16))))]) hC dX12_plansNow_101 rfl (nI_inc _) (by decide) rfl ?_
              refine aw_goto (tgt := 19) hC dX12_plansNow_104 (by decide) ?_
              refine aw_forget 3 (L2 := [some (.ref 44), some (.int (nI (16 * g))), some (.int (nI (k + 1))), none]) rfl ?_
              exact ih1 (by omega) I12 (by have e9 : aUp Ic (k + 1) = aUp Ic k ++ [100 * 1 + k] ++ [100 * 2 + k] := (by clear hC hq; simp only [aUp, upL]; simp_all); rw [e9]; exact hL8)
      · show AW X 0 0 49 [some (.ref 44), some (.int (nI (16 * g))), some (.int (nI k)), some (.int (Ic 59 (iN Ic 62 (k / 16))))] [] T I3 J1 R
        refine aw_iload_n hC dX12_plansNow_49 rfl ?_
        refine aw_if_ne (tgt := 59) hC dX12_plansNow_50 (by decide) (fun h17 => ?_) (fun h17 => ?_)
        · show AW X 0 0 59 [some (.ref 44), some (.int (nI (16 * g))), some (.int (nI k)), some (.int (Ic 59 (iN Ic 62 (k / 16))))] [] T I3 J1 R
          refine aw_aload_n hC dX12_plansNow_59 rfl ?_
          refine aw_getR hC dX12_plansNow_60 aF_X12_157 rfl (tg_44 hT) (pr_44_58 hR) ?_
          refine aw_iload_n hC dX12_plansNow_63 rfl ?_
          refine aw_iaload_k (j := k) hC dX12_plansNow_64 (tg_91 hT) (nI_clamp (by omega)) (vp_in_nI (by omega) (by decide)) ?_
          rw [hL.1 91 (by decide)]
          refine aw_iconst (v := 1) hC dX12_plansNow_65 (by decide) ?_
          refine aw_icmp_eq (tgt := 79) hC dX12_plansNow_66 (by decide) (fun h18 => ?_) (fun h18 => ?_)
          · show AW X 0 0 79 [some (.ref 44), some (.int (nI (16 * g))), some (.int (nI k)), some (.int (Ic 59 (iN Ic 62 (k / 16))))] [] T I3 J1 R
            refine aw_aload_n hC dX12_plansNow_79 rfl ?_
            refine aw_iconst (v := 1) hC dX12_plansNow_80 (by decide) ?_
            refine aw_iload_n hC dX12_plansNow_81 rfl ?_
            refine kX12_367 hC rfl (m_X12_lists (I := I3) (J := J1) hT hR (l := (aUp Ic k).length) (a := 1) (x := k) hL.2.2.1 (by first | omega | (exfalso; simp_all; done))) dX12_plansNow_82 (tg_44 hT) rfl a_le a_le a_le a_le a_le rfl aPure_x (aPure_k ?_)
            obtain ⟨I13, e9⟩ : ∃ I13, I13 = a_u (a_u I3 92 (aUp Ic k).length (nI (100 * 1 + k))) 44 59 (nI ((aUp Ic k).length + 1)) := ⟨_, rfl⟩
            rw [← e9]
            have hL9 : LI Ic I13 (aUp Ic k ++ [100 * 1 + k]) := by rw [e9]; exact LI.put hL rfl
            have hl9 : (aUp Ic k ++ [100 * 1 + k]).length = (aUp Ic k).length + 1 := by rw [List.length_append]; rfl
            show AW X 0 0 85 [some (.ref 44), some (.int (nI (16 * g))), some (.int (nI k)), some (.int (Ic 59 (iN Ic 62 (k / 16))))] [] T I13 J1 R
            refine aw_aload_n hC dX12_plansNow_85 rfl ?_
            refine aw_getR hC dX12_plansNow_86 aF_X12_157 rfl (tg_44 hT) (pr_44_58 hR) ?_
            refine aw_iload_n hC dX12_plansNow_89 rfl ?_
            refine aw_iaload_k (j := k) hC dX12_plansNow_90 (tg_91 hT) (nI_clamp (by omega)) (vp_in_nI (by omega) (by decide)) ?_
            rw [hL9.1 91 (by decide)]
            refine aw_iconst (v := 2) hC dX12_plansNow_91 (by decide) ?_
            refine aw_icmp_ne (tgt := 101) hC dX12_plansNow_92 (by decide) (fun h19 => ?_) (fun h19 => ?_)
            · show AW X 0 0 101 [some (.ref 44), some (.int (nI (16 * g))), some (.int (nI k)), some (.int (Ic 59 (iN Ic 62 (k / 16))))] [] T I13 J1 R
              refine aw_iinc (v := nI (k + 1)) (L2 := [some (.ref 44), some (.int (nI (16 * g))), some (.int (nI (k + 1))), some (.int (Ic 59 (iN Ic 62 (k / 16))))]) hC dX12_plansNow_101 rfl (nI_inc _) (by decide) rfl ?_
              refine aw_goto (tgt := 19) hC dX12_plansNow_104 (by decide) ?_
              refine aw_forget 3 (L2 := [some (.ref 44), some (.int (nI (16 * g))), some (.int (nI (k + 1))), none]) rfl ?_
              exact ih1 (by omega) I13 (by have e9 : aUp Ic (k + 1) = aUp Ic k ++ [100 * 1 + k] := (by clear hC hq; simp only [aUp, upL]; simp_all); rw [e9]; exact hL9)
            · show AW X 0 0 95 [some (.ref 44), some (.int (nI (16 * g))), some (.int (nI k)), some (.int (Ic 59 (iN Ic 62 (k / 16))))] [] T I13 J1 R
              refine aw_aload_n hC dX12_plansNow_95 rfl ?_
              refine aw_iconst (v := 2) hC dX12_plansNow_96 (by decide) ?_
              refine aw_iload_n hC dX12_plansNow_97 rfl ?_
              refine kX12_367 hC rfl (m_X12_lists (I := I13) (J := J1) hT hR (l := (aUp Ic k ++ [100 * 1 + k]).length) (a := 2) (x := k) hL9.2.2.1 (by first | omega | (exfalso; simp_all; done))) dX12_plansNow_98 (tg_44 hT) rfl a_le a_le a_le a_le a_le rfl aPure_x (aPure_k ?_)
              obtain ⟨I14, e10⟩ : ∃ I14, I14 = a_u (a_u I13 92 (aUp Ic k ++ [100 * 1 + k]).length (nI (100 * 2 + k))) 44 59 (nI ((aUp Ic k ++ [100 * 1 + k]).length + 1)) := ⟨_, rfl⟩
              rw [← e10]
              have hL10 : LI Ic I14 (aUp Ic k ++ [100 * 1 + k] ++ [100 * 2 + k]) := by rw [e10]; exact LI.put hL9 rfl
              have hl10 : (aUp Ic k ++ [100 * 1 + k] ++ [100 * 2 + k]).length = (aUp Ic k ++ [100 * 1 + k]).length + 1 := by rw [List.length_append]; rfl
              show AW X 0 0 101 [some (.ref 44), some (.int (nI (16 * g))), some (.int (nI k)), some (.int (Ic 59 (iN Ic 62 (k / 16))))] [] T I14 J1 R
              refine aw_iinc (v := nI (k + 1)) (L2 := [some (.ref 44), some (.int (nI (16 * g))), some (.int (nI (k + 1))), some (.int (Ic 59 (iN Ic 62 (k / 16))))]) hC dX12_plansNow_101 rfl (nI_inc _) (by decide) rfl ?_
              refine aw_goto (tgt := 19) hC dX12_plansNow_104 (by decide) ?_
              refine aw_forget 3 (L2 := [some (.ref 44), some (.int (nI (16 * g))), some (.int (nI (k + 1))), none]) rfl ?_
              exact ih1 (by omega) I14 (by have e9 : aUp Ic (k + 1) = aUp Ic k ++ [100 * 1 + k] ++ [100 * 2 + k] := (by clear hC hq; simp only [aUp, upL]; simp_all); rw [e9]; exact hL10)
          · show AW X 0 0 69 [some (.ref 44), some (.int (nI (16 * g))), some (.int (nI k)), some (.int (Ic 59 (iN Ic 62 (k / 16))))] [] T I3 J1 R
            refine aw_aload_n hC dX12_plansNow_69 rfl ?_
            refine aw_getR hC dX12_plansNow_70 aF_X12_157 rfl (tg_44 hT) (pr_44_58 hR) ?_
            refine aw_iload_n hC dX12_plansNow_73 rfl ?_
            refine aw_iaload_k (j := k) hC dX12_plansNow_74 (tg_91 hT) (nI_clamp (by omega)) (vp_in_nI (by omega) (by decide)) ?_
            rw [hL.1 91 (by decide)]
            refine aw_iconst (v := 3) hC dX12_plansNow_75 (by decide) ?_
            refine aw_icmp_ne (tgt := 85) hC dX12_plansNow_76 (by decide) (fun h20 => ?_) (fun h20 => ?_)
            · show AW X 0 0 85 [some (.ref 44), some (.int (nI (16 * g))), some (.int (nI k)), some (.int (Ic 59 (iN Ic 62 (k / 16))))] [] T I3 J1 R
              refine aw_aload_n hC dX12_plansNow_85 rfl ?_
              refine aw_getR hC dX12_plansNow_86 aF_X12_157 rfl (tg_44 hT) (pr_44_58 hR) ?_
              refine aw_iload_n hC dX12_plansNow_89 rfl ?_
              refine aw_iaload_k (j := k) hC dX12_plansNow_90 (tg_91 hT) (nI_clamp (by omega)) (vp_in_nI (by omega) (by decide)) ?_
              rw [hL.1 91 (by decide)]
              refine aw_iconst (v := 2) hC dX12_plansNow_91 (by decide) ?_
              refine aw_icmp_ne (tgt := 101) hC dX12_plansNow_92 (by decide) (fun h21 => ?_) (fun h21 => ?_)
              · show AW X 0 0 101 [some (.ref 44), some (.int (nI (16 * g))), some (.int (nI k)), some (.int (Ic 59 (iN Ic 62 (k / 16))))] [] T I3 J1 R
                refine aw_iinc (v := nI (k + 1)) (L2 := [some (.ref 44), some (.int (nI (16 * g))), some (.int (nI (k + 1))), some (.int (Ic 59 (iN Ic 62 (k / 16))))]) hC dX12_plansNow_101 rfl (nI_inc _) (by decide) rfl ?_
                refine aw_goto (tgt := 19) hC dX12_plansNow_104 (by decide) ?_
                refine aw_forget 3 (L2 := [some (.ref 44), some (.int (nI (16 * g))), some (.int (nI (k + 1))), none]) rfl ?_
                exact ih1 (by omega) I3 (by have e9 : aUp Ic (k + 1) = aUp Ic k := (by clear hC hq; simp only [aUp, upL]; simp_all); rw [e9]; exact hL)
              · show AW X 0 0 95 [some (.ref 44), some (.int (nI (16 * g))), some (.int (nI k)), some (.int (Ic 59 (iN Ic 62 (k / 16))))] [] T I3 J1 R
                refine aw_aload_n hC dX12_plansNow_95 rfl ?_
                refine aw_iconst (v := 2) hC dX12_plansNow_96 (by decide) ?_
                refine aw_iload_n hC dX12_plansNow_97 rfl ?_
                refine kX12_367 hC rfl (m_X12_lists (I := I3) (J := J1) hT hR (l := (aUp Ic k).length) (a := 2) (x := k) hL.2.2.1 (by first | omega | (exfalso; simp_all; done))) dX12_plansNow_98 (tg_44 hT) rfl a_le a_le a_le a_le a_le rfl aPure_x (aPure_k ?_)
                obtain ⟨I15, e11⟩ : ∃ I15, I15 = a_u (a_u I3 92 (aUp Ic k).length (nI (100 * 2 + k))) 44 59 (nI ((aUp Ic k).length + 1)) := ⟨_, rfl⟩
                rw [← e11]
                have hL11 : LI Ic I15 (aUp Ic k ++ [100 * 2 + k]) := by rw [e11]; exact LI.put hL rfl
                have hl11 : (aUp Ic k ++ [100 * 2 + k]).length = (aUp Ic k).length + 1 := by rw [List.length_append]; rfl
                show AW X 0 0 101 [some (.ref 44), some (.int (nI (16 * g))), some (.int (nI k)), some (.int (Ic 59 (iN Ic 62 (k / 16))))] [] T I15 J1 R
                refine aw_iinc (v := nI (k + 1)) (L2 := [some (.ref 44), some (.int (nI (16 * g))), some (.int (nI (k + 1))), some (.int (Ic 59 (iN Ic 62 (k / 16))))]) hC dX12_plansNow_101 rfl (nI_inc _) (by decide) rfl ?_
                refine aw_goto (tgt := 19) hC dX12_plansNow_104 (by decide) ?_
                refine aw_forget 3 (L2 := [some (.ref 44), some (.int (nI (16 * g))), some (.int (nI (k + 1))), none]) rfl ?_
                exact ih1 (by omega) I15 (by have e9 : aUp Ic (k + 1) = aUp Ic k ++ [100 * 2 + k] := (by clear hC hq; simp only [aUp, upL]; simp_all); rw [e9]; exact hL11)
            · show AW X 0 0 79 [some (.ref 44), some (.int (nI (16 * g))), some (.int (nI k)), some (.int (Ic 59 (iN Ic 62 (k / 16))))] [] T I3 J1 R
              refine aw_aload_n hC dX12_plansNow_79 rfl ?_
              refine aw_iconst (v := 1) hC dX12_plansNow_80 (by decide) ?_
              refine aw_iload_n hC dX12_plansNow_81 rfl ?_
              refine kX12_367 hC rfl (m_X12_lists (I := I3) (J := J1) hT hR (l := (aUp Ic k).length) (a := 1) (x := k) hL.2.2.1 (by first | omega | (exfalso; simp_all; done))) dX12_plansNow_82 (tg_44 hT) rfl a_le a_le a_le a_le a_le rfl aPure_x (aPure_k ?_)
              obtain ⟨I16, e12⟩ : ∃ I16, I16 = a_u (a_u I3 92 (aUp Ic k).length (nI (100 * 1 + k))) 44 59 (nI ((aUp Ic k).length + 1)) := ⟨_, rfl⟩
              rw [← e12]
              have hL12 : LI Ic I16 (aUp Ic k ++ [100 * 1 + k]) := by rw [e12]; exact LI.put hL rfl
              have hl12 : (aUp Ic k ++ [100 * 1 + k]).length = (aUp Ic k).length + 1 := by rw [List.length_append]; rfl
              show AW X 0 0 85 [some (.ref 44), some (.int (nI (16 * g))), some (.int (nI k)), some (.int (Ic 59 (iN Ic 62 (k / 16))))] [] T I16 J1 R
              refine aw_aload_n hC dX12_plansNow_85 rfl ?_
              refine aw_getR hC dX12_plansNow_86 aF_X12_157 rfl (tg_44 hT) (pr_44_58 hR) ?_
              refine aw_iload_n hC dX12_plansNow_89 rfl ?_
              refine aw_iaload_k (j := k) hC dX12_plansNow_90 (tg_91 hT) (nI_clamp (by omega)) (vp_in_nI (by omega) (by decide)) ?_
              rw [hL12.1 91 (by decide)]
              refine aw_iconst (v := 2) hC dX12_plansNow_91 (by decide) ?_
              refine aw_icmp_ne (tgt := 101) hC dX12_plansNow_92 (by decide) (fun h22 => ?_) (fun h22 => ?_)
              · show AW X 0 0 101 [some (.ref 44), some (.int (nI (16 * g))), some (.int (nI k)), some (.int (Ic 59 (iN Ic 62 (k / 16))))] [] T I16 J1 R
                refine aw_iinc (v := nI (k + 1)) (L2 := [some (.ref 44), some (.int (nI (16 * g))), some (.int (nI (k + 1))), some (.int (Ic 59 (iN Ic 62 (k / 16))))]) hC dX12_plansNow_101 rfl (nI_inc _) (by decide) rfl ?_
                refine aw_goto (tgt := 19) hC dX12_plansNow_104 (by decide) ?_
                refine aw_forget 3 (L2 := [some (.ref 44), some (.int (nI (16 * g))), some (.int (nI (k + 1))), none]) rfl ?_
                exact ih1 (by omega) I16 (by have e9 : aUp Ic (k + 1) = aUp Ic k ++ [100 * 1 + k] := (by clear hC hq; simp only [aUp, upL]; simp_all); rw [e9]; exact hL12)
              · show AW X 0 0 95 [some (.ref 44), some (.int (nI (16 * g))), some (.int (nI k)), some (.int (Ic 59 (iN Ic 62 (k / 16))))] [] T I16 J1 R
                refine aw_aload_n hC dX12_plansNow_95 rfl ?_
                refine aw_iconst (v := 2) hC dX12_plansNow_96 (by decide) ?_
                refine aw_iload_n hC dX12_plansNow_97 rfl ?_
                refine kX12_367 hC rfl (m_X12_lists (I := I16) (J := J1) hT hR (l := (aUp Ic k ++ [100 * 1 + k]).length) (a := 2) (x := k) hL12.2.2.1 (by first | omega | (exfalso; simp_all; done))) dX12_plansNow_98 (tg_44 hT) rfl a_le a_le a_le a_le a_le rfl aPure_x (aPure_k ?_)
                obtain ⟨I17, e13⟩ : ∃ I17, I17 = a_u (a_u I16 92 (aUp Ic k ++ [100 * 1 + k]).length (nI (100 * 2 + k))) 44 59 (nI ((aUp Ic k ++ [100 * 1 + k]).length + 1)) := ⟨_, rfl⟩
                rw [← e13]
                have hL13 : LI Ic I17 (aUp Ic k ++ [100 * 1 + k] ++ [100 * 2 + k]) := by rw [e13]; exact LI.put hL12 rfl
                have hl13 : (aUp Ic k ++ [100 * 1 + k] ++ [100 * 2 + k]).length = (aUp Ic k ++ [100 * 1 + k]).length + 1 := by rw [List.length_append]; rfl
                show AW X 0 0 101 [some (.ref 44), some (.int (nI (16 * g))), some (.int (nI k)), some (.int (Ic 59 (iN Ic 62 (k / 16))))] [] T I17 J1 R
                refine aw_iinc (v := nI (k + 1)) (L2 := [some (.ref 44), some (.int (nI (16 * g))), some (.int (nI (k + 1))), some (.int (Ic 59 (iN Ic 62 (k / 16))))]) hC dX12_plansNow_101 rfl (nI_inc _) (by decide) rfl ?_
                refine aw_goto (tgt := 19) hC dX12_plansNow_104 (by decide) ?_
                refine aw_forget 3 (L2 := [some (.ref 44), some (.int (nI (16 * g))), some (.int (nI (k + 1))), none]) rfl ?_
                exact ih1 (by omega) I17 (by have e9 : aUp Ic (k + 1) = aUp Ic k ++ [100 * 1 + k] ++ [100 * 2 + k] := (by clear hC hq; simp only [aUp, upL]; simp_all); rw [e9]; exact hL13)
        · show AW X 0 0 53 [some (.ref 44), some (.int (nI (16 * g))), some (.int (nI k)), some (.int (Ic 59 (iN Ic 62 (k / 16))))] [] T I3 J1 R
          refine aw_aload_n hC dX12_plansNow_53 rfl ?_
          refine aw_iconst (v := 3) hC dX12_plansNow_54 (by decide) ?_
          refine aw_iload_n hC dX12_plansNow_55 rfl ?_
          refine kX12_367 hC rfl (m_X12_lists (I := I3) (J := J1) hT hR (l := (aUp Ic k).length) (a := 3) (x := k) hL.2.2.1 (by first | omega | (exfalso; simp_all; done))) dX12_plansNow_56 (tg_44 hT) rfl a_le a_le a_le a_le a_le rfl aPure_x (aPure_k ?_)
          obtain ⟨I18, e14⟩ : ∃ I18, I18 = a_u (a_u I3 92 (aUp Ic k).length (nI (100 * 3 + k))) 44 59 (nI ((aUp Ic k).length + 1)) := ⟨_, rfl⟩
          rw [← e14]
          have hL14 : LI Ic I18 (aUp Ic k ++ [100 * 3 + k]) := by rw [e14]; exact LI.put hL rfl
          have hl14 : (aUp Ic k ++ [100 * 3 + k]).length = (aUp Ic k).length + 1 := by rw [List.length_append]; rfl
          show AW X 0 0 59 [some (.ref 44), some (.int (nI (16 * g))), some (.int (nI k)), some (.int (Ic 59 (iN Ic 62 (k / 16))))] [] T I18 J1 R
          refine aw_aload_n hC dX12_plansNow_59 rfl ?_
          refine aw_getR hC dX12_plansNow_60 aF_X12_157 rfl (tg_44 hT) (pr_44_58 hR) ?_
          refine aw_iload_n hC dX12_plansNow_63 rfl ?_
          refine aw_iaload_k (j := k) hC dX12_plansNow_64 (tg_91 hT) (nI_clamp (by omega)) (vp_in_nI (by omega) (by decide)) ?_
          rw [hL14.1 91 (by decide)]
          refine aw_iconst (v := 1) hC dX12_plansNow_65 (by decide) ?_
          refine aw_icmp_eq (tgt := 79) hC dX12_plansNow_66 (by decide) (fun h23 => ?_) (fun h23 => ?_)
          · show AW X 0 0 79 [some (.ref 44), some (.int (nI (16 * g))), some (.int (nI k)), some (.int (Ic 59 (iN Ic 62 (k / 16))))] [] T I18 J1 R
            refine aw_aload_n hC dX12_plansNow_79 rfl ?_
            refine aw_iconst (v := 1) hC dX12_plansNow_80 (by decide) ?_
            refine aw_iload_n hC dX12_plansNow_81 rfl ?_
            refine kX12_367 hC rfl (m_X12_lists (I := I18) (J := J1) hT hR (l := (aUp Ic k ++ [100 * 3 + k]).length) (a := 1) (x := k) hL14.2.2.1 (by first | omega | (exfalso; simp_all; done))) dX12_plansNow_82 (tg_44 hT) rfl a_le a_le a_le a_le a_le rfl aPure_x (aPure_k ?_)
            obtain ⟨I19, e15⟩ : ∃ I19, I19 = a_u (a_u I18 92 (aUp Ic k ++ [100 * 3 + k]).length (nI (100 * 1 + k))) 44 59 (nI ((aUp Ic k ++ [100 * 3 + k]).length + 1)) := ⟨_, rfl⟩
            rw [← e15]
            have hL15 : LI Ic I19 (aUp Ic k ++ [100 * 3 + k] ++ [100 * 1 + k]) := by rw [e15]; exact LI.put hL14 rfl
            have hl15 : (aUp Ic k ++ [100 * 3 + k] ++ [100 * 1 + k]).length = (aUp Ic k ++ [100 * 3 + k]).length + 1 := by rw [List.length_append]; rfl
            show AW X 0 0 85 [some (.ref 44), some (.int (nI (16 * g))), some (.int (nI k)), some (.int (Ic 59 (iN Ic 62 (k / 16))))] [] T I19 J1 R
            refine aw_aload_n hC dX12_plansNow_85 rfl ?_
            refine aw_getR hC dX12_plansNow_86 aF_X12_157 rfl (tg_44 hT) (pr_44_58 hR) ?_
            refine aw_iload_n hC dX12_plansNow_89 rfl ?_
            refine aw_iaload_k (j := k) hC dX12_plansNow_90 (tg_91 hT) (nI_clamp (by omega)) (vp_in_nI (by omega) (by decide)) ?_
            rw [hL15.1 91 (by decide)]
            refine aw_iconst (v := 2) hC dX12_plansNow_91 (by decide) ?_
            refine aw_icmp_ne (tgt := 101) hC dX12_plansNow_92 (by decide) (fun h24 => ?_) (fun h24 => ?_)
            · show AW X 0 0 101 [some (.ref 44), some (.int (nI (16 * g))), some (.int (nI k)), some (.int (Ic 59 (iN Ic 62 (k / 16))))] [] T I19 J1 R
              refine aw_iinc (v := nI (k + 1)) (L2 := [some (.ref 44), some (.int (nI (16 * g))), some (.int (nI (k + 1))), some (.int (Ic 59 (iN Ic 62 (k / 16))))]) hC dX12_plansNow_101 rfl (nI_inc _) (by decide) rfl ?_
              refine aw_goto (tgt := 19) hC dX12_plansNow_104 (by decide) ?_
              refine aw_forget 3 (L2 := [some (.ref 44), some (.int (nI (16 * g))), some (.int (nI (k + 1))), none]) rfl ?_
              exact ih1 (by omega) I19 (by have e9 : aUp Ic (k + 1) = aUp Ic k ++ [100 * 3 + k] ++ [100 * 1 + k] := (by clear hC hq; simp only [aUp, upL]; simp_all); rw [e9]; exact hL15)
            · show AW X 0 0 95 [some (.ref 44), some (.int (nI (16 * g))), some (.int (nI k)), some (.int (Ic 59 (iN Ic 62 (k / 16))))] [] T I19 J1 R
              refine aw_aload_n hC dX12_plansNow_95 rfl ?_
              refine aw_iconst (v := 2) hC dX12_plansNow_96 (by decide) ?_
              refine aw_iload_n hC dX12_plansNow_97 rfl ?_
              refine kX12_367 hC rfl (m_X12_lists (I := I19) (J := J1) hT hR (l := (aUp Ic k ++ [100 * 3 + k] ++ [100 * 1 + k]).length) (a := 2) (x := k) hL15.2.2.1 (by first | omega | (exfalso; simp_all; done))) dX12_plansNow_98 (tg_44 hT) rfl a_le a_le a_le a_le a_le rfl aPure_x (aPure_k ?_)
              obtain ⟨I20, e16⟩ : ∃ I20, I20 = a_u (a_u I19 92 (aUp Ic k ++ [100 * 3 + k] ++ [100 * 1 + k]).length (nI (100 * 2 + k))) 44 59 (nI ((aUp Ic k ++ [100 * 3 + k] ++ [100 * 1 + k]).length + 1)) := ⟨_, rfl⟩
              rw [← e16]
              have hL16 : LI Ic I20 (aUp Ic k ++ [100 * 3 + k] ++ [100 * 1 + k] ++ [100 * 2 + k]) := by rw [e16]; exact LI.put hL15 rfl
              have hl16 : (aUp Ic k ++ [100 * 3 + k] ++ [100 * 1 + k] ++ [100 * 2 + k]).length = (aUp Ic k ++ [100 * 3 + k] ++ [100 * 1 + k]).length + 1 := by rw [List.length_append]; rfl
              show AW X 0 0 101 [some (.ref 44), some (.int (nI (16 * g))), some (.int (nI k)), some (.int (Ic 59 (iN Ic 62 (k / 16))))] [] T I20 J1 R
              refine aw_iinc (v := nI (k + 1)) (L2 := [some (.ref 44), some (.int (nI (16 * g))), some (.int (nI (k + 1))), some (.int (Ic 59 (iN Ic 62 (k / 16))))]) hC dX12_plansNow_101 rfl (nI_inc _) (by decide) rfl ?_
              refine aw_goto (tgt := 19) hC dX12_plansNow_104 (by decide) ?_
              refine aw_forget 3 (L2 := [some (.ref 44), some (.int (nI (16 * g))), some (.int (nI (k + 1))), none]) rfl ?_
              exact ih1 (by omega) I20 (by have e9 : aUp Ic (k + 1) = aUp Ic k ++ [100 * 3 + k] ++ [100 * 1 + k] ++ [100 * 2 + k] := (by clear hC hq; simp only [aUp, upL]; simp_all); rw [e9]; exact hL16)
          · show AW X 0 0 69 [some (.ref 44), some (.int (nI (16 * g))), some (.int (nI k)), some (.int (Ic 59 (iN Ic 62 (k / 16))))] [] T I18 J1 R
            refine aw_aload_n hC dX12_plansNow_69 rfl ?_
            refine aw_getR hC dX12_plansNow_70 aF_X12_157 rfl (tg_44 hT) (pr_44_58 hR) ?_
            refine aw_iload_n hC dX12_plansNow_73 rfl ?_
            refine aw_iaload_k (j := k) hC dX12_plansNow_74 (tg_91 hT) (nI_clamp (by omega)) (vp_in_nI (by omega) (by decide)) ?_
            rw [hL14.1 91 (by decide)]
            refine aw_iconst (v := 3) hC dX12_plansNow_75 (by decide) ?_
            refine aw_icmp_ne (tgt := 85) hC dX12_plansNow_76 (by decide) (fun h25 => ?_) (fun h25 => ?_)
            · show AW X 0 0 85 [some (.ref 44), some (.int (nI (16 * g))), some (.int (nI k)), some (.int (Ic 59 (iN Ic 62 (k / 16))))] [] T I18 J1 R
              refine aw_aload_n hC dX12_plansNow_85 rfl ?_
              refine aw_getR hC dX12_plansNow_86 aF_X12_157 rfl (tg_44 hT) (pr_44_58 hR) ?_
              refine aw_iload_n hC dX12_plansNow_89 rfl ?_
              refine aw_iaload_k (j := k) hC dX12_plansNow_90 (tg_91 hT) (nI_clamp (by omega)) (vp_in_nI (by omega) (by decide)) ?_
              rw [hL14.1 91 (by decide)]
              refine aw_iconst (v := 2) hC dX12_plansNow_91 (by decide) ?_
              refine aw_icmp_ne (tgt := 101) hC dX12_plansNow_92 (by decide) (fun h26 => ?_) (fun h26 => ?_)
              · show AW X 0 0 101 [some (.ref 44), some (.int (nI (16 * g))), some (.int (nI k)), some (.int (Ic 59 (iN Ic 62 (k / 16))))] [] T I18 J1 R
                refine aw_iinc (v := nI (k + 1)) (L2 := [some (.ref 44), some (.int (nI (16 * g))), some (.int (nI (k + 1))), some (.int (Ic 59 (iN Ic 62 (k / 16))))]) hC dX12_plansNow_101 rfl (nI_inc _) (by decide) rfl ?_
                refine aw_goto (tgt := 19) hC dX12_plansNow_104 (by decide) ?_
                refine aw_forget 3 (L2 := [some (.ref 44), some (.int (nI (16 * g))), some (.int (nI (k + 1))), none]) rfl ?_
                exact ih1 (by omega) I18 (by have e9 : aUp Ic (k + 1) = aUp Ic k ++ [100 * 3 + k] := (by clear hC hq; simp only [aUp, upL]; simp_all); rw [e9]; exact hL14)
              · show AW X 0 0 95 [some (.ref 44), some (.int (nI (16 * g))), some (.int (nI k)), some (.int (Ic 59 (iN Ic 62 (k / 16))))] [] T I18 J1 R
                refine aw_aload_n hC dX12_plansNow_95 rfl ?_
                refine aw_iconst (v := 2) hC dX12_plansNow_96 (by decide) ?_
                refine aw_iload_n hC dX12_plansNow_97 rfl ?_
                refine kX12_367 hC rfl (m_X12_lists (I := I18) (J := J1) hT hR (l := (aUp Ic k ++ [100 * 3 + k]).length) (a := 2) (x := k) hL14.2.2.1 (by first | omega | (exfalso; simp_all; done))) dX12_plansNow_98 (tg_44 hT) rfl a_le a_le a_le a_le a_le rfl aPure_x (aPure_k ?_)
                obtain ⟨I21, e17⟩ : ∃ I21, I21 = a_u (a_u I18 92 (aUp Ic k ++ [100 * 3 + k]).length (nI (100 * 2 + k))) 44 59 (nI ((aUp Ic k ++ [100 * 3 + k]).length + 1)) := ⟨_, rfl⟩
                rw [← e17]
                have hL17 : LI Ic I21 (aUp Ic k ++ [100 * 3 + k] ++ [100 * 2 + k]) := by rw [e17]; exact LI.put hL14 rfl
                have hl17 : (aUp Ic k ++ [100 * 3 + k] ++ [100 * 2 + k]).length = (aUp Ic k ++ [100 * 3 + k]).length + 1 := by rw [List.length_append]; rfl
                show AW X 0 0 101 [some (.ref 44), some (.int (nI (16 * g))), some (.int (nI k)), some (.int (Ic 59 (iN Ic 62 (k / 16))))] [] T I21 J1 R
                refine aw_iinc (v := nI (k + 1)) (L2 := [some (.ref 44), some (.int (nI (16 * g))), some (.int (nI (k + 1))), some (.int (Ic 59 (iN Ic 62 (k / 16))))]) hC dX12_plansNow_101 rfl (nI_inc _) (by decide) rfl ?_
                refine aw_goto (tgt := 19) hC dX12_plansNow_104 (by decide) ?_
                refine aw_forget 3 (L2 := [some (.ref 44), some (.int (nI (16 * g))), some (.int (nI (k + 1))), none]) rfl ?_
                exact ih1 (by omega) I21 (by have e9 : aUp Ic (k + 1) = aUp Ic k ++ [100 * 3 + k] ++ [100 * 2 + k] := (by clear hC hq; simp only [aUp, upL]; simp_all); rw [e9]; exact hL17)
            · show AW X 0 0 79 [some (.ref 44), some (.int (nI (16 * g))), some (.int (nI k)), some (.int (Ic 59 (iN Ic 62 (k / 16))))] [] T I18 J1 R
              refine aw_aload_n hC dX12_plansNow_79 rfl ?_
              refine aw_iconst (v := 1) hC dX12_plansNow_80 (by decide) ?_
              refine aw_iload_n hC dX12_plansNow_81 rfl ?_
              refine kX12_367 hC rfl (m_X12_lists (I := I18) (J := J1) hT hR (l := (aUp Ic k ++ [100 * 3 + k]).length) (a := 1) (x := k) hL14.2.2.1 (by first | omega | (exfalso; simp_all; done))) dX12_plansNow_82 (tg_44 hT) rfl a_le a_le a_le a_le a_le rfl aPure_x (aPure_k ?_)
              obtain ⟨I22, e18⟩ : ∃ I22, I22 = a_u (a_u I18 92 (aUp Ic k ++ [100 * 3 + k]).length (nI (100 * 1 + k))) 44 59 (nI ((aUp Ic k ++ [100 * 3 + k]).length + 1)) := ⟨_, rfl⟩
              rw [← e18]
              have hL18 : LI Ic I22 (aUp Ic k ++ [100 * 3 + k] ++ [100 * 1 + k]) := by rw [e18]; exact LI.put hL14 rfl
              have hl18 : (aUp Ic k ++ [100 * 3 + k] ++ [100 * 1 + k]).length = (aUp Ic k ++ [100 * 3 + k]).length + 1 := by rw [List.length_append]; rfl
              show AW X 0 0 85 [some (.ref 44), some (.int (nI (16 * g))), some (.int (nI k)), some (.int (Ic 59 (iN Ic 62 (k / 16))))] [] T I22 J1 R
              refine aw_aload_n hC dX12_plansNow_85 rfl ?_
              refine aw_getR hC dX12_plansNow_86 aF_X12_157 rfl (tg_44 hT) (pr_44_58 hR) ?_
              refine aw_iload_n hC dX12_plansNow_89 rfl ?_
              refine aw_iaload_k (j := k) hC dX12_plansNow_90 (tg_91 hT) (nI_clamp (by omega)) (vp_in_nI (by omega) (by decide)) ?_
              rw [hL18.1 91 (by decide)]
              refine aw_iconst (v := 2) hC dX12_plansNow_91 (by decide) ?_
              refine aw_icmp_ne (tgt := 101) hC dX12_plansNow_92 (by decide) (fun h27 => ?_) (fun h27 => ?_)
              · show AW X 0 0 101 [some (.ref 44), some (.int (nI (16 * g))), some (.int (nI k)), some (.int (Ic 59 (iN Ic 62 (k / 16))))] [] T I22 J1 R
                refine aw_iinc (v := nI (k + 1)) (L2 := [some (.ref 44), some (.int (nI (16 * g))), some (.int (nI (k + 1))), some (.int (Ic 59 (iN Ic 62 (k / 16))))]) hC dX12_plansNow_101 rfl (nI_inc _) (by decide) rfl ?_
                refine aw_goto (tgt := 19) hC dX12_plansNow_104 (by decide) ?_
                refine aw_forget 3 (L2 := [some (.ref 44), some (.int (nI (16 * g))), some (.int (nI (k + 1))), none]) rfl ?_
                exact ih1 (by omega) I22 (by have e9 : aUp Ic (k + 1) = aUp Ic k ++ [100 * 3 + k] ++ [100 * 1 + k] := (by clear hC hq; simp only [aUp, upL]; simp_all); rw [e9]; exact hL18)
              · show AW X 0 0 95 [some (.ref 44), some (.int (nI (16 * g))), some (.int (nI k)), some (.int (Ic 59 (iN Ic 62 (k / 16))))] [] T I22 J1 R
                refine aw_aload_n hC dX12_plansNow_95 rfl ?_
                refine aw_iconst (v := 2) hC dX12_plansNow_96 (by decide) ?_
                refine aw_iload_n hC dX12_plansNow_97 rfl ?_
                refine kX12_367 hC rfl (m_X12_lists (I := I22) (J := J1) hT hR (l := (aUp Ic k ++ [100 * 3 + k] ++ [100 * 1 + k]).length) (a := 2) (x := k) hL18.2.2.1 (by first | omega | (exfalso; simp_all; done))) dX12_plansNow_98 (tg_44 hT) rfl a_le a_le a_le a_le a_le rfl aPure_x (aPure_k ?_)
                obtain ⟨I23, e19⟩ : ∃ I23, I23 = a_u (a_u I22 92 (aUp Ic k ++ [100 * 3 + k] ++ [100 * 1 + k]).length (nI (100 * 2 + k))) 44 59 (nI ((aUp Ic k ++ [100 * 3 + k] ++ [100 * 1 + k]).length + 1)) := ⟨_, rfl⟩
                rw [← e19]
                have hL19 : LI Ic I23 (aUp Ic k ++ [100 * 3 + k] ++ [100 * 1 + k] ++ [100 * 2 + k]) := by rw [e19]; exact LI.put hL18 rfl
                have hl19 : (aUp Ic k ++ [100 * 3 + k] ++ [100 * 1 + k] ++ [100 * 2 + k]).length = (aUp Ic k ++ [100 * 3 + k] ++ [100 * 1 + k]).length + 1 := by rw [List.length_append]; rfl
                show AW X 0 0 101 [some (.ref 44), some (.int (nI (16 * g))), some (.int (nI k)), some (.int (Ic 59 (iN Ic 62 (k / 16))))] [] T I23 J1 R
                refine aw_iinc (v := nI (k + 1)) (L2 := [some (.ref 44), some (.int (nI (16 * g))), some (.int (nI (k + 1))), some (.int (Ic 59 (iN Ic 62 (k / 16))))]) hC dX12_plansNow_101 rfl (nI_inc _) (by decide) rfl ?_
                refine aw_goto (tgt := 19) hC dX12_plansNow_104 (by decide) ?_
                refine aw_forget 3 (L2 := [some (.ref 44), some (.int (nI (16 * g))), some (.int (nI (k + 1))), none]) rfl ?_
                exact ih1 (by omega) I23 (by have e9 : aUp Ic (k + 1) = aUp Ic k ++ [100 * 3 + k] ++ [100 * 1 + k] ++ [100 * 2 + k] := (by clear hC hq; simp only [aUp, upL]; simp_all); rw [e9]; exact hL19)
  exact loop1 0 (Nat.zero_le _) _ (LI.st Ic)
