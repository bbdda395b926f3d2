theorem sCmp_cg2 {I I2 : aI} {J J2 : aJ} {x : Nat} (hso : SO3 I) (hx : x < 64) (h57 : I2 44 57 = I 44 57) (hJ : J2 88 = J 88) (h : ∀ o, o ≠ 44 → o ≠ 91 → o ≠ 92 → I2 o = I o) (h91 : ∀ y, y < 16 * (x / 16) → I2 91 y = I 91 y) : sCmp I2 J2 x = sCmp I J x := by
  have g : ∀ a, a < 3 → sDf I2 J2 x a = sDf I J x a := fun a ha => sDiff_cg (sGives_cg hso hx ha h57 hJ (h 58 (by decide) (by decide) (by decide)) (h 61 (by decide) (by decide) (by decide)) (h 62 (by decide) (by decide) (by decide)) (h 65 (by decide) (by decide) (by decide)) (h 69 (by decide) (by decide) (by decide)) (h 70 (by decide) (by decide) (by decide)) h91) (h 58 (by decide) (by decide) (by decide)) (h 62 (by decide) (by decide) (by decide)) (h 70 (by decide) (by decide) (by decide)) (h 72 (by decide) (by decide) (by decide)) (h 73 (by decide) (by decide) (by decide))
  have gF : anyB (fF I2 J2 x) 3 = anyB (fF I J x) 3 := anyB_cg (fun j hj => by simp only [fF]; rw [g j hj, h 58 (by decide) (by decide) (by decide)]; unfold iN; rw [h 62 (by decide) (by decide) (by decide)])
  have gD : anyB (fD I2 J2 x) 3 = anyB (fD I J x) 3 := anyB_cg (fun j hj => g j hj)
  have gK : sKept I2 x = sKept I x := by simp only [sKept]; unfold iN; rw [h 64 (by decide) (by decide) (by decide), h 63 (by decide) (by decide) (by decide)]
  rw [sCmp, sCmp, gF, gD, gK, h 69 (by decide) (by decide) (by decide), h 71 (by decide) (by decide) (by decide)]
theorem CmpOK_cg {I I2 : aI} {J J2 : aJ} {g : Nat} (hg : g ≤ 4) (hso : SO3 I) (h57 : I2 44 57 = I 44 57) (hJ : J2 88 = J 88) (h : ∀ o, o ≠ 44 → o ≠ 92 → I2 o = I o) (hc : CmpOK I J g) : CmpOK I2 J2 g := fun x hx => by
  rw [h 91 (by decide) (by decide), hc x hx]
  exact (sCmp_cg2 hso (by omega) h57 hJ (fun o h1 _ h3 => h o h1 h3) (fun y _ => by rw [h 91 (by decide) (by decide)])).symm
abbrev CmR (I I2 : aI) (J J2 : aJ) (n g : Nat) : Prop := ∃ I1, SolP I I1 J J2 n ∧ (∃ S, I2 = a_ur I1 91 S) ∧ CmpOK I2 J2 g
theorem CmR.fr {I I2 : aI} {J J2 : aJ} {n g : Nat} (h : CmR I I2 J J2 n g) : ∀ o, o ≠ 44 ∧ o ≠ 83 ∧ o ≠ 84 ∧ o ≠ 85 ∧ o ≠ 86 ∧ o ≠ 91 → I2 o = I o := by
  obtain ⟨I1, h1, ⟨S, h2⟩, -⟩ := h
  intro o ho
  rw [h2, a_ur_ne ho.2.2.2.2.2]; exact h1.fr o ⟨ho.1, ho.2.1, ho.2.2.1, ho.2.2.2.1, ho.2.2.2.2.1⟩
theorem CmR.f44 {I I2 : aI} {J J2 : aJ} {n g k : Nat} (h : CmR I I2 J J2 n g) (h1 : k ≠ 53) (h2 : k ≠ 57) : I2 44 k = I 44 k := by
  obtain ⟨I1, h3, ⟨S, h4⟩, -⟩ := h
  rw [h4, a_ur_ne (by decide)]; exact h3.f44 h1 h2
theorem CmR.gw {I I2 : aI} {J J2 : aJ} {n g : Nat} (h : CmR I I2 J J2 n g) (hg : GW I g) : GW I2 g :=
  GW_cg (h.f44 (by decide) (by decide)) (h.fr 65 (by decide)) (h.fr 62 (by decide)) (h.fr 61 (by decide)) (h.fr 63 (by decide)) (h.fr 71 (by decide)) hg
theorem GW.th {I : aI} {g : Nat} {v : Int32} (h : GW I g) : GW (a_u I 44 61 v) g := GW_cg (a_u_ne (by decide)) (a_u_row (by decide)) (a_u_row (by decide)) (a_u_row (by decide)) (a_u_row (by decide)) (a_u_row (by decide)) h
theorem PlR.fr {I I2 : aI} {J J2 : aJ} {n g : Nat} (h : PlR I I2 J J2 n g) : ∀ o, o ≠ 44 ∧ o ≠ 83 ∧ o ≠ 84 ∧ o ≠ 85 ∧ o ≠ 86 ∧ o ≠ 91 ∧ o ≠ 92 → I2 o = I o := by
  obtain ⟨I1, Ic, h1, h2, h3, h4⟩ := h
  intro o ho
  rw [h4.1 o ⟨ho.1, ho.2.2.2.2.2.2⟩]; exact CmR.fr ⟨I1, h1, h2, h3⟩ o ⟨ho.1, ho.2.1, ho.2.2.1, ho.2.2.2.1, ho.2.2.2.2.1, ho.2.2.2.2.2.1⟩
theorem PlR.f44 {I I2 : aI} {J J2 : aJ} {n g k : Nat} (h : PlR I I2 J J2 n g) (h1 : k ≠ 53) (h2 : k ≠ 57) (h5 : k ≠ 59) : I2 44 k = I 44 k := by
  obtain ⟨I1, Ic, g1, g2, g3, g4⟩ := h
  rw [g4.2.1 k h5]; exact CmR.f44 ⟨I1, g1, g2, g3⟩ h1 h2
theorem PlR.gw {I I2 : aI} {J J2 : aJ} {n g : Nat} (h : PlR I I2 J J2 n g) (hg : GW I g) : GW I2 g :=
  GW_cg (h.f44 (by decide) (by decide) (by decide)) (h.fr 65 (by decide)) (h.fr 62 (by decide)) (h.fr 61 (by decide)) (h.fr 63 (by decide)) (h.fr 71 (by decide)) hg
theorem upL_cg {I I2 : aI} (h91 : I2 91 = I 91) (h59 : I2 59 = I 59) (h62 : I2 62 = I 62) (x : Nat) : upL I2 x = upL I x := by unfold upL iN; rw [h91, h59, h62]
theorem dnL_cg {I I2 : aI} (h91 : I2 91 = I 91) (h59 : I2 59 = I 59) (h62 : I2 62 = I 62) (x : Nat) : dnL I2 x = dnL I x := by unfold dnL iN; rw [h91, h59, h62]
theorem aUp_cg {I I2 : aI} (h91 : I2 91 = I 91) (h59 : I2 59 = I 59) (h62 : I2 62 = I 62) : ∀ k, aUp I2 k = aUp I k
  | 0 => rfl
  | k + 1 => by rw [aUp, aUp, aUp_cg h91 h59 h62 k, upL_cg h91 h59 h62]
theorem aDn_cg {I I2 : aI} (h91 : I2 91 = I 91) (h59 : I2 59 = I 59) (h62 : I2 62 = I 62) (n : Nat) : ∀ k, aDn I2 n k = aDn I n k
  | 0 => rfl
  | k + 1 => by rw [aDn, aDn, aDn_cg h91 h59 h62 n k, dnL_cg h91 h59 h62]
theorem allA_cg {I I2 : aI} (h91 : I2 91 = I 91) (h59 : I2 59 = I 59) (h62 : I2 62 = I 62) (n : Nat) : allA I2 n = allA I n := by
  show aUp I2 n ++ aDn I2 n n = aUp I n ++ aDn I n n
  rw [aUp_cg h91 h59 h62, aDn_cg h91 h59 h62]
theorem allA_le (I : aI) (n : Nat) : (allA I n).length ≤ 2 * n := by
  have h := aDn_2 I n n (Nat.le_refl _)
  rw [Nat.sub_self] at h
  simp only [aUp, List.length_nil] at h
  show (aUp I n ++ aDn I n n).length ≤ 2 * n
  rw [List.length_append]; omega
/-- the list -/
theorem PlR.list {I I2 : aI} {J J2 : aJ} {n g : Nat} (h : PlR I I2 J J2 n g) : I2 44 59 = nI (allA I2 (16 * g)).length ∧ ∀ k (hk : k < (allA I2 (16 * g)).length), I2 92 k = nI (allA I2 (16 * g))[k] := by
  obtain ⟨I1, Ic, g1, g2, g3, g4⟩ := h
  have e : allA I2 (16 * g) = allA Ic (16 * g) := allA_cg (g4.1 91 (by decide)) (g4.1 59 (by decide)) (g4.1 62 (by decide)) _
  rw [e]; exact g4.2.2
theorem PlR.cmp {I I2 : aI} {J J2 : aJ} {n g : Nat} (hg : GW I g) (h : PlR I I2 J J2 n g) : CmpOK I2 J2 g := by
  obtain ⟨I1, Ic, g1, g2, g3, g4⟩ := h
  exact CmpOK_cg hg.g4 (CmR.gw ⟨I1, g1, g2, g3⟩ hg).so (g4.2.1 57 (by decide)) rfl (fun o h1 h2 => g4.1 o ⟨h1, h2⟩) g3
theorem NR_fr {I I2 : aI} {a n b : Nat} (h : I2 a = I a) (g : NR I a n b) : NR I2 a n b := NR_cg h g
def cntT (p : Nat → Bool) : Nat → Nat
  | 0 => 0
  | k + 1 => cntT p k + if p k then 1 else 0
theorem cntT_le (p : Nat → Bool) : ∀ k, cntT p k ≤ k
  | 0 => Nat.le_refl _
  | k + 1 => by have := cntT_le p k; simp only [cntT]; split <;> omega
abbrev hA1 (I : aI) (p : Nat) (A : Nat) : Nat → Bool := fun k => anyB (fun m => decide (I 92 m = I 80 (128 * p + k))) A
noncomputable def hA (I : aI) (J : aJ) (n g p : Nat) : Bool := cP I J n g && allB (hA1 I p (allA I (16 * g)).length) (iN I 79 p)
set_option maxRecDepth 100000 in
theorem m_X12_givenT {T : List aT} {I : aI} {J : aJ} {R : aR} (hT : aPT T) (hR : aPR R) {n g : Nat} (hS : SW I n) (hZ : Zr J) (hg : GW I g) {x a : Nat} (hx : x < 16 * g) (ha : a < 3) : MX12_given 0 0 [.ref 44, .int (nI x), .int (nI a)] T I J R (aRel (fun I2 J2 => some (.int (sGives I2 J2 x a))) (fun I2 J2 => CmR (a_u I 44 61 0) I2 J J2 n g) T R) := by
  refine a_met (by decide +kernel) a_le (fun X hC hq => ?_)
  show AW X 0 0 0 [some (.ref 44), some (.int (nI x)), some (.int (nI a))] [] T I J R
  have hg4 := hg.g4
  refine aw_aload_n hC dX12_given_0 rfl ?_
  refine aw_aload_n hC dX12_given_1 rfl ?_
  refine aw_iload_n hC dX12_given_2 rfl ?_
  refine kX12_374 hC rfl (m_X12_isName (I := I) (J := J) hT hR (nI x) (g := g) hg.gn hg.g4) dX12_given_3 (tg_44 hT) rfl a_le a_le a_le a_le a_le rfl aPure_x (aPure_k ?_)
  show AW X 0 0 6 [some (.ref 44), some (.int (nI x)), some (.int (nI a))] [.int (bI (decide (0 ≤ nI x ∧ nI x < nI (16 * g)))), .ref 44] T I J R
  rw [show bI (decide (0 ≤ nI x ∧ nI x < nI (16 * g))) = 1 from bI_one (nI_btw hx (by have := hg.g4; omega))]
  refine aw_if_eq (tgt := 22) hC dX12_given_6 (by decide) (fun h1 => absurd h1 (by decide)) (fun _ => ?_)
  show AW X 0 0 9 [some (.ref 44), some (.int (nI x)), some (.int (nI a))] [.ref 44] T I J R
  refine aw_iload_n hC dX12_given_9 rfl ?_
  refine aw_iconst (v := 0) hC dX12_given_10 (by decide) ?_
  refine aw_iconst (v := 2) hC dX12_given_11 (by decide) ?_
  refine kX12_169 hC rfl (m_X12_isIn (nI a) (0 : Int32) (2 : Int32)) dX12_given_12 rfl a_le a_le a_le a_le a_le rfl aPure_x (aPure_k ?_)
  show AW X 0 0 15 [some (.ref 44), some (.int (nI x)), some (.int (nI a))] [.int (bI (decide ((0 : Int32) ≤ (nI a) ∧ (nI a) ≤ (2 : Int32)))), .ref 44] T I J R
  rw [show bI (decide ((0 : Int32) ≤ (nI a) ∧ (nI a) ≤ (2 : Int32))) = 1 from bI_one ⟨nI_pos' (by omega), nI_le (b := 2) (by omega) (by omega)⟩]
  refine aw_if_eq (tgt := 22) hC dX12_given_15 (by decide) (fun h2 => absurd h2 (by decide)) (fun _ => ?_)
  show AW X 0 0 18 [some (.ref 44), some (.int (nI x)), some (.int (nI a))] [.ref 44] T I J R
  refine aw_iconst (v := 0) hC dX12_given_18 (by decide) ?_
  refine aw_goto (tgt := 23) hC dX12_given_19 (by decide) ?_
  refine aw_putI hC dX12_given_23 aF_X12_166 rfl rfl (tg_44 hT) ?_
  refine aw_aload_n hC dX12_given_26 rfl ?_
  refine aw_getI hC dX12_given_27 aF_X12_166 rfl (tg_44 hT) ?_
  rw [a_u_self (f := I) (o := 44) (k := 61) (v := 0)]
  refine aw_if_le (tgt := 35) hC dX12_given_30 (by decide) (fun _ => ?_) (fun h3 => absurd h3 (by decide))
  show AW X 0 0 35 [some (.ref 44), some (.int (nI x)), some (.int (nI a))] [] T (a_u I 44 61 0) J R
  refine aw_aload_n hC dX12_given_35 rfl ?_
  refine kX12_364 hC rfl (m_X12_comparesAll (I := a_u I 44 61 0) (J := J) (n := n) (g := g) hT hR hS.th hZ hg.th) dX12_given_36 (tg_44 hT) rfl a_le a_le a_le a_le a_le rfl aRel_x (aRel_k (fun I2 J2 hQ => ?_))
  have hCm : CmR _ _ _ _ n g := hQ
  have hg2 := hCm.gw hg.th
  have hf2 : ∀ o, o ≠ 44 ∧ o ≠ 83 ∧ o ≠ 84 ∧ o ≠ 85 ∧ o ≠ 86 ∧ o ≠ 91 → I2 o = I o := fun o ho => (hCm.fr o ho).trans (a_u_row ho.1)
  show AW X 0 0 39 [some (.ref 44), some (.int (nI x)), some (.int (nI a))] [] T I2 J2 R
  refine aw_aload_n hC dX12_given_39 rfl ?_
  refine aw_iload_n hC dX12_given_40 rfl ?_
  refine aw_iload_n hC dX12_given_41 rfl ?_
  refine kX12_346 hC rfl (m_X12_gives (I := I2) (J := J2) hT hR (x := x) (a := a) (by omega) (by omega) hg2.so.s2 hg2.ty hg2.up) dX12_given_42 (tg_44 hT) rfl a_le a_le a_le a_le a_le rfl aPure_x (aPure_k ?_)
  show AW X 0 0 45 [some (.ref 44), some (.int (nI x)), some (.int (nI a))] [.int (sGives I2 J2 x a)] T I2 J2 R
  exact aw_ireturn hC hq rfl dX12_given_45 a_le a_le ⟨rfl, rfl, rfl, hCm⟩
set_option maxRecDepth 100000 in
theorem m_X12_givenF {T : List aT} {I : aI} {J : aJ} {R : aR} (hT : aPT T) (hR : aPR R) {g : Nat} (hg : I 44 20 = nI g) (hg4 : g ≤ 4) (x a : Int32) (hbad : ¬ ((0 ≤ x ∧ x < nI (16 * g)) ∧ (0 ≤ a ∧ a ≤ 2))) : MX12_given 0 0 [.ref 44, .int x, .int a] T I J R (aPure (some (.int (0))) T (a_u I 44 61 1) J R) := by
  refine a_met (by decide +kernel) a_le (fun X hC hq => ?_)
  show AW X 0 0 0 [some (.ref 44), some (.int x), some (.int a)] [] T I J R
  refine aw_aload_n hC dX12_given_0 rfl ?_
  refine aw_aload_n hC dX12_given_1 rfl ?_
  refine aw_iload_n hC dX12_given_2 rfl ?_
  refine kX12_374 hC rfl (m_X12_isName (I := I) (J := J) hT hR x (g := g) hg hg4) dX12_given_3 (tg_44 hT) rfl a_le a_le a_le a_le a_le rfl aPure_x (aPure_k ?_)
  show AW X 0 0 6 [some (.ref 44), some (.int x), some (.int a)] [.int (bI (decide (0 ≤ x ∧ x < nI (16 * g)))), .ref 44] T I J R
  refine aw_if_eq (tgt := 22) hC dX12_given_6 (by decide) (fun h1 => ?_) (fun h1 => ?_)
  · show AW X 0 0 22 [some (.ref 44), some (.int x), some (.int a)] [.ref 44] T I J R
    refine aw_iconst (v := 1) hC dX12_given_22 (by decide) ?_
    refine aw_putI hC dX12_given_23 aF_X12_166 rfl rfl (tg_44 hT) ?_
    refine aw_aload_n hC dX12_given_26 rfl ?_
    refine aw_getI hC dX12_given_27 aF_X12_166 rfl (tg_44 hT) ?_
    rw [a_u_self (f := I) (o := 44) (k := 61) (v := 1)]
    refine aw_if_le (tgt := 35) hC dX12_given_30 (by decide) (fun h2 => absurd h2 (by decide)) (fun _ => ?_)
    show AW X 0 0 33 [some (.ref 44), some (.int x), some (.int a)] [] T (a_u I 44 61 1) J R
    refine aw_iconst (v := 0) hC dX12_given_33 (by decide) ?_
    exact aw_ireturn hC hq rfl dX12_given_34 a_le a_le (aPure_e (by clear hC hq; (try simp only [bI_e0, bI_n0, decide_eq_false_iff_not, decide_eq_true_eq, Classical.not_not] at *) <;> first | grind [nI_p1, a_u_2] | (exfalso; (simp only [i_le, i_lt, i_eq, Int32.reduceToInt] at *); omega)) (by clear hC hq; (try simp only [bI_e0, bI_n0, decide_eq_false_iff_not, decide_eq_true_eq, Classical.not_not] at *) <;> first | grind [nI_p1, a_u_2] | (exfalso; (simp only [i_le, i_lt, i_eq, Int32.reduceToInt] at *); omega)) rfl rfl)
  · show AW X 0 0 9 [some (.ref 44), some (.int x), some (.int a)] [.ref 44] T I J R
    refine aw_iload_n hC dX12_given_9 rfl ?_
    refine aw_iconst (v := 0) hC dX12_given_10 (by decide) ?_
    refine aw_iconst (v := 2) hC dX12_given_11 (by decide) ?_
    refine kX12_169 hC rfl (m_X12_isIn a (0 : Int32) (2 : Int32)) dX12_given_12 rfl a_le a_le a_le a_le a_le rfl aPure_x (aPure_k ?_)
    show AW X 0 0 15 [some (.ref 44), some (.int x), some (.int a)] [.int (bI (decide ((0 : Int32) ≤ a ∧ a ≤ (2 : Int32)))), .ref 44] T I J R
    refine aw_if_eq (tgt := 22) hC dX12_given_15 (by decide) (fun h3 => ?_) (fun h3 => ?_)
    · show AW X 0 0 22 [some (.ref 44), some (.int x), some (.int a)] [.ref 44] T I J R
      refine aw_iconst (v := 1) hC dX12_given_22 (by decide) ?_
      refine aw_putI hC dX12_given_23 aF_X12_166 rfl rfl (tg_44 hT) ?_
      refine aw_aload_n hC dX12_given_26 rfl ?_
      refine aw_getI hC dX12_given_27 aF_X12_166 rfl (tg_44 hT) ?_
      rw [a_u_self (f := I) (o := 44) (k := 61) (v := 1)]
      refine aw_if_le (tgt := 35) hC dX12_given_30 (by decide) (fun h4 => absurd h4 (by decide)) (fun _ => ?_)
      show AW X 0 0 33 [some (.ref 44), some (.int x), some (.int a)] [] T (a_u I 44 61 1) J R
      refine aw_iconst (v := 0) hC dX12_given_33 (by decide) ?_
      exact aw_ireturn hC hq rfl dX12_given_34 a_le a_le (aPure_e (by clear hC hq; (try simp only [bI_e0, bI_n0, decide_eq_false_iff_not, decide_eq_true_eq, Classical.not_not] at *) <;> first | grind [nI_p1, a_u_2] | (exfalso; (simp only [i_le, i_lt, i_eq, Int32.reduceToInt] at *); omega)) (by clear hC hq; (try simp only [bI_e0, bI_n0, decide_eq_false_iff_not, decide_eq_true_eq, Classical.not_not] at *) <;> first | grind [nI_p1, a_u_2] | (exfalso; (simp only [i_le, i_lt, i_eq, Int32.reduceToInt] at *); omega)) rfl rfl)
    · show AW X 0 0 18 [some (.ref 44), some (.int x), some (.int a)] [.ref 44] T I J R
      exfalso; clear hC hq; (try simp only [bI_e0, bI_n0, decide_eq_false_iff_not, decide_eq_true_eq, Classical.not_not] at *); grind
set_option maxRecDepth 100000 in
theorem m_X12_pending {T : List aT} {I : aI} {J : aJ} {R : aR} (hT : aPT T) (hR : aPR R) {n g : Nat} (hS : SW I n) (hZ : Zr J) (hg : GW I g) : MX12_pending 0 0 [.ref 44] T I J R (aRel (fun I2 J2 => some (.int (if cP I2 J2 n g = true then I2 44 59 else -1))) (fun I2 J2 => PlR (a_u I 44 61 0) I2 J J2 n g) T R) := by
  refine a_met (by decide +kernel) a_le (fun X hC hq => ?_)
  show AW X 0 0 0 [some (.ref 44)] [] T I J R
  refine aw_aload_n hC dX12_pending_0 rfl ?_
  refine aw_iconst (v := 0) hC dX12_pending_1 (by decide) ?_
  refine aw_putI hC dX12_pending_2 aF_X12_166 rfl rfl (tg_44 hT) ?_
  refine aw_aload_n hC dX12_pending_5 rfl ?_
  refine kX12_377 hC rfl (m_X12_plansNow (I := a_u I 44 61 0) (J := J) (n := n) (g := g) hT hR hS.th hZ hg.th) dX12_pending_6 (tg_44 hT) rfl a_le a_le a_le a_le a_le rfl aRel_x (aRel_k (fun I2 J2 hQ => ?_))
  have hPl : PlR (a_u I 44 61 0) I2 J J2 n g := hQ
  have hg2 := hPl.gw hg.th
  have hf2 : ∀ o, o ≠ 44 ∧ o ≠ 83 ∧ o ≠ 84 ∧ o ≠ 85 ∧ o ≠ 86 ∧ o ≠ 91 ∧ o ≠ 92 → I2 o = I o := fun o ho => (hPl.fr o ho).trans (a_u_row ho.1)
  have hli := hPl.list
  have hle := allA_le I2 (16 * g)
  have hg4 := hg.g4
  obtain ⟨A, hA9⟩ : ∃ A, A = allA I2 (16 * g) := ⟨_, rfl⟩
  rw [← hA9] at hli hle
  show AW X 0 0 9 [some (.ref 44)] [.int (bI (cP I2 J2 n g))] T I2 J2 R
  refine aw_if_eq (tgt := 19) hC dX12_pending_9 (by decide) (fun h1 => ?_) (fun h1 => ?_)
  · show AW X 0 0 19 [some (.ref 44)] [] T I2 J2 R
    refine aw_iconst (v := (-1)) hC dX12_pending_19 (by decide) ?_
    exact aw_ireturn hC hq rfl dX12_pending_20 a_le a_le ⟨by clear hC hq; (try simp only [bI_e0, bI_n0, decide_eq_false_iff_not, decide_eq_true_eq, Classical.not_not] at *); grind, rfl, rfl, hPl⟩
  · show AW X 0 0 12 [some (.ref 44)] [] T I2 J2 R
    refine aw_aload_n hC dX12_pending_12 rfl ?_
    refine aw_getI hC dX12_pending_13 aF_X12_361 rfl (tg_44 hT) ?_
    refine aw_goto (tgt := 20) hC dX12_pending_16 (by decide) ?_
    exact aw_ireturn hC hq rfl dX12_pending_20 a_le a_le ⟨by clear hC hq; (try simp only [bI_e0, bI_n0, decide_eq_false_iff_not, decide_eq_true_eq, Classical.not_not] at *); grind, rfl, rfl, hPl⟩
set_option maxRecDepth 100000 in
theorem m_X12_differing {T : List aT} {I : aI} {J : aJ} {R : aR} (hT : aPT T) (hR : aPR R) {n g : Nat} (hS : SW I n) (hZ : Zr J) (hg : GW I g) : MX12_differing 0 0 [.ref 44] T I J R (aRel (fun I2 J2 => some (.int (if cP I2 J2 n g = true then nI (cntT (fun x => decide (0 < I2 91 x)) (16 * g)) else -1))) (fun I2 J2 => PlR (a_u I 44 61 0) I2 J J2 n g) T R) := by
  refine a_met (by decide +kernel) a_le (fun X hC hq => ?_)
  show AW X 0 0 0 [some (.ref 44), none, none, none] [] T I J R
  refine aw_aload_n hC dX12_differing_0 rfl ?_
  refine aw_iconst (v := 0) hC dX12_differing_1 (by decide) ?_
  refine aw_putI hC dX12_differing_2 aF_X12_166 rfl rfl (tg_44 hT) ?_
  refine aw_iconst (v := 0) hC dX12_differing_5 (by decide) ?_
  refine aw_istore_n (L2 := [some (.ref 44), some (.int 0), none, none]) hC dX12_differing_6 rfl (by decide) rfl ?_
  refine aw_aload_n hC dX12_differing_7 rfl ?_
  refine kX12_377 hC rfl (m_X12_plansNow (I := a_u I 44 61 0) (J := J) (n := n) (g := g) hT hR hS.th hZ hg.th) dX12_differing_8 (tg_44 hT) rfl a_le a_le a_le a_le a_le rfl aRel_x (aRel_k (fun I2 J2 hQ => ?_))
  have hPl : PlR (a_u I 44 61 0) I2 J J2 n g := hQ
  have hg2 := hPl.gw hg.th
  have hf2 : ∀ o, o ≠ 44 ∧ o ≠ 83 ∧ o ≠ 84 ∧ o ≠ 85 ∧ o ≠ 86 ∧ o ≠ 91 ∧ o ≠ 92 → I2 o = I o := fun o ho => (hPl.fr o ho).trans (a_u_row ho.1)
  have hli := hPl.list
  have hle := allA_le I2 (16 * g)
  have hg4 := hg.g4
  obtain ⟨A, hA9⟩ : ∃ A, A = allA I2 (16 * g) := ⟨_, rfl⟩
  rw [← hA9] at hli hle
  show AW X 0 0 11 [some (.ref 44), some (.int 0), none, none] [.int (bI (cP I2 J2 n g))] T I2 J2 R
  refine aw_istore_n (L2 := [some (.ref 44), some (.int 0), some (.int (bI (cP I2 J2 n g))), none]) hC dX12_differing_11 rfl (by decide) rfl ?_
  refine aw_iconst (v := 0) hC dX12_differing_12 (by decide) ?_
  refine aw_istore_n (L2 := [some (.ref 44), some (.int 0), some (.int (bI (cP I2 J2 n g))), some (.int 0)]) hC dX12_differing_13 rfl (by decide) rfl ?_
  have loop : ∀ k, k ≤ 16 * g → AW X 0 0 14 [some (.ref 44), some (.int (nI (cntT (fun x => decide (0 < I2 91 x)) k))), some (.int (bI (cP I2 J2 n g))), some (.int (nI k))] [] T I2 J2 R := by
    refine a_down (16 * g) (fun k hkl ih => ?_)
    refine aw_iload_n hC dX12_differing_14 rfl ?_
    refine aw_bipush (v := 16) hC dX12_differing_15 (by decide) ?_
    refine aw_aload_n hC dX12_differing_17 rfl ?_
    refine aw_getI hC dX12_differing_18 aF_X12_312 rfl (tg_44 hT) ?_
    rw [hg2.gn]
    refine aw_imul hC dX12_differing_21 ?_
    rw [show 16 * (nI g) = nI (16 * g) from pk_mul 16 g]
    refine aw_icmp_ge (tgt := 48) hC dX12_differing_22 (by decide) (fun h1 => ?_) (fun h1 => ?_)
    · show AW X 0 0 48 [some (.ref 44), some (.int (nI (cntT (fun x => decide (0 < I2 91 x)) k))), some (.int (bI (cP I2 J2 n g))), some (.int (nI k))] [] T I2 J2 R
      have h1n : (16 * g) ≤ k := (nI_leI (a := (16 * g)) (b := k) (by omega) (by omega)).mp h1
      refine aw_iload_n hC dX12_differing_48 rfl ?_
      refine aw_if_eq (tgt := 56) hC dX12_differing_49 (by decide) (fun h2 => ?_) (fun h2 => ?_)
      · show AW X 0 0 56 [some (.ref 44), some (.int (nI (cntT (fun x => decide (0 < I2 91 x)) k))), some (.int (bI (cP I2 J2 n g))), some (.int (nI k))] [] T I2 J2 R
        refine aw_iconst (v := (-1)) hC dX12_differing_56 (by decide) ?_
        exact aw_ireturn hC hq rfl dX12_differing_57 a_le a_le ⟨by (try rw [show k = 16 * g from by omega]); clear hC hq; (try simp only [bI_e0, bI_n0, decide_eq_false_iff_not, decide_eq_true_eq, Classical.not_not] at *); grind, rfl, rfl, hPl⟩
      · show AW X 0 0 52 [some (.ref 44), some (.int (nI (cntT (fun x => decide (0 < I2 91 x)) k))), some (.int (bI (cP I2 J2 n g))), some (.int (nI k))] [] T I2 J2 R
        refine aw_iload_n hC dX12_differing_52 rfl ?_
        refine aw_goto (tgt := 57) hC dX12_differing_53 (by decide) ?_
        exact aw_ireturn hC hq rfl dX12_differing_57 a_le a_le ⟨by (try rw [show k = 16 * g from by omega]); clear hC hq; (try simp only [bI_e0, bI_n0, decide_eq_false_iff_not, decide_eq_true_eq, Classical.not_not] at *); grind, rfl, rfl, hPl⟩
    · show AW X 0 0 25 [some (.ref 44), some (.int (nI (cntT (fun x => decide (0 < I2 91 x)) k))), some (.int (bI (cP I2 J2 n g))), some (.int (nI k))] [] T I2 J2 R
      have h1n : ¬ (16 * g) ≤ k := fun q9 => h1 ((nI_leI (a := (16 * g)) (b := k) (by omega) (by omega)).mpr q9)
      refine aw_iload_n hC dX12_differing_25 rfl ?_
      refine aw_aload_n hC dX12_differing_26 rfl ?_
      refine aw_getR hC dX12_differing_27 aF_X12_157 rfl (tg_44 hT) (pr_44_58 hR) ?_
      refine aw_iload_n hC dX12_differing_30 rfl ?_
      refine aw_iaload_k (j := k) hC dX12_differing_31 (tg_91 hT) (nI_clamp (by omega)) (vp_in_nI (by omega) (by decide)) ?_
      refine aw_if_le (tgt := 39) hC dX12_differing_32 (by decide) (fun h3 => ?_) (fun h3 => ?_)
      · show AW X 0 0 39 [some (.ref 44), some (.int (nI (cntT (fun x => decide (0 < I2 91 x)) k))), some (.int (bI (cP I2 J2 n g))), some (.int (nI k))] [.int (nI (cntT (fun x => decide (0 < I2 91 x)) k))] T I2 J2 R
        refine aw_iconst (v := 0) hC dX12_differing_39 (by decide) ?_
        refine aw_iadd hC dX12_differing_40 ?_
        rw [show (nI (cntT (fun x => decide (0 < I2 91 x)) k)) + 0 = nI ((cntT (fun x => decide (0 < I2 91 x)) k) + 0) from nI_add (cntT (fun x => decide (0 < I2 91 x)) k) 0]
        refine aw_istore_n (L2 := [some (.ref 44), some (.int (nI ((cntT (fun x => decide (0 < I2 91 x)) k) + 0))), some (.int (bI (cP I2 J2 n g))), some (.int (nI k))]) hC dX12_differing_41 rfl (by decide) rfl ?_
        refine aw_iinc (v := nI (k + 1)) (L2 := [some (.ref 44), some (.int (nI ((cntT (fun x => decide (0 < I2 91 x)) k) + 0))), some (.int (bI (cP I2 J2 n g))), some (.int (nI (k + 1)))]) hC dX12_differing_42 rfl (nI_inc _) (by decide) rfl ?_
        refine aw_goto (tgt := 14) hC dX12_differing_45 (by decide) ?_
        rw [show nI ((cntT (fun x => decide (0 < I2 91 x)) k) + 0) = nI (cntT (fun x => decide (0 < I2 91 x)) (k + 1)) from by rw [cntT]; first | rw [if_pos (decide_eq_true (by first | assumption | exact Int32.not_le.mp (by assumption)))] | rw [if_neg (by simp only [decide_eq_true_eq]; exact Int32.not_lt.mpr (by assumption))]]
        exact ih (by omega)
      · show AW X 0 0 35 [some (.ref 44), some (.int (nI (cntT (fun x => decide (0 < I2 91 x)) k))), some (.int (bI (cP I2 J2 n g))), some (.int (nI k))] [.int (nI (cntT (fun x => decide (0 < I2 91 x)) k))] T I2 J2 R
        refine aw_iconst (v := 1) hC dX12_differing_35 (by decide) ?_
        refine aw_goto (tgt := 40) hC dX12_differing_36 (by decide) ?_
        refine aw_iadd hC dX12_differing_40 ?_
        rw [show (nI (cntT (fun x => decide (0 < I2 91 x)) k)) + 1 = nI ((cntT (fun x => decide (0 < I2 91 x)) k) + 1) from nI_add (cntT (fun x => decide (0 < I2 91 x)) k) 1]
        refine aw_istore_n (L2 := [some (.ref 44), some (.int (nI ((cntT (fun x => decide (0 < I2 91 x)) k) + 1))), some (.int (bI (cP I2 J2 n g))), some (.int (nI k))]) hC dX12_differing_41 rfl (by decide) rfl ?_
        refine aw_iinc (v := nI (k + 1)) (L2 := [some (.ref 44), some (.int (nI ((cntT (fun x => decide (0 < I2 91 x)) k) + 1))), some (.int (bI (cP I2 J2 n g))), some (.int (nI (k + 1)))]) hC dX12_differing_42 rfl (nI_inc _) (by decide) rfl ?_
        refine aw_goto (tgt := 14) hC dX12_differing_45 (by decide) ?_
        rw [show nI ((cntT (fun x => decide (0 < I2 91 x)) k) + 1) = nI (cntT (fun x => decide (0 < I2 91 x)) (k + 1)) from by rw [cntT]; first | rw [if_pos (decide_eq_true (by first | assumption | exact Int32.not_le.mp (by assumption)))] | rw [if_neg (by simp only [decide_eq_true_eq]; exact Int32.not_lt.mpr (by assumption))]]
        exact ih (by omega)
  exact loop 0 (Nat.zero_le _)
set_option maxRecDepth 100000 in
theorem m_X12_hasAll {T : List aT} {I : aI} {J : aJ} {R : aR} (hT : aPT T) (hR : aPR R) {n g : Nat} (hS : SW I n) (hZ : Zr J) (hg : GW I g) {p : Nat} (hp : p < 40) (hm : NR I 79 40 129) : MX12_hasAll 0 0 [.ref 44, .int (nI p)] T I J R (aRel (fun I2 J2 => some (.int (bI (hA I2 J2 n g p)))) (fun I2 J2 => PlR I I2 J J2 n g) T R) := by
  refine a_met (by decide +kernel) a_le (fun X hC hq => ?_)
  show AW X 0 0 0 [some (.ref 44), some (.int (nI p)), none, none, none, none] [] T I J R
  refine aw_aload_n hC dX12_hasAll_0 rfl ?_
  refine kX12_377 hC rfl (m_X12_plansNow (I := I) (J := J) (n := n) (g := g) hT hR hS hZ hg) dX12_hasAll_1 (tg_44 hT) rfl a_le a_le a_le a_le a_le rfl aRel_x (aRel_k (fun I2 J2 hQ => ?_))
  have hPl : PlR (I) I2 J J2 n g := hQ
  have hg2 := hPl.gw hg
  have hf2 : ∀ o, o ≠ 44 ∧ o ≠ 83 ∧ o ≠ 84 ∧ o ≠ 85 ∧ o ≠ 86 ∧ o ≠ 91 ∧ o ≠ 92 → I2 o = I o := fun o ho => (hPl.fr o ho)
  have hli := hPl.list
  have hle := allA_le I2 (16 * g)
  have hg4 := hg.g4
  obtain ⟨A, hA9⟩ : ∃ A, A = allA I2 (16 * g) := ⟨_, rfl⟩
  rw [← hA9] at hli hle
  show AW X 0 0 4 [some (.ref 44), some (.int (nI p)), none, none, none, none] [.int (bI (cP I2 J2 n g))] T I2 J2 R
  refine aw_istore_n (L2 := [some (.ref 44), some (.int (nI p)), some (.int (bI (cP I2 J2 n g))), none, none, none]) hC dX12_hasAll_4 rfl (by decide) rfl ?_
  refine aw_iconst (v := 0) hC dX12_hasAll_5 (by decide) ?_
  refine aw_istore_n (L2 := [some (.ref 44), some (.int (nI p)), some (.int (bI (cP I2 J2 n g))), some (.int 0), none, none]) hC dX12_hasAll_6 rfl (by decide) rfl ?_
  have hm2 : NR I2 79 40 129 := NR_cg (hf2 79 (by decide)) hm
  have hm3 : iN I2 79 p = iN I 79 p := by unfold iN; rw [hf2 79 (by decide)]
  have hm4 := (hm p hp).2
  have loop : ∀ k, k ≤ iN I 79 p → ∀ c : Bool, c = (cP I2 J2 n g && allB (hA1 I2 p A.length) k) → AW X 0 0 7 [some (.ref 44), some (.int (nI p)), some (.int (bI c)), some (.int (nI k)), none, none] [] T I2 J2 R := by
    refine a_down (iN I 79 p) (fun k hkl ih => ?_)
    intro c hc
    refine aw_iload_n hC dX12_hasAll_7 rfl ?_
    refine aw_aload_n hC dX12_hasAll_8 rfl ?_
    refine aw_getR hC dX12_hasAll_9 aF_X12_113 rfl (tg_44 hT) (pr_44_41 hR) ?_
    refine aw_iload_n hC dX12_hasAll_12 rfl ?_
    refine aw_iaload_k (j := p) hC dX12_hasAll_13 (tg_79 hT) (nI_clamp (by omega)) (vp_in_nI (by omega) (by decide)) ?_
    rw [hf2 79 (by decide)]
    rw [(hm p (by omega)).1]
    refine aw_icmp_ge (tgt := 81) hC dX12_hasAll_14 (by decide) (fun h1 => ?_) (fun h1 => ?_)
    · show AW X 0 0 81 [some (.ref 44), some (.int (nI p)), some (.int (bI c)), some (.int (nI k)), none, none] [] T I2 J2 R
      have h1n : (iN I 79 p) ≤ k := (nI_leI (a := (iN I 79 p)) (b := k) (by omega) (by omega)).mp h1
      refine aw_iload_n hC dX12_hasAll_81 rfl ?_
      exact aw_zreturn hC hq rfl (bI_01 _) dX12_hasAll_82 a_le a_le ⟨by rw [hc, hA9, show k = iN I2 79 p from by omega]; rfl, rfl, rfl, hPl⟩
    · show AW X 0 0 17 [some (.ref 44), some (.int (nI p)), some (.int (bI c)), some (.int (nI k)), none, none] [] T I2 J2 R
      have h1n : ¬ (iN I 79 p) ≤ k := fun q9 => h1 ((nI_leI (a := (iN I 79 p)) (b := k) (by omega) (by omega)).mpr q9)
      refine aw_iconst (v := 0) hC dX12_hasAll_17 (by decide) ?_
      refine aw_istore (L2 := [some (.ref 44), some (.int (nI p)), some (.int (bI c)), some (.int (nI k)), some (.int 0), none]) hC dX12_hasAll_18 (by decide) rfl ?_
      refine aw_iconst (v := 0) hC dX12_hasAll_20 (by decide) ?_
      refine aw_istore (L2 := [some (.ref 44), some (.int (nI p)), some (.int (bI c)), some (.int (nI k)), some (.int 0), some (.int 0)]) hC dX12_hasAll_21 (by decide) rfl ?_
      have loop2 : ∀ m, m ≤ A.length → ∀ d : Bool, d = anyB (fun m => decide (I2 92 m = I2 80 (128 * p + k))) m → AW X 0 0 23 [some (.ref 44), some (.int (nI p)), some (.int (bI c)), some (.int (nI k)), some (.int (bI d)), some (.int (nI m))] [] T I2 J2 R := by
        refine a_down A.length (fun m hml ih2 => ?_)
        intro d hd
        refine aw_iload hC dX12_hasAll_23 rfl ?_
        refine aw_aload_n hC dX12_hasAll_25 rfl ?_
        refine aw_getI hC dX12_hasAll_26 aF_X12_361 rfl (tg_44 hT) ?_
        rw [hli.1]
        refine aw_icmp_ge (tgt := 70) hC dX12_hasAll_29 (by decide) (fun h2 => ?_) (fun h2 => ?_)
        · show AW X 0 0 70 [some (.ref 44), some (.int (nI p)), some (.int (bI c)), some (.int (nI k)), some (.int (bI d)), some (.int (nI m))] [] T I2 J2 R
          have h2n : A.length ≤ m := (nI_leI (a := A.length) (b := m) (by omega) (by omega)).mp h2
          refine aw_iload_n hC dX12_hasAll_70 rfl ?_
          refine aw_iload hC dX12_hasAll_71 rfl ?_
          refine aw_iand hC dX12_hasAll_73 ?_
          rw [bI_and _ _]
          refine aw_istore_n (L2 := [some (.ref 44), some (.int (nI p)), some (.int (bI (c && d))), some (.int (nI k)), some (.int (bI d)), some (.int (nI m))]) hC dX12_hasAll_74 rfl (by decide) rfl ?_
          refine aw_iinc (v := nI (k + 1)) (L2 := [some (.ref 44), some (.int (nI p)), some (.int (bI (c && d))), some (.int (nI (k + 1))), some (.int (bI d)), some (.int (nI m))]) hC dX12_hasAll_75 rfl (nI_inc _) (by decide) rfl ?_
          refine aw_goto (tgt := 7) hC dX12_hasAll_78 (by decide) ?_
          refine aw_forget 4 (L2 := [some (.ref 44), some (.int (nI p)), some (.int (bI (c && d))), some (.int (nI (k + 1))), none, some (.int (nI m))]) rfl ?_
          refine aw_forget 5 (L2 := [some (.ref 44), some (.int (nI p)), some (.int (bI (c && d))), some (.int (nI (k + 1))), none, none]) rfl ?_
          exact ih (by omega) _ (by rw [hd, show m = A.length from by omega]; exact and_st hc)
        · show AW X 0 0 32 [some (.ref 44), some (.int (nI p)), some (.int (bI c)), some (.int (nI k)), some (.int (bI d)), some (.int (nI m))] [] T I2 J2 R
          have h2n : ¬ A.length ≤ m := fun q9 => h2 ((nI_leI (a := A.length) (b := m) (by omega) (by omega)).mpr q9)
          refine aw_iload hC dX12_hasAll_32 rfl ?_
          refine aw_aload_n hC dX12_hasAll_34 rfl ?_
          refine aw_getR hC dX12_hasAll_35 aF_X12_160 rfl (tg_44 hT) (pr_44_60 hR) ?_
          refine aw_iload hC dX12_hasAll_38 rfl ?_
          refine aw_iaload_k (j := m) hC dX12_hasAll_40 (tg_92 hT) (nI_clamp (by omega)) (vp_in_nI (by omega) (by decide)) ?_
          refine aw_aload_n hC dX12_hasAll_41 rfl ?_
          refine aw_getR hC dX12_hasAll_42 aF_X12_116 rfl (tg_44 hT) (pr_44_42 hR) ?_
          refine aw_sipush (v := 128) hC dX12_hasAll_45 (by decide) ?_
          refine aw_iload_n hC dX12_hasAll_48 rfl ?_
          refine aw_imul hC dX12_hasAll_49 ?_
          rw [show 128 * (nI p) = nI (128 * p) from pk_mul 128 p]
          refine aw_iload_n hC dX12_hasAll_50 rfl ?_
          refine aw_iadd hC dX12_hasAll_51 ?_
          rw [show (nI (128 * p)) + (nI k) = nI ((128 * p) + k) from nI_add (128 * p) k]
          refine aw_iaload_k (j := ((128 * p) + k)) hC dX12_hasAll_52 (tg_80 hT) (nI_clamp (by omega)) (vp_in_nI (by omega) (by decide)) ?_
          rw [hf2 80 (by decide)]
          refine aw_icmp_ne (tgt := 60) hC dX12_hasAll_53 (by decide) (fun h3 => ?_) (fun h3 => ?_)
          · show AW X 0 0 60 [some (.ref 44), some (.int (nI p)), some (.int (bI c)), some (.int (nI k)), some (.int (bI d)), some (.int (nI m))] [.int (bI d)] T I2 J2 R
            refine aw_iconst (v := 0) hC dX12_hasAll_60 (by decide) ?_
            refine aw_ior hC dX12_hasAll_61 ?_
            rw [bI_or0 _]
            refine aw_istore (L2 := [some (.ref 44), some (.int (nI p)), some (.int (bI c)), some (.int (nI k)), some (.int (bI d)), some (.int (nI m))]) hC dX12_hasAll_62 (by decide) rfl ?_
            refine aw_iinc (v := nI (m + 1)) (L2 := [some (.ref 44), some (.int (nI p)), some (.int (bI c)), some (.int (nI k)), some (.int (bI d)), some (.int (nI (m + 1)))]) hC dX12_hasAll_64 rfl (nI_inc _) (by decide) rfl ?_
            refine aw_goto (tgt := 23) hC dX12_hasAll_67 (by decide) ?_
            exact ih2 (by omega) d (by rw [anyB, ← hd]; simp_all)
          · show AW X 0 0 56 [some (.ref 44), some (.int (nI p)), some (.int (bI c)), some (.int (nI k)), some (.int (bI d)), some (.int (nI m))] [.int (bI d)] T I2 J2 R
            refine aw_iconst (v := 1) hC dX12_hasAll_56 (by decide) ?_
            refine aw_goto (tgt := 61) hC dX12_hasAll_57 (by decide) ?_
            refine aw_ior hC dX12_hasAll_61 ?_
            rw [bI_or1 _]
            refine aw_istore (L2 := [some (.ref 44), some (.int (nI p)), some (.int (bI c)), some (.int (nI k)), some (.int (bI true)), some (.int (nI m))]) hC dX12_hasAll_62 (by decide) rfl ?_
            refine aw_iinc (v := nI (m + 1)) (L2 := [some (.ref 44), some (.int (nI p)), some (.int (bI c)), some (.int (nI k)), some (.int (bI true)), some (.int (nI (m + 1)))]) hC dX12_hasAll_64 rfl (nI_inc _) (by decide) rfl ?_
            refine aw_goto (tgt := 23) hC dX12_hasAll_67 (by decide) ?_
            exact ih2 (by omega) true (by rw [anyB, ← hd]; simp_all)
      exact loop2 0 (Nat.zero_le _) false rfl
  exact loop 0 (Nat.zero_le _) _ (by rw [allB, Bool.and_true])
