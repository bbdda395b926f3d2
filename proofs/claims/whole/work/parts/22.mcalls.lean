theorem a_u_2 {α : Type} {f : Nat → Nat → α} {o k : Nat} {v w : α} : a_u (a_u f o k v) o k w = a_u f o k w := by
  funext a b; simp only [a_u]; split <;> rfl
theorem vp_lin {c : Nat} {x y : Int32} {n X Y : Nat} (hx0 : 0 ≤ x.toInt) (hx : x.toInt ≤ X) (hy0 : 0 ≤ y.toInt) (hy : y.toInt ≤ Y) (hn : c * X + Y < n) (hb : n ≤ 2147483648) (hc : c < 2147483648) : vp_in (nI c * x + y) n ∧ (nI c * x + y).toInt = c * x.toInt + y.toInt := by
  have h1 : (nI c).toInt = c := by rw [nI_toInt (by omega)]
  have h3 : (c : Int) * x.toInt ≤ (c : Int) * X := Int.mul_le_mul_of_nonneg_left hx (by omega)
  have h4 : 0 ≤ (c : Int) * x.toInt := Int.mul_nonneg (by omega) hx0
  have hn' : (c : Int) * X + Y < n := by exact_mod_cast hn
  have h2 : (nI c * x + y).toInt = c * x.toInt + y.toInt := by
    rw [Int32.toInt_add, Int32.toInt_mul, h1, Int.bmod_add_bmod, Int.bmod_eq_of_le (by omega) (by omega)]
  exact ⟨vp_in_iff.mpr (by rw [h2]; omega), h2⟩
theorem vp_mulz {c : Nat} {x : Int32} {n X : Nat} (hx0 : 0 ≤ x.toInt) (hx : x.toInt ≤ X) (hn : c * X < n) (hb : n ≤ 2147483648) (hc : c < 2147483648) : vp_in (nI c * x) n := by
  have h := (vp_lin (c := c) (x := x) (y := 0) (n := n) (X := X) (Y := 0) hx0 hx (by decide) (by decide) (by omega) hb hc).1
  rwa [Int32.add_zero] at h
theorem nI_toI (k : Nat) : (nI k).toInt = (k : Int).bmod (2 ^ 32) := by simp [nI, Int32.toInt_ofNat']
theorem below1 {x : Int32} {n : Nat} (hn : n ≤ 100000) : x ≤ nI n - 1 ↔ x < nI n := by
  have h1 : (nI n - 1).toInt = (n : Int) - 1 := by
    rw [Int32.toInt_sub, nI_toInt (by omega), show (1 : Int32).toInt = 1 from rfl, Int.bmod_eq_of_le (by omega) (by omega)]
  rw [i_le, i_lt, h1, nI_toInt (by omega)]; omega
theorem nI_p1 (p : Nat) : nI (p + 1) - 1 = nI p := by rw [Int32.sub_eq_add_neg]; exact pk_m1 p
theorem nlin (c p k : Nat) : nI c * nI p + nI k = nI (c * p + k) := by rw [pk_mul, nI_add]
theorem nmul (c p : Nat) : nI c * nI p = nI (c * p) := by rw [pk_mul]
set_option maxRecDepth 100000 in
theorem m_X12_setLayer {T : List aT} {I : aI} {J : aJ} {R : aR} (hT : aPT T) (hR : aPR R) (f l : Int32) : MX12_setLayer 0 0 [.ref 44, .int f, .int l] T I J R (aPure (some (.int (if (0 ≤ f ∧ f ≤ 5) ∧ (0 ≤ l ∧ l ≤ 3) then I 54 f.toNatClampNeg else 0))) T (if (0 ≤ f ∧ f ≤ 5) ∧ (0 ≤ l ∧ l ≤ 3) then a_u (a_u I 44 61 0) 54 f.toNatClampNeg l else a_u I 44 61 1) J R) := by
  refine a_met (by decide +kernel) a_le (fun X hC hq => ?_)
  show AW X 0 0 0 [some (.ref 44), some (.int f), some (.int l), none] [] T I J R
  refine aw_aload_n hC dX12_setLayer_0 rfl ?_
  refine aw_iload_n hC dX12_setLayer_1 rfl ?_
  refine aw_iconst (v := 0) hC dX12_setLayer_2 (by decide) ?_
  refine aw_iconst (v := 5) hC dX12_setLayer_3 (by decide) ?_
  refine kX12_169 hC rfl (m_X12_isIn f (0 : Int32) (5 : Int32)) dX12_setLayer_4 rfl a_le a_le a_le a_le a_le rfl aPure_x (aPure_k ?_)
  show AW X 0 0 7 [some (.ref 44), some (.int f), some (.int l), none] [.int (bI (decide ((0 : Int32) ≤ f ∧ f ≤ (5 : Int32)))), .ref 44] T I J R
  refine aw_if_eq (tgt := 23) hC dX12_setLayer_7 (by decide) (fun h1 => ?_) (fun h1 => ?_)
  · show AW X 0 0 23 [some (.ref 44), some (.int f), some (.int l), none] [.ref 44] T I J R
    refine aw_iconst (v := 1) hC dX12_setLayer_23 (by decide) ?_
    refine aw_putI hC dX12_setLayer_24 aF_X12_166 rfl rfl (tg_44 hT) ?_
    refine aw_aload_n hC dX12_setLayer_27 rfl ?_
    refine aw_getI hC dX12_setLayer_28 aF_X12_166 rfl (tg_44 hT) ?_
    rw [a_u_self (f := I) (o := 44) (k := 61) (v := 1)]
    refine aw_if_le (tgt := 36) hC dX12_setLayer_31 (by decide) (fun h2 => absurd h2 (by decide)) (fun _ => ?_)
    show AW X 0 0 34 [some (.ref 44), some (.int f), some (.int l), none] [] T (a_u I 44 61 1) J R
    refine aw_iconst (v := 0) hC dX12_setLayer_34 (by decide) ?_
    exact aw_ireturn hC hq rfl dX12_setLayer_35 a_le a_le (aPure_e (by clear hC hq; (try simp only [bI_e0, bI_n0, decide_eq_false_iff_not, decide_eq_true_eq, Classical.not_not] at *) <;> first | grind [nI_p1, a_u_2] | (exfalso; (simp only [i_le, i_lt, i_eq, Int32.reduceToInt] at *); omega)) (by clear hC hq; (try simp only [bI_e0, bI_n0, decide_eq_false_iff_not, decide_eq_true_eq, Classical.not_not] at *) <;> first | grind [nI_p1, a_u_2] | (exfalso; (simp only [i_le, i_lt, i_eq, Int32.reduceToInt] at *); omega)) rfl rfl)
  · show AW X 0 0 10 [some (.ref 44), some (.int f), some (.int l), none] [.ref 44] T I J R
    refine aw_iload_n hC dX12_setLayer_10 rfl ?_
    refine aw_iconst (v := 0) hC dX12_setLayer_11 (by decide) ?_
    refine aw_iconst (v := 3) hC dX12_setLayer_12 (by decide) ?_
    refine kX12_169 hC rfl (m_X12_isIn l (0 : Int32) (3 : Int32)) dX12_setLayer_13 rfl a_le a_le a_le a_le a_le rfl aPure_x (aPure_k ?_)
    show AW X 0 0 16 [some (.ref 44), some (.int f), some (.int l), none] [.int (bI (decide ((0 : Int32) ≤ l ∧ l ≤ (3 : Int32)))), .ref 44] T I J R
    refine aw_if_eq (tgt := 23) hC dX12_setLayer_16 (by decide) (fun h3 => ?_) (fun h3 => ?_)
    · show AW X 0 0 23 [some (.ref 44), some (.int f), some (.int l), none] [.ref 44] T I J R
      refine aw_iconst (v := 1) hC dX12_setLayer_23 (by decide) ?_
      refine aw_putI hC dX12_setLayer_24 aF_X12_166 rfl rfl (tg_44 hT) ?_
      refine aw_aload_n hC dX12_setLayer_27 rfl ?_
      refine aw_getI hC dX12_setLayer_28 aF_X12_166 rfl (tg_44 hT) ?_
      rw [a_u_self (f := I) (o := 44) (k := 61) (v := 1)]
      refine aw_if_le (tgt := 36) hC dX12_setLayer_31 (by decide) (fun h4 => absurd h4 (by decide)) (fun _ => ?_)
      show AW X 0 0 34 [some (.ref 44), some (.int f), some (.int l), none] [] T (a_u I 44 61 1) J R
      refine aw_iconst (v := 0) hC dX12_setLayer_34 (by decide) ?_
      exact aw_ireturn hC hq rfl dX12_setLayer_35 a_le a_le (aPure_e (by clear hC hq; (try simp only [bI_e0, bI_n0, decide_eq_false_iff_not, decide_eq_true_eq, Classical.not_not] at *) <;> first | grind [nI_p1, a_u_2] | (exfalso; (simp only [i_le, i_lt, i_eq, Int32.reduceToInt] at *); omega)) (by clear hC hq; (try simp only [bI_e0, bI_n0, decide_eq_false_iff_not, decide_eq_true_eq, Classical.not_not] at *) <;> first | grind [nI_p1, a_u_2] | (exfalso; (simp only [i_le, i_lt, i_eq, Int32.reduceToInt] at *); omega)) rfl rfl)
    · show AW X 0 0 19 [some (.ref 44), some (.int f), some (.int l), none] [.ref 44] T I J R
      refine aw_iconst (v := 0) hC dX12_setLayer_19 (by decide) ?_
      refine aw_goto (tgt := 24) hC dX12_setLayer_20 (by decide) ?_
      refine aw_putI hC dX12_setLayer_24 aF_X12_166 rfl rfl (tg_44 hT) ?_
      refine aw_aload_n hC dX12_setLayer_27 rfl ?_
      refine aw_getI hC dX12_setLayer_28 aF_X12_166 rfl (tg_44 hT) ?_
      rw [a_u_self (f := I) (o := 44) (k := 61) (v := 0)]
      refine aw_if_le (tgt := 36) hC dX12_setLayer_31 (by decide) (fun _ => ?_) (fun h5 => absurd h5 (by decide))
      show AW X 0 0 36 [some (.ref 44), some (.int f), some (.int l), none] [] T (a_u I 44 61 0) J R
      refine aw_aload_n hC dX12_setLayer_36 rfl ?_
      refine aw_getR hC dX12_setLayer_37 aF_X12_38 rfl (tg_44 hT) (pr_44_10 hR) ?_
      refine aw_iload_n hC dX12_setLayer_40 rfl ?_
      refine aw_iaload_k (j := f.toNatClampNeg) hC dX12_setLayer_41 (tg_54 hT) rfl (vp_in_iff.mpr (by clear hC hq; (try simp only [bI_e0, bI_n0, decide_eq_false_iff_not, decide_eq_true_eq, Classical.not_not] at *); (simp only [i_le, i_lt, i_eq, Int32.reduceToInt] at *); omega)) ?_
      rw [a_u_ne (f := I) (o := 44) (k := 61) (a := 54) (b := f.toNatClampNeg) (v := 0) (fun q => absurd q.1 (by decide))]
      refine aw_istore_n (L2 := [some (.ref 44), some (.int f), some (.int l), some (.int (I 54 f.toNatClampNeg))]) hC dX12_setLayer_42 rfl (by decide) rfl ?_
      refine aw_aload_n hC dX12_setLayer_43 rfl ?_
      refine aw_getR hC dX12_setLayer_44 aF_X12_38 rfl (tg_44 hT) (pr_44_10 hR) ?_
      refine aw_iload_n hC dX12_setLayer_47 rfl ?_
      refine aw_iload_n hC dX12_setLayer_48 rfl ?_
      refine aw_iastore_k (j := f.toNatClampNeg) hC dX12_setLayer_49 (tg_54 hT) rfl (vp_in_iff.mpr (by clear hC hq; (try simp only [bI_e0, bI_n0, decide_eq_false_iff_not, decide_eq_true_eq, Classical.not_not] at *); (simp only [i_le, i_lt, i_eq, Int32.reduceToInt] at *); omega)) ?_
      refine aw_iload_n hC dX12_setLayer_50 rfl ?_
      exact aw_ireturn hC hq rfl dX12_setLayer_51 a_le a_le (aPure_e (by clear hC hq; (try simp only [bI_e0, bI_n0, decide_eq_false_iff_not, decide_eq_true_eq, Classical.not_not] at *) <;> first | grind [nI_p1, a_u_2] | (exfalso; (simp only [i_le, i_lt, i_eq, Int32.reduceToInt] at *); omega)) (by clear hC hq; (try simp only [bI_e0, bI_n0, decide_eq_false_iff_not, decide_eq_true_eq, Classical.not_not] at *) <;> first | grind [nI_p1, a_u_2] | (exfalso; (simp only [i_le, i_lt, i_eq, Int32.reduceToInt] at *); omega)) rfl rfl)
set_option maxRecDepth 100000 in
theorem m_X12_lock {T : List aT} {I : aI} {J : aJ} {R : aR} (hT : aPT T) (hR : aPR R) (f l : Int32) : MX12_lock 0 0 [.ref 44, .int f, .int l] T I J R (aPure (some (.int (if (0 ≤ f ∧ f ≤ 9) ∧ (-1 ≤ l ∧ l ≤ 3) then I 55 f.toNatClampNeg - 1 else 0))) T (if (0 ≤ f ∧ f ≤ 9) ∧ (-1 ≤ l ∧ l ≤ 3) then a_u (a_u I 44 61 0) 55 f.toNatClampNeg (l + 1) else a_u I 44 61 1) J R) := by
  refine a_met (by decide +kernel) a_le (fun X hC hq => ?_)
  show AW X 0 0 0 [some (.ref 44), some (.int f), some (.int l), none] [] T I J R
  refine aw_aload_n hC dX12_lock_0 rfl ?_
  refine aw_iload_n hC dX12_lock_1 rfl ?_
  refine kX12_173 hC rfl (m_X12_isField f) dX12_lock_2 rfl a_le a_le a_le a_le a_le rfl aPure_x (aPure_k ?_)
  show AW X 0 0 5 [some (.ref 44), some (.int f), some (.int l), none] [.int (bI (decide (0 ≤ f ∧ f ≤ 9))), .ref 44] T I J R
  refine aw_if_eq (tgt := 21) hC dX12_lock_5 (by decide) (fun h1 => ?_) (fun h1 => ?_)
  · show AW X 0 0 21 [some (.ref 44), some (.int f), some (.int l), none] [.ref 44] T I J R
    refine aw_iconst (v := 1) hC dX12_lock_21 (by decide) ?_
    refine aw_putI hC dX12_lock_22 aF_X12_166 rfl rfl (tg_44 hT) ?_
    refine aw_aload_n hC dX12_lock_25 rfl ?_
    refine aw_getI hC dX12_lock_26 aF_X12_166 rfl (tg_44 hT) ?_
    rw [a_u_self (f := I) (o := 44) (k := 61) (v := 1)]
    refine aw_if_le (tgt := 34) hC dX12_lock_29 (by decide) (fun h2 => absurd h2 (by decide)) (fun _ => ?_)
    show AW X 0 0 32 [some (.ref 44), some (.int f), some (.int l), none] [] T (a_u I 44 61 1) J R
    refine aw_iconst (v := 0) hC dX12_lock_32 (by decide) ?_
    exact aw_ireturn hC hq rfl dX12_lock_33 a_le a_le (aPure_e (by clear hC hq; (try simp only [bI_e0, bI_n0, decide_eq_false_iff_not, decide_eq_true_eq, Classical.not_not] at *) <;> first | grind [nI_p1, a_u_2] | (exfalso; (simp only [i_le, i_lt, i_eq, Int32.reduceToInt] at *); omega)) (by clear hC hq; (try simp only [bI_e0, bI_n0, decide_eq_false_iff_not, decide_eq_true_eq, Classical.not_not] at *) <;> first | grind [nI_p1, a_u_2] | (exfalso; (simp only [i_le, i_lt, i_eq, Int32.reduceToInt] at *); omega)) rfl rfl)
  · show AW X 0 0 8 [some (.ref 44), some (.int f), some (.int l), none] [.ref 44] T I J R
    refine aw_iload_n hC dX12_lock_8 rfl ?_
    refine aw_iconst (v := (-1)) hC dX12_lock_9 (by decide) ?_
    refine aw_iconst (v := 3) hC dX12_lock_10 (by decide) ?_
    refine kX12_169 hC rfl (m_X12_isIn l ((-1) : Int32) (3 : Int32)) dX12_lock_11 rfl a_le a_le a_le a_le a_le rfl aPure_x (aPure_k ?_)
    show AW X 0 0 14 [some (.ref 44), some (.int f), some (.int l), none] [.int (bI (decide (((-1) : Int32) ≤ l ∧ l ≤ (3 : Int32)))), .ref 44] T I J R
    refine aw_if_eq (tgt := 21) hC dX12_lock_14 (by decide) (fun h3 => ?_) (fun h3 => ?_)
    · show AW X 0 0 21 [some (.ref 44), some (.int f), some (.int l), none] [.ref 44] T I J R
      refine aw_iconst (v := 1) hC dX12_lock_21 (by decide) ?_
      refine aw_putI hC dX12_lock_22 aF_X12_166 rfl rfl (tg_44 hT) ?_
      refine aw_aload_n hC dX12_lock_25 rfl ?_
      refine aw_getI hC dX12_lock_26 aF_X12_166 rfl (tg_44 hT) ?_
      rw [a_u_self (f := I) (o := 44) (k := 61) (v := 1)]
      refine aw_if_le (tgt := 34) hC dX12_lock_29 (by decide) (fun h4 => absurd h4 (by decide)) (fun _ => ?_)
      show AW X 0 0 32 [some (.ref 44), some (.int f), some (.int l), none] [] T (a_u I 44 61 1) J R
      refine aw_iconst (v := 0) hC dX12_lock_32 (by decide) ?_
      exact aw_ireturn hC hq rfl dX12_lock_33 a_le a_le (aPure_e (by clear hC hq; (try simp only [bI_e0, bI_n0, decide_eq_false_iff_not, decide_eq_true_eq, Classical.not_not] at *) <;> first | grind [nI_p1, a_u_2] | (exfalso; (simp only [i_le, i_lt, i_eq, Int32.reduceToInt] at *); omega)) (by clear hC hq; (try simp only [bI_e0, bI_n0, decide_eq_false_iff_not, decide_eq_true_eq, Classical.not_not] at *) <;> first | grind [nI_p1, a_u_2] | (exfalso; (simp only [i_le, i_lt, i_eq, Int32.reduceToInt] at *); omega)) rfl rfl)
    · show AW X 0 0 17 [some (.ref 44), some (.int f), some (.int l), none] [.ref 44] T I J R
      refine aw_iconst (v := 0) hC dX12_lock_17 (by decide) ?_
      refine aw_goto (tgt := 22) hC dX12_lock_18 (by decide) ?_
      refine aw_putI hC dX12_lock_22 aF_X12_166 rfl rfl (tg_44 hT) ?_
      refine aw_aload_n hC dX12_lock_25 rfl ?_
      refine aw_getI hC dX12_lock_26 aF_X12_166 rfl (tg_44 hT) ?_
      rw [a_u_self (f := I) (o := 44) (k := 61) (v := 0)]
      refine aw_if_le (tgt := 34) hC dX12_lock_29 (by decide) (fun _ => ?_) (fun h5 => absurd h5 (by decide))
      show AW X 0 0 34 [some (.ref 44), some (.int f), some (.int l), none] [] T (a_u I 44 61 0) J R
      refine aw_aload_n hC dX12_lock_34 rfl ?_
      refine aw_getR hC dX12_lock_35 aF_X12_41 rfl (tg_44 hT) (pr_44_11 hR) ?_
      refine aw_iload_n hC dX12_lock_38 rfl ?_
      refine aw_iaload_k (j := f.toNatClampNeg) hC dX12_lock_39 (tg_55 hT) rfl (vp_in_iff.mpr (by clear hC hq; (try simp only [bI_e0, bI_n0, decide_eq_false_iff_not, decide_eq_true_eq, Classical.not_not] at *); (simp only [i_le, i_lt, i_eq, Int32.reduceToInt] at *); omega)) ?_
      rw [a_u_ne (f := I) (o := 44) (k := 61) (a := 55) (b := f.toNatClampNeg) (v := 0) (fun q => absurd q.1 (by decide))]
      refine aw_iconst (v := 1) hC dX12_lock_40 (by decide) ?_
      refine aw_isub hC dX12_lock_41 ?_
      refine aw_istore_n (L2 := [some (.ref 44), some (.int f), some (.int l), some (.int ((I 55 f.toNatClampNeg) - 1))]) hC dX12_lock_42 rfl (by decide) rfl ?_
      refine aw_aload_n hC dX12_lock_43 rfl ?_
      refine aw_getR hC dX12_lock_44 aF_X12_41 rfl (tg_44 hT) (pr_44_11 hR) ?_
      refine aw_iload_n hC dX12_lock_47 rfl ?_
      refine aw_iload_n hC dX12_lock_48 rfl ?_
      refine aw_iconst (v := 1) hC dX12_lock_49 (by decide) ?_
      refine aw_iadd hC dX12_lock_50 ?_
      refine aw_iastore_k (j := f.toNatClampNeg) hC dX12_lock_51 (tg_55 hT) rfl (vp_in_iff.mpr (by clear hC hq; (try simp only [bI_e0, bI_n0, decide_eq_false_iff_not, decide_eq_true_eq, Classical.not_not] at *); (simp only [i_le, i_lt, i_eq, Int32.reduceToInt] at *); omega)) ?_
      refine aw_iload_n hC dX12_lock_52 rfl ?_
      exact aw_ireturn hC hq rfl dX12_lock_53 a_le a_le (aPure_e (by clear hC hq; (try simp only [bI_e0, bI_n0, decide_eq_false_iff_not, decide_eq_true_eq, Classical.not_not] at *) <;> first | grind [nI_p1, a_u_2] | (exfalso; (simp only [i_le, i_lt, i_eq, Int32.reduceToInt] at *); omega)) (by clear hC hq; (try simp only [bI_e0, bI_n0, decide_eq_false_iff_not, decide_eq_true_eq, Classical.not_not] at *) <;> first | grind [nI_p1, a_u_2] | (exfalso; (simp only [i_le, i_lt, i_eq, Int32.reduceToInt] at *); omega)) rfl rfl)
set_option maxRecDepth 100000 in
theorem m_X12_except {T : List aT} {I : aI} {J : aJ} {R : aR} (hT : aPT T) (hR : aPR R) (f l d : Int32) : MX12_except 0 0 [.ref 44, .int f, .int l, .int d] T I J R (aPure (some (.int (if (0 ≤ f ∧ f ≤ 5) ∧ (0 ≤ l ∧ l ≤ 9) ∧ (1 ≤ d ∧ d ≤ 30) then I 44 13 + d else 0))) T (if (0 ≤ f ∧ f ≤ 5) ∧ (0 ≤ l ∧ l ≤ 9) then (if 1 ≤ d ∧ d ≤ 30 then a_u (a_u I 44 61 0) 56 (10 * f + l).toNatClampNeg (I 44 13 + d) else a_u I 44 61 2) else a_u I 44 61 1) J R) := by
  refine a_met (by decide +kernel) a_le (fun X hC hq => ?_)
  show AW X 0 0 0 [some (.ref 44), some (.int f), some (.int l), some (.int d)] [] T I J R
  refine aw_aload_n hC dX12_except_0 rfl ?_
  refine aw_iload_n hC dX12_except_1 rfl ?_
  refine aw_iconst (v := 0) hC dX12_except_2 (by decide) ?_
  refine aw_iconst (v := 5) hC dX12_except_3 (by decide) ?_
  refine kX12_169 hC rfl (m_X12_isIn f (0 : Int32) (5 : Int32)) dX12_except_4 rfl a_le a_le a_le a_le a_le rfl aPure_x (aPure_k ?_)
  show AW X 0 0 7 [some (.ref 44), some (.int f), some (.int l), some (.int d)] [.int (bI (decide ((0 : Int32) ≤ f ∧ f ≤ (5 : Int32)))), .ref 44] T I J R
  refine aw_if_eq (tgt := 17) hC dX12_except_7 (by decide) (fun h1 => ?_) (fun h1 => ?_)
  · show AW X 0 0 17 [some (.ref 44), some (.int f), some (.int l), some (.int d)] [.ref 44] T I J R
    refine aw_iconst (v := 1) hC dX12_except_17 (by decide) ?_
    refine aw_goto (tgt := 36) hC dX12_except_18 (by decide) ?_
    refine aw_putI hC dX12_except_36 aF_X12_166 rfl rfl (tg_44 hT) ?_
    refine aw_aload_n hC dX12_except_39 rfl ?_
    refine aw_getI hC dX12_except_40 aF_X12_166 rfl (tg_44 hT) ?_
    rw [a_u_self (f := I) (o := 44) (k := 61) (v := 1)]
    refine aw_if_le (tgt := 48) hC dX12_except_43 (by decide) (fun h2 => absurd h2 (by decide)) (fun _ => ?_)
    show AW X 0 0 46 [some (.ref 44), some (.int f), some (.int l), some (.int d)] [] T (a_u I 44 61 1) J R
    refine aw_iconst (v := 0) hC dX12_except_46 (by decide) ?_
    exact aw_ireturn hC hq rfl dX12_except_47 a_le a_le (aPure_e (by clear hC hq; (try simp only [bI_e0, bI_n0, decide_eq_false_iff_not, decide_eq_true_eq, Classical.not_not] at *) <;> first | grind [nI_p1, a_u_2] | (exfalso; (simp only [i_le, i_lt, i_eq, Int32.reduceToInt] at *); omega)) (by clear hC hq; (try simp only [bI_e0, bI_n0, decide_eq_false_iff_not, decide_eq_true_eq, Classical.not_not] at *) <;> first | grind [nI_p1, a_u_2] | (exfalso; (simp only [i_le, i_lt, i_eq, Int32.reduceToInt] at *); omega)) rfl rfl)
  · show AW X 0 0 10 [some (.ref 44), some (.int f), some (.int l), some (.int d)] [.ref 44] T I J R
    refine aw_iload_n hC dX12_except_10 rfl ?_
    refine kX12_173 hC rfl (m_X12_isField l) dX12_except_11 rfl a_le a_le a_le a_le a_le rfl aPure_x (aPure_k ?_)
    show AW X 0 0 14 [some (.ref 44), some (.int f), some (.int l), some (.int d)] [.int (bI (decide (0 ≤ l ∧ l ≤ 9))), .ref 44] T I J R
    refine aw_if_ne (tgt := 21) hC dX12_except_14 (by decide) (fun h3 => ?_) (fun h3 => ?_)
    · show AW X 0 0 21 [some (.ref 44), some (.int f), some (.int l), some (.int d)] [.ref 44] T I J R
      refine aw_iload_n hC dX12_except_21 rfl ?_
      refine aw_iconst (v := 1) hC dX12_except_22 (by decide) ?_
      refine aw_bipush (v := 30) hC dX12_except_23 (by decide) ?_
      refine kX12_169 hC rfl (m_X12_isIn d (1 : Int32) (30 : Int32)) dX12_except_25 rfl a_le a_le a_le a_le a_le rfl aPure_x (aPure_k ?_)
      show AW X 0 0 28 [some (.ref 44), some (.int f), some (.int l), some (.int d)] [.int (bI (decide ((1 : Int32) ≤ d ∧ d ≤ (30 : Int32)))), .ref 44] T I J R
      refine aw_if_eq (tgt := 35) hC dX12_except_28 (by decide) (fun h4 => ?_) (fun h4 => ?_)
      · show AW X 0 0 35 [some (.ref 44), some (.int f), some (.int l), some (.int d)] [.ref 44] T I J R
        refine aw_iconst (v := 2) hC dX12_except_35 (by decide) ?_
        refine aw_putI hC dX12_except_36 aF_X12_166 rfl rfl (tg_44 hT) ?_
        refine aw_aload_n hC dX12_except_39 rfl ?_
        refine aw_getI hC dX12_except_40 aF_X12_166 rfl (tg_44 hT) ?_
        rw [a_u_self (f := I) (o := 44) (k := 61) (v := 2)]
        refine aw_if_le (tgt := 48) hC dX12_except_43 (by decide) (fun h5 => absurd h5 (by decide)) (fun _ => ?_)
        show AW X 0 0 46 [some (.ref 44), some (.int f), some (.int l), some (.int d)] [] T (a_u I 44 61 2) J R
        refine aw_iconst (v := 0) hC dX12_except_46 (by decide) ?_
        exact aw_ireturn hC hq rfl dX12_except_47 a_le a_le (aPure_e (by clear hC hq; (try simp only [bI_e0, bI_n0, decide_eq_false_iff_not, decide_eq_true_eq, Classical.not_not] at *) <;> first | grind [nI_p1, a_u_2] | (exfalso; (simp only [i_le, i_lt, i_eq, Int32.reduceToInt] at *); omega)) (by clear hC hq; (try simp only [bI_e0, bI_n0, decide_eq_false_iff_not, decide_eq_true_eq, Classical.not_not] at *) <;> first | grind [nI_p1, a_u_2] | (exfalso; (simp only [i_le, i_lt, i_eq, Int32.reduceToInt] at *); omega)) rfl rfl)
      · show AW X 0 0 31 [some (.ref 44), some (.int f), some (.int l), some (.int d)] [.ref 44] T I J R
        refine aw_iconst (v := 0) hC dX12_except_31 (by decide) ?_
        refine aw_goto (tgt := 36) hC dX12_except_32 (by decide) ?_
        refine aw_putI hC dX12_except_36 aF_X12_166 rfl rfl (tg_44 hT) ?_
        refine aw_aload_n hC dX12_except_39 rfl ?_
        refine aw_getI hC dX12_except_40 aF_X12_166 rfl (tg_44 hT) ?_
        rw [a_u_self (f := I) (o := 44) (k := 61) (v := 0)]
        refine aw_if_le (tgt := 48) hC dX12_except_43 (by decide) (fun _ => ?_) (fun h6 => absurd h6 (by decide))
        show AW X 0 0 48 [some (.ref 44), some (.int f), some (.int l), some (.int d)] [] T (a_u I 44 61 0) J R
        refine aw_aload_n hC dX12_except_48 rfl ?_
        refine aw_getR hC dX12_except_49 aF_X12_44 rfl (tg_44 hT) (pr_44_12 hR) ?_
        refine aw_bipush (v := 10) hC dX12_except_52 (by decide) ?_
        refine aw_iload_n hC dX12_except_54 rfl ?_
        refine aw_imul hC dX12_except_55 ?_
        refine aw_iload_n hC dX12_except_56 rfl ?_
        refine aw_iadd hC dX12_except_57 ?_
        refine aw_aload_n hC dX12_except_58 rfl ?_
        refine aw_getI hC dX12_except_59 aF_X12_193 rfl (tg_44 hT) ?_
        rw [a_u_ne (f := I) (o := 44) (k := 61) (a := 44) (b := 13) (v := 0) (fun q => absurd q.2 (by decide))]
        refine aw_iload_n hC dX12_except_62 rfl ?_
        refine aw_iadd hC dX12_except_63 ?_
        refine aw_iastore_k (j := ((10 * f) + l).toNatClampNeg) hC dX12_except_64 (tg_56 hT) rfl (vp_lin (c := 10) (X := 5) (Y := 9) (by clear hC hq; (try simp only [bI_e0, bI_n0, decide_eq_false_iff_not, decide_eq_true_eq, Classical.not_not] at *); (simp only [i_le, i_lt, i_eq, Int32.reduceToInt] at *); omega) (by clear hC hq; (try simp only [bI_e0, bI_n0, decide_eq_false_iff_not, decide_eq_true_eq, Classical.not_not] at *); (simp only [i_le, i_lt, i_eq, Int32.reduceToInt] at *); omega) (by clear hC hq; (try simp only [bI_e0, bI_n0, decide_eq_false_iff_not, decide_eq_true_eq, Classical.not_not] at *); (simp only [i_le, i_lt, i_eq, Int32.reduceToInt] at *); omega) (by clear hC hq; (try simp only [bI_e0, bI_n0, decide_eq_false_iff_not, decide_eq_true_eq, Classical.not_not] at *); (simp only [i_le, i_lt, i_eq, Int32.reduceToInt] at *); omega) (by decide) (by decide) (by decide)).1 ?_
        refine aw_aload_n hC dX12_except_65 rfl ?_
        refine aw_getI hC dX12_except_66 aF_X12_193 rfl (tg_44 hT) ?_
        rw [a_u_ne (f := a_u I 44 61 0) (o := 56) (k := ((10 * f) + l).toNatClampNeg) (a := 44) (b := 13) (v := (I 44 13) + d) (fun q => absurd q.1 (by decide))]
        rw [a_u_ne (f := I) (o := 44) (k := 61) (a := 44) (b := 13) (v := 0) (fun q => absurd q.2 (by decide))]
        refine aw_iload_n hC dX12_except_69 rfl ?_
        refine aw_iadd hC dX12_except_70 ?_
        exact aw_ireturn hC hq rfl dX12_except_71 a_le a_le (aPure_e (by clear hC hq; (try simp only [bI_e0, bI_n0, decide_eq_false_iff_not, decide_eq_true_eq, Classical.not_not] at *) <;> first | grind [nI_p1, a_u_2] | (exfalso; (simp only [i_le, i_lt, i_eq, Int32.reduceToInt] at *); omega)) (by clear hC hq; (try simp only [bI_e0, bI_n0, decide_eq_false_iff_not, decide_eq_true_eq, Classical.not_not] at *) <;> first | grind [nI_p1, a_u_2] | (exfalso; (simp only [i_le, i_lt, i_eq, Int32.reduceToInt] at *); omega)) rfl rfl)
    · show AW X 0 0 17 [some (.ref 44), some (.int f), some (.int l), some (.int d)] [.ref 44] T I J R
      refine aw_iconst (v := 1) hC dX12_except_17 (by decide) ?_
      refine aw_goto (tgt := 36) hC dX12_except_18 (by decide) ?_
      refine aw_putI hC dX12_except_36 aF_X12_166 rfl rfl (tg_44 hT) ?_
      refine aw_aload_n hC dX12_except_39 rfl ?_
      refine aw_getI hC dX12_except_40 aF_X12_166 rfl (tg_44 hT) ?_
      rw [a_u_self (f := I) (o := 44) (k := 61) (v := 1)]
      refine aw_if_le (tgt := 48) hC dX12_except_43 (by decide) (fun h7 => absurd h7 (by decide)) (fun _ => ?_)
      show AW X 0 0 46 [some (.ref 44), some (.int f), some (.int l), some (.int d)] [] T (a_u I 44 61 1) J R
      refine aw_iconst (v := 0) hC dX12_except_46 (by decide) ?_
      exact aw_ireturn hC hq rfl dX12_except_47 a_le a_le (aPure_e (by clear hC hq; (try simp only [bI_e0, bI_n0, decide_eq_false_iff_not, decide_eq_true_eq, Classical.not_not] at *) <;> first | grind [nI_p1, a_u_2] | (exfalso; (simp only [i_le, i_lt, i_eq, Int32.reduceToInt] at *); omega)) (by clear hC hq; (try simp only [bI_e0, bI_n0, decide_eq_false_iff_not, decide_eq_true_eq, Classical.not_not] at *) <;> first | grind [nI_p1, a_u_2] | (exfalso; (simp only [i_le, i_lt, i_eq, Int32.reduceToInt] at *); omega)) rfl rfl)
set_option maxRecDepth 100000 in
theorem m_X12_ends {T : List aT} {I : aI} {J : aJ} {R : aR} (hT : aPT T) (hR : aPR R) : MX12_ends 0 0 [.ref 44] T I J R (aPure none T (a_u (a_u I 44 43 (-1)) 44 45 (-1)) J R) := by
  refine a_met (by decide +kernel) a_le (fun X hC hq => ?_)
  show AW X 0 0 0 [some (.ref 44)] [] T I J R
  refine aw_aload_n hC dX12_ends_0 rfl ?_
  refine aw_iconst (v := (-1)) hC dX12_ends_1 (by decide) ?_
  refine aw_putI hC dX12_ends_2 aF_X12_119 rfl rfl (tg_44 hT) ?_
  refine aw_aload_n hC dX12_ends_5 rfl ?_
  refine aw_iconst (v := (-1)) hC dX12_ends_6 (by decide) ?_
  refine aw_putI hC dX12_ends_7 aF_X12_123 rfl rfl (tg_44 hT) ?_
  exact aw_return hC hq rfl dX12_ends_10 a_le a_le (aPure_ev (by clear hC hq; (try simp only [bI_e0, bI_n0, decide_eq_false_iff_not, decide_eq_true_eq, Classical.not_not] at *) <;> first | grind [nI_p1, a_u_2] | (exfalso; (simp only [i_le, i_lt, i_eq, Int32.reduceToInt] at *); omega)) rfl rfl)
set_option maxRecDepth 100000 in
theorem m_X12_pass {T : List aT} {I : aI} {J : aJ} {R : aR} (hT : aPT T) (hR : aPR R) (d : Int32) : MX12_pass 0 0 [.ref 44, .int d] T I J R (aPure (some (.int (if 1 ≤ d ∧ d ≤ 30 then I 44 13 + d else 0))) T (if 1 ≤ d ∧ d ≤ 30 then (if 0 ≤ I 44 45 ∧ I 44 45 ≤ I 44 13 + d then a_u (a_u (a_u (a_u I 44 61 0) 44 13 (I 44 13 + d)) 44 43 (-1)) 44 45 (-1) else a_u (a_u I 44 61 0) 44 13 (I 44 13 + d)) else a_u I 44 61 1) J R) := by
  refine a_met (by decide +kernel) a_le (fun X hC hq => ?_)
  show AW X 0 0 0 [some (.ref 44), some (.int d)] [] T I J R
  refine aw_aload_n hC dX12_pass_0 rfl ?_
  refine aw_iload_n hC dX12_pass_1 rfl ?_
  refine aw_iconst (v := 1) hC dX12_pass_2 (by decide) ?_
  refine aw_bipush (v := 30) hC dX12_pass_3 (by decide) ?_
  refine kX12_169 hC rfl (m_X12_isIn d (1 : Int32) (30 : Int32)) dX12_pass_5 rfl a_le a_le a_le a_le a_le rfl aPure_x (aPure_k ?_)
  show AW X 0 0 8 [some (.ref 44), some (.int d)] [.int (bI (decide ((1 : Int32) ≤ d ∧ d ≤ (30 : Int32)))), .ref 44] T I J R
  refine aw_if_eq (tgt := 15) hC dX12_pass_8 (by decide) (fun h1 => ?_) (fun h1 => ?_)
  · show AW X 0 0 15 [some (.ref 44), some (.int d)] [.ref 44] T I J R
    refine aw_iconst (v := 1) hC dX12_pass_15 (by decide) ?_
    refine aw_putI hC dX12_pass_16 aF_X12_166 rfl rfl (tg_44 hT) ?_
    refine aw_aload_n hC dX12_pass_19 rfl ?_
    refine aw_getI hC dX12_pass_20 aF_X12_166 rfl (tg_44 hT) ?_
    rw [a_u_self (f := I) (o := 44) (k := 61) (v := 1)]
    refine aw_if_le (tgt := 28) hC dX12_pass_23 (by decide) (fun h2 => absurd h2 (by decide)) (fun _ => ?_)
    show AW X 0 0 26 [some (.ref 44), some (.int d)] [] T (a_u I 44 61 1) J R
    refine aw_iconst (v := 0) hC dX12_pass_26 (by decide) ?_
    exact aw_ireturn hC hq rfl dX12_pass_27 a_le a_le (aPure_e (by clear hC hq; (try simp only [bI_e0, bI_n0, decide_eq_false_iff_not, decide_eq_true_eq, Classical.not_not] at *) <;> first | grind [nI_p1, a_u_2] | (exfalso; (simp only [i_le, i_lt, i_eq, Int32.reduceToInt] at *); omega)) (by clear hC hq; (try simp only [bI_e0, bI_n0, decide_eq_false_iff_not, decide_eq_true_eq, Classical.not_not] at *) <;> first | grind [nI_p1, a_u_2] | (exfalso; (simp only [i_le, i_lt, i_eq, Int32.reduceToInt] at *); omega)) rfl rfl)
  · show AW X 0 0 11 [some (.ref 44), some (.int d)] [.ref 44] T I J R
    refine aw_iconst (v := 0) hC dX12_pass_11 (by decide) ?_
    refine aw_goto (tgt := 16) hC dX12_pass_12 (by decide) ?_
    refine aw_putI hC dX12_pass_16 aF_X12_166 rfl rfl (tg_44 hT) ?_
    refine aw_aload_n hC dX12_pass_19 rfl ?_
    refine aw_getI hC dX12_pass_20 aF_X12_166 rfl (tg_44 hT) ?_
    rw [a_u_self (f := I) (o := 44) (k := 61) (v := 0)]
    refine aw_if_le (tgt := 28) hC dX12_pass_23 (by decide) (fun _ => ?_) (fun h3 => absurd h3 (by decide))
    show AW X 0 0 28 [some (.ref 44), some (.int d)] [] T (a_u I 44 61 0) J R
    refine aw_aload_n hC dX12_pass_28 rfl ?_
    refine aw_dup hC dX12_pass_29 rfl ?_
    refine aw_getI hC dX12_pass_30 aF_X12_193 rfl (tg_44 hT) ?_
    rw [a_u_ne (f := I) (o := 44) (k := 61) (a := 44) (b := 13) (v := 0) (fun q => absurd q.2 (by decide))]
    refine aw_iload_n hC dX12_pass_33 rfl ?_
    refine aw_iadd hC dX12_pass_34 ?_
    refine aw_putI hC dX12_pass_35 aF_X12_193 rfl rfl (tg_44 hT) ?_
    refine aw_aload_n hC dX12_pass_38 rfl ?_
    refine aw_getI hC dX12_pass_39 aF_X12_123 rfl (tg_44 hT) ?_
    rw [a_u_ne (f := a_u I 44 61 0) (o := 44) (k := 13) (a := 44) (b := 45) (v := (I 44 13) + d) (fun q => absurd q.2 (by decide))]
    rw [a_u_ne (f := I) (o := 44) (k := 61) (a := 44) (b := 45) (v := 0) (fun q => absurd q.2 (by decide))]
    refine aw_if_lt (tgt := 60) hC dX12_pass_42 (by decide) (fun h4 => ?_) (fun h4 => ?_)
    · show AW X 0 0 60 [some (.ref 44), some (.int d)] [] T (a_u (a_u I 44 61 0) 44 13 ((I 44 13) + d)) J R
      refine aw_aload_n hC dX12_pass_60 rfl ?_
      refine aw_getI hC dX12_pass_61 aF_X12_193 rfl (tg_44 hT) ?_
      rw [a_u_self (f := a_u I 44 61 0) (o := 44) (k := 13) (v := (I 44 13) + d)]
      exact aw_ireturn hC hq rfl dX12_pass_64 a_le a_le (aPure_e (by clear hC hq; (try simp only [bI_e0, bI_n0, decide_eq_false_iff_not, decide_eq_true_eq, Classical.not_not] at *) <;> first | grind [nI_p1, a_u_2] | (exfalso; (simp only [i_le, i_lt, i_eq, Int32.reduceToInt] at *); omega)) (by clear hC hq; (try simp only [bI_e0, bI_n0, decide_eq_false_iff_not, decide_eq_true_eq, Classical.not_not] at *) <;> first | grind [nI_p1, a_u_2] | (exfalso; (simp only [i_le, i_lt, i_eq, Int32.reduceToInt] at *); omega)) rfl rfl)
    · show AW X 0 0 45 [some (.ref 44), some (.int d)] [] T (a_u (a_u I 44 61 0) 44 13 ((I 44 13) + d)) J R
      refine aw_aload_n hC dX12_pass_45 rfl ?_
      refine aw_getI hC dX12_pass_46 aF_X12_193 rfl (tg_44 hT) ?_
      rw [a_u_self (f := a_u I 44 61 0) (o := 44) (k := 13) (v := (I 44 13) + d)]
      refine aw_aload_n hC dX12_pass_49 rfl ?_
      refine aw_getI hC dX12_pass_50 aF_X12_123 rfl (tg_44 hT) ?_
      rw [a_u_ne (f := a_u I 44 61 0) (o := 44) (k := 13) (a := 44) (b := 45) (v := (I 44 13) + d) (fun q => absurd q.2 (by decide))]
      rw [a_u_ne (f := I) (o := 44) (k := 61) (a := 44) (b := 45) (v := 0) (fun q => absurd q.2 (by decide))]
      refine aw_icmp_lt (tgt := 60) hC dX12_pass_53 (by decide) (fun h5 => ?_) (fun h5 => ?_)
      · show AW X 0 0 60 [some (.ref 44), some (.int d)] [] T (a_u (a_u I 44 61 0) 44 13 ((I 44 13) + d)) J R
        refine aw_aload_n hC dX12_pass_60 rfl ?_
        refine aw_getI hC dX12_pass_61 aF_X12_193 rfl (tg_44 hT) ?_
        rw [a_u_self (f := a_u I 44 61 0) (o := 44) (k := 13) (v := (I 44 13) + d)]
        exact aw_ireturn hC hq rfl dX12_pass_64 a_le a_le (aPure_e (by clear hC hq; (try simp only [bI_e0, bI_n0, decide_eq_false_iff_not, decide_eq_true_eq, Classical.not_not] at *) <;> first | grind [nI_p1, a_u_2] | (exfalso; (simp only [i_le, i_lt, i_eq, Int32.reduceToInt] at *); omega)) (by clear hC hq; (try simp only [bI_e0, bI_n0, decide_eq_false_iff_not, decide_eq_true_eq, Classical.not_not] at *) <;> first | grind [nI_p1, a_u_2] | (exfalso; (simp only [i_le, i_lt, i_eq, Int32.reduceToInt] at *); omega)) rfl rfl)
      · show AW X 0 0 56 [some (.ref 44), some (.int d)] [] T (a_u (a_u I 44 61 0) 44 13 ((I 44 13) + d)) J R
        refine aw_aload_n hC dX12_pass_56 rfl ?_
        refine kX12_196 hC rfl (m_X12_ends hT hR) dX12_pass_57 (tg_44 hT) rfl a_le a_le a_le a_le a_le rfl aPure_x (aPure_k ?_)
        show AW X 0 0 60 [some (.ref 44), some (.int d)] [] T (a_u (a_u (a_u (a_u I 44 61 0) 44 13 ((I 44 13) + d)) 44 43 (-1)) 44 45 (-1)) J R
        refine aw_aload_n hC dX12_pass_60 rfl ?_
        refine aw_getI hC dX12_pass_61 aF_X12_193 rfl (tg_44 hT) ?_
        rw [a_u_ne (f := a_u (a_u (a_u I 44 61 0) 44 13 ((I 44 13) + d)) 44 43 (-1)) (o := 44) (k := 45) (a := 44) (b := 13) (v := (-1)) (fun q => absurd q.2 (by decide))]
        rw [a_u_ne (f := a_u (a_u I 44 61 0) 44 13 ((I 44 13) + d)) (o := 44) (k := 43) (a := 44) (b := 13) (v := (-1)) (fun q => absurd q.2 (by decide))]
        rw [a_u_self (f := a_u I 44 61 0) (o := 44) (k := 13) (v := (I 44 13) + d)]
        exact aw_ireturn hC hq rfl dX12_pass_64 a_le a_le (aPure_e (by clear hC hq; (try simp only [bI_e0, bI_n0, decide_eq_false_iff_not, decide_eq_true_eq, Classical.not_not] at *) <;> first | grind [nI_p1, a_u_2] | (exfalso; (simp only [i_le, i_lt, i_eq, Int32.reduceToInt] at *); omega)) (by clear hC hq; (try simp only [bI_e0, bI_n0, decide_eq_false_iff_not, decide_eq_true_eq, Classical.not_not] at *) <;> first | grind [nI_p1, a_u_2] | (exfalso; (simp only [i_le, i_lt, i_eq, Int32.reduceToInt] at *); omega)) rfl rfl)
set_option maxRecDepth 100000 in
theorem m_X12_policy {T : List aT} {I : aI} {J : aJ} {R : aR} (hT : aPT T) (hR : aPR R) (f a b : Int32) {p : Nat} (hp : I 44 14 = nI p) (hp8 : p ≤ 8) : MX12_policy 0 0 [.ref 44, .int f, .int a, .int b] T I J R (aPure (some (.int (if (0 ≤ f ∧ f ≤ 9) ∧ (0 ≤ a ∧ a ≤ 63) ∧ (a ≤ b ∧ b ≤ 63) ∧ p ≠ 8 then nI p else 0))) T (if 0 ≤ f ∧ f ≤ 9 then (if (0 ≤ a ∧ a ≤ 63) ∧ (a ≤ b ∧ b ≤ 63) then (if p ≠ 8 then a_u (a_u (a_u (a_u (a_u I 44 61 0) 57 (3 * p) f) 57 (3 * p + 1) a) 57 (3 * p + 2) b) 44 14 (nI (p+1)) else a_u I 44 61 3) else a_u I 44 61 2) else a_u I 44 61 1) J R) := by
  refine a_met (by decide +kernel) a_le (fun X hC hq => ?_)
  show AW X 0 0 0 [some (.ref 44), some (.int f), some (.int a), some (.int b)] [] T I J R
  refine aw_aload_n hC dX12_policy_0 rfl ?_
  refine aw_iload_n hC dX12_policy_1 rfl ?_
  refine kX12_173 hC rfl (m_X12_isField f) dX12_policy_2 rfl a_le a_le a_le a_le a_le rfl aPure_x (aPure_k ?_)
  show AW X 0 0 5 [some (.ref 44), some (.int f), some (.int a), some (.int b)] [.int (bI (decide (0 ≤ f ∧ f ≤ 9))), .ref 44] T I J R
  refine aw_if_ne (tgt := 12) hC dX12_policy_5 (by decide) (fun h1 => ?_) (fun h1 => ?_)
  · show AW X 0 0 12 [some (.ref 44), some (.int f), some (.int a), some (.int b)] [.ref 44] T I J R
    refine aw_iload_n hC dX12_policy_12 rfl ?_
    refine aw_iconst (v := 0) hC dX12_policy_13 (by decide) ?_
    refine aw_bipush (v := 63) hC dX12_policy_14 (by decide) ?_
    refine kX12_169 hC rfl (m_X12_isIn a (0 : Int32) (63 : Int32)) dX12_policy_16 rfl a_le a_le a_le a_le a_le rfl aPure_x (aPure_k ?_)
    show AW X 0 0 19 [some (.ref 44), some (.int f), some (.int a), some (.int b)] [.int (bI (decide ((0 : Int32) ≤ a ∧ a ≤ (63 : Int32)))), .ref 44] T I J R
    refine aw_if_eq (tgt := 32) hC dX12_policy_19 (by decide) (fun h2 => ?_) (fun h2 => ?_)
    · show AW X 0 0 32 [some (.ref 44), some (.int f), some (.int a), some (.int b)] [.ref 44] T I J R
      refine aw_iconst (v := 2) hC dX12_policy_32 (by decide) ?_
      refine aw_goto (tgt := 50) hC dX12_policy_33 (by decide) ?_
      refine aw_putI hC dX12_policy_50 aF_X12_166 rfl rfl (tg_44 hT) ?_
      refine aw_aload_n hC dX12_policy_53 rfl ?_
      refine aw_getI hC dX12_policy_54 aF_X12_166 rfl (tg_44 hT) ?_
      rw [a_u_self (f := I) (o := 44) (k := 61) (v := 2)]
      refine aw_if_le (tgt := 62) hC dX12_policy_57 (by decide) (fun h3 => absurd h3 (by decide)) (fun _ => ?_)
      show AW X 0 0 60 [some (.ref 44), some (.int f), some (.int a), some (.int b)] [] T (a_u I 44 61 2) J R
      refine aw_iconst (v := 0) hC dX12_policy_60 (by decide) ?_
      exact aw_ireturn hC hq rfl dX12_policy_61 a_le a_le (aPure_e (by clear hC hq; (try simp only [bI_e0, bI_n0, decide_eq_false_iff_not, decide_eq_true_eq, Classical.not_not] at *) <;> first | grind [nI_p1, a_u_2] | (exfalso; (simp only [i_le, i_lt, i_eq, Int32.reduceToInt] at *); omega)) (by clear hC hq; (try simp only [bI_e0, bI_n0, decide_eq_false_iff_not, decide_eq_true_eq, Classical.not_not] at *) <;> first | grind [nI_p1, a_u_2] | (exfalso; (simp only [i_le, i_lt, i_eq, Int32.reduceToInt] at *); omega)) rfl rfl)
    · show AW X 0 0 22 [some (.ref 44), some (.int f), some (.int a), some (.int b)] [.ref 44] T I J R
      refine aw_iload_n hC dX12_policy_22 rfl ?_
      refine aw_iload_n hC dX12_policy_23 rfl ?_
      refine aw_bipush (v := 63) hC dX12_policy_24 (by decide) ?_
      refine kX12_169 hC rfl (m_X12_isIn b a (63 : Int32)) dX12_policy_26 rfl a_le a_le a_le a_le a_le rfl aPure_x (aPure_k ?_)
      show AW X 0 0 29 [some (.ref 44), some (.int f), some (.int a), some (.int b)] [.int (bI (decide (a ≤ b ∧ b ≤ (63 : Int32)))), .ref 44] T I J R
      refine aw_if_ne (tgt := 36) hC dX12_policy_29 (by decide) (fun h4 => ?_) (fun h4 => ?_)
      · show AW X 0 0 36 [some (.ref 44), some (.int f), some (.int a), some (.int b)] [.ref 44] T I J R
        refine aw_aload_n hC dX12_policy_36 rfl ?_
        refine aw_getI hC dX12_policy_37 aF_X12_298 rfl (tg_44 hT) ?_
        rw [hp]
        refine aw_bipush (v := 8) hC dX12_policy_40 (by decide) ?_
        refine aw_icmp_ne (tgt := 49) hC dX12_policy_42 (by decide) (fun h5 => ?_) (fun h5 => ?_)
        · show AW X 0 0 49 [some (.ref 44), some (.int f), some (.int a), some (.int b)] [.ref 44] T I J R
          have h5n : ¬ p = 8 := fun q9 => h5 ((nI_eq (a := p) (b := 8) (by omega) (by omega)).mpr q9)
          refine aw_iconst (v := 0) hC dX12_policy_49 (by decide) ?_
          refine aw_putI hC dX12_policy_50 aF_X12_166 rfl rfl (tg_44 hT) ?_
          refine aw_aload_n hC dX12_policy_53 rfl ?_
          refine aw_getI hC dX12_policy_54 aF_X12_166 rfl (tg_44 hT) ?_
          rw [a_u_self (f := I) (o := 44) (k := 61) (v := 0)]
          refine aw_if_le (tgt := 62) hC dX12_policy_57 (by decide) (fun _ => ?_) (fun h6 => absurd h6 (by decide))
          show AW X 0 0 62 [some (.ref 44), some (.int f), some (.int a), some (.int b)] [] T (a_u I 44 61 0) J R
          refine aw_aload_n hC dX12_policy_62 rfl ?_
          refine aw_getR hC dX12_policy_63 aF_X12_47 rfl (tg_44 hT) (pr_44_15 hR) ?_
          refine aw_iconst (v := 3) hC dX12_policy_66 (by decide) ?_
          refine aw_aload_n hC dX12_policy_67 rfl ?_
          refine aw_getI hC dX12_policy_68 aF_X12_298 rfl (tg_44 hT) ?_
          rw [a_u_ne (f := I) (o := 44) (k := 61) (a := 44) (b := 14) (v := 0) (fun q => absurd q.2 (by decide))]
          rw [hp]
          refine aw_imul hC dX12_policy_71 ?_
          refine aw_iload_n hC dX12_policy_72 rfl ?_
          refine aw_iastore_k (j := (3 * p)) hC dX12_policy_73 (tg_57 hT) ((congrArg Int32.toNatClampNeg (nmul 3 p)).trans (nI_clamp (by omega))) (by have h9 : vp_in (nI (3 * p)) 24 := vp_in_nI (by omega) (by decide); rw [← nmul] at h9; exact h9) ?_
          refine aw_aload_n hC dX12_policy_74 rfl ?_
          refine aw_getR hC dX12_policy_75 aF_X12_47 rfl (tg_44 hT) (pr_44_15 hR) ?_
          refine aw_iconst (v := 3) hC dX12_policy_78 (by decide) ?_
          refine aw_aload_n hC dX12_policy_79 rfl ?_
          refine aw_getI hC dX12_policy_80 aF_X12_298 rfl (tg_44 hT) ?_
          rw [a_u_ne (f := a_u I 44 61 0) (o := 57) (k := (3 * p)) (a := 44) (b := 14) (v := f) (fun q => absurd q.1 (by decide))]
          rw [a_u_ne (f := I) (o := 44) (k := 61) (a := 44) (b := 14) (v := 0) (fun q => absurd q.2 (by decide))]
          rw [hp]
          refine aw_imul hC dX12_policy_83 ?_
          refine aw_iconst (v := 1) hC dX12_policy_84 (by decide) ?_
          refine aw_iadd hC dX12_policy_85 ?_
          refine aw_iload_n hC dX12_policy_86 rfl ?_
          refine aw_iastore_k (j := (3 * p + 1)) hC dX12_policy_87 (tg_57 hT) ((congrArg Int32.toNatClampNeg (nlin 3 p 1)).trans (nI_clamp (by omega))) (by have h9 : vp_in (nI (3 * p + 1)) 24 := vp_in_nI (by omega) (by decide); rw [← nlin] at h9; exact h9) ?_
          refine aw_aload_n hC dX12_policy_88 rfl ?_
          refine aw_getR hC dX12_policy_89 aF_X12_47 rfl (tg_44 hT) (pr_44_15 hR) ?_
          refine aw_iconst (v := 3) hC dX12_policy_92 (by decide) ?_
          refine aw_aload_n hC dX12_policy_93 rfl ?_
          refine aw_getI hC dX12_policy_94 aF_X12_298 rfl (tg_44 hT) ?_
          rw [a_u_ne (f := a_u (a_u I 44 61 0) 57 (3 * p) f) (o := 57) (k := (3 * p + 1)) (a := 44) (b := 14) (v := a) (fun q => absurd q.1 (by decide))]
          rw [a_u_ne (f := a_u I 44 61 0) (o := 57) (k := (3 * p)) (a := 44) (b := 14) (v := f) (fun q => absurd q.1 (by decide))]
          rw [a_u_ne (f := I) (o := 44) (k := 61) (a := 44) (b := 14) (v := 0) (fun q => absurd q.2 (by decide))]
          rw [hp]
          refine aw_imul hC dX12_policy_97 ?_
          refine aw_iconst (v := 2) hC dX12_policy_98 (by decide) ?_
          refine aw_iadd hC dX12_policy_99 ?_
          refine aw_iload_n hC dX12_policy_100 rfl ?_
          refine aw_iastore_k (j := (3 * p + 2)) hC dX12_policy_101 (tg_57 hT) ((congrArg Int32.toNatClampNeg (nlin 3 p 2)).trans (nI_clamp (by omega))) (by have h9 : vp_in (nI (3 * p + 2)) 24 := vp_in_nI (by omega) (by decide); rw [← nlin] at h9; exact h9) ?_
          refine aw_aload_n hC dX12_policy_102 rfl ?_
          refine aw_dup hC dX12_policy_103 rfl ?_
          refine aw_getI hC dX12_policy_104 aF_X12_298 rfl (tg_44 hT) ?_
          rw [a_u_ne (f := a_u (a_u (a_u I 44 61 0) 57 (3 * p) f) 57 (3 * p + 1) a) (o := 57) (k := (3 * p + 2)) (a := 44) (b := 14) (v := b) (fun q => absurd q.1 (by decide))]
          rw [a_u_ne (f := a_u (a_u I 44 61 0) 57 (3 * p) f) (o := 57) (k := (3 * p + 1)) (a := 44) (b := 14) (v := a) (fun q => absurd q.1 (by decide))]
          rw [a_u_ne (f := a_u I 44 61 0) (o := 57) (k := (3 * p)) (a := 44) (b := 14) (v := f) (fun q => absurd q.1 (by decide))]
          rw [a_u_ne (f := I) (o := 44) (k := 61) (a := 44) (b := 14) (v := 0) (fun q => absurd q.2 (by decide))]
          rw [hp]
          refine aw_iconst (v := 1) hC dX12_policy_107 (by decide) ?_
          refine aw_iadd hC dX12_policy_108 ?_
          refine aw_putI hC dX12_policy_109 aF_X12_298 rfl rfl (tg_44 hT) ?_
          refine aw_aload_n hC dX12_policy_112 rfl ?_
          refine aw_getI hC dX12_policy_113 aF_X12_298 rfl (tg_44 hT) ?_
          rw [a_u_self (f := a_u (a_u (a_u (a_u I 44 61 0) 57 (3 * p) f) 57 (3 * p + 1) a) 57 (3 * p + 2) b) (o := 44) (k := 14) (v := (nI p) + 1)]
          refine aw_iconst (v := 1) hC dX12_policy_116 (by decide) ?_
          refine aw_isub hC dX12_policy_117 ?_
          exact aw_ireturn hC hq rfl dX12_policy_118 a_le a_le (aPure_e (by clear hC hq; (try simp only [bI_e0, bI_n0, decide_eq_false_iff_not, decide_eq_true_eq, Classical.not_not] at *) <;> first | grind [nI_p1, a_u_2] | (exfalso; (simp only [i_le, i_lt, i_eq, Int32.reduceToInt] at *); omega)) (by clear hC hq; (try simp only [bI_e0, bI_n0, decide_eq_false_iff_not, decide_eq_true_eq, Classical.not_not] at *) <;> first | grind [nI_p1, a_u_2] | (exfalso; (simp only [i_le, i_lt, i_eq, Int32.reduceToInt] at *); omega)) rfl rfl)
        · show AW X 0 0 45 [some (.ref 44), some (.int f), some (.int a), some (.int b)] [.ref 44] T I J R
          have h5n : p = 8 := (nI_eq (a := p) (b := 8) (by omega) (by omega)).mp h5
          refine aw_iconst (v := 3) hC dX12_policy_45 (by decide) ?_
          refine aw_goto (tgt := 50) hC dX12_policy_46 (by decide) ?_
          refine aw_putI hC dX12_policy_50 aF_X12_166 rfl rfl (tg_44 hT) ?_
          refine aw_aload_n hC dX12_policy_53 rfl ?_
          refine aw_getI hC dX12_policy_54 aF_X12_166 rfl (tg_44 hT) ?_
          rw [a_u_self (f := I) (o := 44) (k := 61) (v := 3)]
          refine aw_if_le (tgt := 62) hC dX12_policy_57 (by decide) (fun h7 => absurd h7 (by decide)) (fun _ => ?_)
          show AW X 0 0 60 [some (.ref 44), some (.int f), some (.int a), some (.int b)] [] T (a_u I 44 61 3) J R
          refine aw_iconst (v := 0) hC dX12_policy_60 (by decide) ?_
          exact aw_ireturn hC hq rfl dX12_policy_61 a_le a_le (aPure_e (by clear hC hq; (try simp only [bI_e0, bI_n0, decide_eq_false_iff_not, decide_eq_true_eq, Classical.not_not] at *) <;> first | grind [nI_p1, a_u_2] | (exfalso; (simp only [i_le, i_lt, i_eq, Int32.reduceToInt] at *); omega)) (by clear hC hq; (try simp only [bI_e0, bI_n0, decide_eq_false_iff_not, decide_eq_true_eq, Classical.not_not] at *) <;> first | grind [nI_p1, a_u_2] | (exfalso; (simp only [i_le, i_lt, i_eq, Int32.reduceToInt] at *); omega)) rfl rfl)
      · show AW X 0 0 32 [some (.ref 44), some (.int f), some (.int a), some (.int b)] [.ref 44] T I J R
        refine aw_iconst (v := 2) hC dX12_policy_32 (by decide) ?_
        refine aw_goto (tgt := 50) hC dX12_policy_33 (by decide) ?_
        refine aw_putI hC dX12_policy_50 aF_X12_166 rfl rfl (tg_44 hT) ?_
        refine aw_aload_n hC dX12_policy_53 rfl ?_
        refine aw_getI hC dX12_policy_54 aF_X12_166 rfl (tg_44 hT) ?_
        rw [a_u_self (f := I) (o := 44) (k := 61) (v := 2)]
        refine aw_if_le (tgt := 62) hC dX12_policy_57 (by decide) (fun h8 => absurd h8 (by decide)) (fun _ => ?_)
        show AW X 0 0 60 [some (.ref 44), some (.int f), some (.int a), some (.int b)] [] T (a_u I 44 61 2) J R
        refine aw_iconst (v := 0) hC dX12_policy_60 (by decide) ?_
        exact aw_ireturn hC hq rfl dX12_policy_61 a_le a_le (aPure_e (by clear hC hq; (try simp only [bI_e0, bI_n0, decide_eq_false_iff_not, decide_eq_true_eq, Classical.not_not] at *) <;> first | grind [nI_p1, a_u_2] | (exfalso; (simp only [i_le, i_lt, i_eq, Int32.reduceToInt] at *); omega)) (by clear hC hq; (try simp only [bI_e0, bI_n0, decide_eq_false_iff_not, decide_eq_true_eq, Classical.not_not] at *) <;> first | grind [nI_p1, a_u_2] | (exfalso; (simp only [i_le, i_lt, i_eq, Int32.reduceToInt] at *); omega)) rfl rfl)
  · show AW X 0 0 8 [some (.ref 44), some (.int f), some (.int a), some (.int b)] [.ref 44] T I J R
    refine aw_iconst (v := 1) hC dX12_policy_8 (by decide) ?_
    refine aw_goto (tgt := 50) hC dX12_policy_9 (by decide) ?_
    refine aw_putI hC dX12_policy_50 aF_X12_166 rfl rfl (tg_44 hT) ?_
    refine aw_aload_n hC dX12_policy_53 rfl ?_
    refine aw_getI hC dX12_policy_54 aF_X12_166 rfl (tg_44 hT) ?_
    rw [a_u_self (f := I) (o := 44) (k := 61) (v := 1)]
    refine aw_if_le (tgt := 62) hC dX12_policy_57 (by decide) (fun h9 => absurd h9 (by decide)) (fun _ => ?_)
    show AW X 0 0 60 [some (.ref 44), some (.int f), some (.int a), some (.int b)] [] T (a_u I 44 61 1) J R
    refine aw_iconst (v := 0) hC dX12_policy_60 (by decide) ?_
    exact aw_ireturn hC hq rfl dX12_policy_61 a_le a_le (aPure_e (by clear hC hq; (try simp only [bI_e0, bI_n0, decide_eq_false_iff_not, decide_eq_true_eq, Classical.not_not] at *) <;> first | grind [nI_p1, a_u_2] | (exfalso; (simp only [i_le, i_lt, i_eq, Int32.reduceToInt] at *); omega)) (by clear hC hq; (try simp only [bI_e0, bI_n0, decide_eq_false_iff_not, decide_eq_true_eq, Classical.not_not] at *) <;> first | grind [nI_p1, a_u_2] | (exfalso; (simp only [i_le, i_lt, i_eq, Int32.reduceToInt] at *); omega)) rfl rfl)
set_option maxRecDepth 100000 in
theorem m_X12_has {T : List aT} {I : aI} {J : aJ} {R : aR} (hT : aPT T) (hR : aPR R) (t a f : Int32) (hx : vp_in (3 * t + a) 9) : MX12_has 0 0 [.ref 44, .int t, .int a, .int f] T I J R (aPure (some (.int (bI (decide (I 58 (3 * t + a).toNatClampNeg &&& f ≠ 0))))) T I J R) := by
  refine a_met (by decide +kernel) a_le (fun X hC hq => ?_)
  show AW X 0 0 0 [some (.ref 44), some (.int t), some (.int a), some (.int f)] [] T I J R
  refine aw_aload_n hC dX12_has_0 rfl ?_
  refine aw_getR hC dX12_has_1 aF_X12_50 rfl (tg_44 hT) (pr_44_16 hR) ?_
  refine aw_iconst (v := 3) hC dX12_has_4 (by decide) ?_
  refine aw_iload_n hC dX12_has_5 rfl ?_
  refine aw_imul hC dX12_has_6 ?_
  refine aw_iload_n hC dX12_has_7 rfl ?_
  refine aw_iadd hC dX12_has_8 ?_
  refine aw_iaload_k (j := ((3 * t) + a).toNatClampNeg) hC dX12_has_9 (tg_58 hT) rfl hx ?_
  refine aw_iload_n hC dX12_has_10 rfl ?_
  refine aw_iand hC dX12_has_11 ?_
  refine aw_if_eq (tgt := 19) hC dX12_has_12 (by decide) (fun h1 => ?_) (fun h1 => ?_)
  · show AW X 0 0 19 [some (.ref 44), some (.int t), some (.int a), some (.int f)] [] T I J R
    refine aw_iconst (v := 0) hC dX12_has_19 (by decide) ?_
    exact aw_zreturn hC hq rfl (Or.inl rfl) dX12_has_20 a_le a_le (aPure_i (bI_no (by clear hC hq; (try simp only [bI_e0, bI_n0, decide_eq_false_iff_not, decide_eq_true_eq, Classical.not_not] at *) <;> first | grind [nI_p1, a_u_2] | (exfalso; (simp only [i_le, i_lt, i_eq, Int32.reduceToInt] at *); omega))))
  · show AW X 0 0 15 [some (.ref 44), some (.int t), some (.int a), some (.int f)] [] T I J R
    refine aw_iconst (v := 1) hC dX12_has_15 (by decide) ?_
    refine aw_goto (tgt := 20) hC dX12_has_16 (by decide) ?_
    exact aw_zreturn hC hq rfl (Or.inr rfl) dX12_has_20 a_le a_le (aPure_i (bI_yes (by clear hC hq; (try simp only [bI_e0, bI_n0, decide_eq_false_iff_not, decide_eq_true_eq, Classical.not_not] at *) <;> first | grind [nI_p1, a_u_2] | (exfalso; (simp only [i_le, i_lt, i_eq, Int32.reduceToInt] at *); omega))))
set_option maxRecDepth 100000 in
theorem m_X12_isGenerator {T : List aT} {I : aI} {J : aJ} {R : aR} (hT : aPT T) (hR : aPR R) (x : Int32) {g : Nat} (hg : I 44 20 = nI g) (hg9 : g ≤ 1000) : MX12_isGenerator 0 0 [.ref 44, .int x] T I J R (aPure (some (.int (bI (decide (0 ≤ x ∧ x < nI g))))) T I J R) := by
  refine a_met (by decide +kernel) a_le (fun X hC hq => ?_)
  show AW X 0 0 0 [some (.ref 44), some (.int x)] [] T I J R
  refine aw_iload_n hC dX12_isGenerator_0 rfl ?_
  refine aw_iconst (v := 0) hC dX12_isGenerator_1 (by decide) ?_
  refine aw_aload_n hC dX12_isGenerator_2 rfl ?_
  refine aw_getI hC dX12_isGenerator_3 aF_X12_312 rfl (tg_44 hT) ?_
  rw [hg]
  refine aw_iconst (v := 1) hC dX12_isGenerator_6 (by decide) ?_
  refine aw_isub hC dX12_isGenerator_7 ?_
  refine kX12_169 hC rfl (m_X12_isIn x (0 : Int32) ((nI g) - 1)) dX12_isGenerator_8 rfl a_le a_le a_le a_le a_le rfl aPure_x (aPure_k ?_)
  show AW X 0 0 11 [some (.ref 44), some (.int x)] [.int (bI (decide ((0 : Int32) ≤ x ∧ x ≤ ((nI g) - 1))))] T I J R
  exact aw_zreturn hC hq rfl (bI_01 _) dX12_isGenerator_11 a_le a_le (aPure_i (by exact congrArg bI (decide_eq_decide.mpr (by rw [below1 (by omega)]))))
set_option maxRecDepth 100000 in
theorem m_X12_isResource {T : List aT} {I : aI} {J : aJ} {R : aR} (hT : aPT T) (hR : aPR R) (x : Int32) {r : Nat} (hr : I 44 25 = nI r) (hr9 : r ≤ 1000) : MX12_isResource 0 0 [.ref 44, .int x] T I J R (aPure (some (.int (bI (decide (0 ≤ x ∧ x < nI r))))) T I J R) := by
  refine a_met (by decide +kernel) a_le (fun X hC hq => ?_)
  show AW X 0 0 0 [some (.ref 44), some (.int x)] [] T I J R
  refine aw_iload_n hC dX12_isResource_0 rfl ?_
  refine aw_iconst (v := 0) hC dX12_isResource_1 (by decide) ?_
  refine aw_aload_n hC dX12_isResource_2 rfl ?_
  refine aw_getI hC dX12_isResource_3 aF_X12_315 rfl (tg_44 hT) ?_
  rw [hr]
  refine aw_iconst (v := 1) hC dX12_isResource_6 (by decide) ?_
  refine aw_isub hC dX12_isResource_7 ?_
  refine kX12_169 hC rfl (m_X12_isIn x (0 : Int32) ((nI r) - 1)) dX12_isResource_8 rfl a_le a_le a_le a_le a_le rfl aPure_x (aPure_k ?_)
  show AW X 0 0 11 [some (.ref 44), some (.int x)] [.int (bI (decide ((0 : Int32) ≤ x ∧ x ≤ ((nI r) - 1))))] T I J R
  exact aw_zreturn hC hq rfl (bI_01 _) dX12_isResource_11 a_le a_le (aPure_i (by exact congrArg bI (decide_eq_decide.mpr (by rw [below1 (by omega)]))))
set_option maxRecDepth 100000 in
theorem m_X12_isPlan {T : List aT} {I : aI} {J : aJ} {R : aR} (hT : aPT T) (hR : aPR R) (x : Int32) {p : Nat} (hp : I 44 36 = nI p) (hp9 : p ≤ 1000) : MX12_isPlan 0 0 [.ref 44, .int x] T I J R (aPure (some (.int (bI (decide (0 ≤ x ∧ x < nI p))))) T I J R) := by
  refine a_met (by decide +kernel) a_le (fun X hC hq => ?_)
  show AW X 0 0 0 [some (.ref 44), some (.int x)] [] T I J R
  refine aw_iload_n hC dX12_isPlan_0 rfl ?_
  refine aw_iconst (v := 0) hC dX12_isPlan_1 (by decide) ?_
  refine aw_aload_n hC dX12_isPlan_2 rfl ?_
  refine aw_getI hC dX12_isPlan_3 aF_X12_383 rfl (tg_44 hT) ?_
  rw [hp]
  refine aw_iconst (v := 1) hC dX12_isPlan_6 (by decide) ?_
  refine aw_isub hC dX12_isPlan_7 ?_
  refine kX12_169 hC rfl (m_X12_isIn x (0 : Int32) ((nI p) - 1)) dX12_isPlan_8 rfl a_le a_le a_le a_le a_le rfl aPure_x (aPure_k ?_)
  show AW X 0 0 11 [some (.ref 44), some (.int x)] [.int (bI (decide ((0 : Int32) ≤ x ∧ x ≤ ((nI p) - 1))))] T I J R
  exact aw_zreturn hC hq rfl (bI_01 _) dX12_isPlan_11 a_le a_le (aPure_i (by exact congrArg bI (decide_eq_decide.mpr (by rw [below1 (by omega)]))))
set_option maxRecDepth 100000 in
theorem m_X12_isName {T : List aT} {I : aI} {J : aJ} {R : aR} (hT : aPT T) (hR : aPR R) (x : Int32) {g : Nat} (hg : I 44 20 = nI g) (hg9 : g ≤ 4) : MX12_isName 0 0 [.ref 44, .int x] T I J R (aPure (some (.int (bI (decide (0 ≤ x ∧ x < nI (16 * g)))))) T I J R) := by
  refine a_met (by decide +kernel) a_le (fun X hC hq => ?_)
  show AW X 0 0 0 [some (.ref 44), some (.int x)] [] T I J R
  refine aw_iload_n hC dX12_isName_0 rfl ?_
  refine aw_iconst (v := 0) hC dX12_isName_1 (by decide) ?_
  refine aw_bipush (v := 16) hC dX12_isName_2 (by decide) ?_
  refine aw_aload_n hC dX12_isName_4 rfl ?_
  refine aw_getI hC dX12_isName_5 aF_X12_312 rfl (tg_44 hT) ?_
  rw [hg]
  refine aw_imul hC dX12_isName_8 ?_
  refine aw_iconst (v := 1) hC dX12_isName_9 (by decide) ?_
  refine aw_isub hC dX12_isName_10 ?_
  refine kX12_169 hC rfl (m_X12_isIn x (0 : Int32) ((16 * (nI g)) - 1)) dX12_isName_11 rfl a_le a_le a_le a_le a_le rfl aPure_x (aPure_k ?_)
  show AW X 0 0 14 [some (.ref 44), some (.int x)] [.int (bI (decide ((0 : Int32) ≤ x ∧ x ≤ ((16 * (nI g)) - 1))))] T I J R
  exact aw_zreturn hC hq rfl (bI_01 _) dX12_isName_14 a_le a_le (aPure_i (by exact congrArg bI (decide_eq_decide.mpr (by rw [show (16 : Int32) = nI 16 from rfl, nmul, below1 (by omega)]))))
set_option maxRecDepth 100000 in
theorem m_X12_generator {T : List aT} {I : aI} {J : aJ} {R : aR} (hT : aPT T) (hR : aPR R) (t : Int32) {g : Nat} (hg : I 44 20 = nI g) (hg9 : g ≤ 4) : MX12_generator 0 0 [.ref 44, .int t] T I J R (aPure (some (.int (if (0 ≤ t ∧ t ≤ 2) ∧ g ≠ 4 then nI g else 0))) T (if 0 ≤ t ∧ t ≤ 2 then (if g ≠ 4 then a_u (a_u (a_u I 44 61 0) 62 g t) 44 20 (nI (g + 1)) else a_u I 44 61 2) else a_u I 44 61 1) J R) := by
  refine a_met (by decide +kernel) a_le (fun X hC hq => ?_)
  show AW X 0 0 0 [some (.ref 44), some (.int t)] [] T I J R
  refine aw_aload_n hC dX12_generator_0 rfl ?_
  refine aw_iload_n hC dX12_generator_1 rfl ?_
  refine kX12_318 hC rfl (m_X12_isType t) dX12_generator_2 rfl a_le a_le a_le a_le a_le rfl aPure_x (aPure_k ?_)
  show AW X 0 0 5 [some (.ref 44), some (.int t)] [.int (bI (decide (0 ≤ t ∧ t ≤ 2))), .ref 44] T I J R
  refine aw_if_ne (tgt := 12) hC dX12_generator_5 (by decide) (fun h1 => ?_) (fun h1 => ?_)
  · show AW X 0 0 12 [some (.ref 44), some (.int t)] [.ref 44] T I J R
    refine aw_aload_n hC dX12_generator_12 rfl ?_
    refine aw_getI hC dX12_generator_13 aF_X12_312 rfl (tg_44 hT) ?_
    rw [hg]
    refine aw_iconst (v := 4) hC dX12_generator_16 (by decide) ?_
    refine aw_icmp_ne (tgt := 24) hC dX12_generator_17 (by decide) (fun h2 => ?_) (fun h2 => ?_)
    · show AW X 0 0 24 [some (.ref 44), some (.int t)] [.ref 44] T I J R
      have h2n : ¬ g = 4 := fun q9 => h2 ((nI_eq (a := g) (b := 4) (by omega) (by omega)).mpr q9)
      refine aw_iconst (v := 0) hC dX12_generator_24 (by decide) ?_
      refine aw_putI hC dX12_generator_25 aF_X12_166 rfl rfl (tg_44 hT) ?_
      refine aw_aload_n hC dX12_generator_28 rfl ?_
      refine aw_getI hC dX12_generator_29 aF_X12_166 rfl (tg_44 hT) ?_
      rw [a_u_self (f := I) (o := 44) (k := 61) (v := 0)]
      refine aw_if_le (tgt := 37) hC dX12_generator_32 (by decide) (fun _ => ?_) (fun h3 => absurd h3 (by decide))
      show AW X 0 0 37 [some (.ref 44), some (.int t)] [] T (a_u I 44 61 0) J R
      refine aw_aload_n hC dX12_generator_37 rfl ?_
      refine aw_getR hC dX12_generator_38 aF_X12_62 rfl (tg_44 hT) (pr_44_21 hR) ?_
      refine aw_aload_n hC dX12_generator_41 rfl ?_
      refine aw_getI hC dX12_generator_42 aF_X12_312 rfl (tg_44 hT) ?_
      rw [a_u_ne (f := I) (o := 44) (k := 61) (a := 44) (b := 20) (v := 0) (fun q => absurd q.2 (by decide))]
      rw [hg]
      refine aw_iload_n hC dX12_generator_45 rfl ?_
      refine aw_iastore_k (j := g) hC dX12_generator_46 (tg_62 hT) (nI_clamp (by omega)) (vp_in_nI (by omega) (by decide)) ?_
      refine aw_aload_n hC dX12_generator_47 rfl ?_
      refine aw_dup hC dX12_generator_48 rfl ?_
      refine aw_getI hC dX12_generator_49 aF_X12_312 rfl (tg_44 hT) ?_
      rw [a_u_ne (f := a_u I 44 61 0) (o := 62) (k := g) (a := 44) (b := 20) (v := t) (fun q => absurd q.1 (by decide))]
      rw [a_u_ne (f := I) (o := 44) (k := 61) (a := 44) (b := 20) (v := 0) (fun q => absurd q.2 (by decide))]
      rw [hg]
      refine aw_iconst (v := 1) hC dX12_generator_52 (by decide) ?_
      refine aw_iadd hC dX12_generator_53 ?_
      refine aw_putI hC dX12_generator_54 aF_X12_312 rfl rfl (tg_44 hT) ?_
      refine aw_aload_n hC dX12_generator_57 rfl ?_
      refine aw_getI hC dX12_generator_58 aF_X12_312 rfl (tg_44 hT) ?_
      rw [a_u_self (f := a_u (a_u I 44 61 0) 62 g t) (o := 44) (k := 20) (v := (nI g) + 1)]
      refine aw_iconst (v := 1) hC dX12_generator_61 (by decide) ?_
      refine aw_isub hC dX12_generator_62 ?_
      exact aw_ireturn hC hq rfl dX12_generator_63 a_le a_le (aPure_e (by clear hC hq; (try simp only [bI_e0, bI_n0, decide_eq_false_iff_not, decide_eq_true_eq, Classical.not_not] at *) <;> first | grind [nI_p1, a_u_2] | (exfalso; (simp only [i_le, i_lt, i_eq, Int32.reduceToInt] at *); omega)) (by clear hC hq; (try simp only [bI_e0, bI_n0, decide_eq_false_iff_not, decide_eq_true_eq, Classical.not_not] at *) <;> first | grind [nI_p1, a_u_2] | (exfalso; (simp only [i_le, i_lt, i_eq, Int32.reduceToInt] at *); omega)) rfl rfl)
    · show AW X 0 0 20 [some (.ref 44), some (.int t)] [.ref 44] T I J R
      have h2n : g = 4 := (nI_eq (a := g) (b := 4) (by omega) (by omega)).mp h2
      refine aw_iconst (v := 2) hC dX12_generator_20 (by decide) ?_
      refine aw_goto (tgt := 25) hC dX12_generator_21 (by decide) ?_
      refine aw_putI hC dX12_generator_25 aF_X12_166 rfl rfl (tg_44 hT) ?_
      refine aw_aload_n hC dX12_generator_28 rfl ?_
      refine aw_getI hC dX12_generator_29 aF_X12_166 rfl (tg_44 hT) ?_
      rw [a_u_self (f := I) (o := 44) (k := 61) (v := 2)]
      refine aw_if_le (tgt := 37) hC dX12_generator_32 (by decide) (fun h4 => absurd h4 (by decide)) (fun _ => ?_)
      show AW X 0 0 35 [some (.ref 44), some (.int t)] [] T (a_u I 44 61 2) J R
      refine aw_iconst (v := 0) hC dX12_generator_35 (by decide) ?_
      exact aw_ireturn hC hq rfl dX12_generator_36 a_le a_le (aPure_e (by clear hC hq; (try simp only [bI_e0, bI_n0, decide_eq_false_iff_not, decide_eq_true_eq, Classical.not_not] at *) <;> first | grind [nI_p1, a_u_2] | (exfalso; (simp only [i_le, i_lt, i_eq, Int32.reduceToInt] at *); omega)) (by clear hC hq; (try simp only [bI_e0, bI_n0, decide_eq_false_iff_not, decide_eq_true_eq, Classical.not_not] at *) <;> first | grind [nI_p1, a_u_2] | (exfalso; (simp only [i_le, i_lt, i_eq, Int32.reduceToInt] at *); omega)) rfl rfl)
  · show AW X 0 0 8 [some (.ref 44), some (.int t)] [.ref 44] T I J R
    refine aw_iconst (v := 1) hC dX12_generator_8 (by decide) ?_
    refine aw_goto (tgt := 25) hC dX12_generator_9 (by decide) ?_
    refine aw_putI hC dX12_generator_25 aF_X12_166 rfl rfl (tg_44 hT) ?_
    refine aw_aload_n hC dX12_generator_28 rfl ?_
    refine aw_getI hC dX12_generator_29 aF_X12_166 rfl (tg_44 hT) ?_
    rw [a_u_self (f := I) (o := 44) (k := 61) (v := 1)]
    refine aw_if_le (tgt := 37) hC dX12_generator_32 (by decide) (fun h5 => absurd h5 (by decide)) (fun _ => ?_)
    show AW X 0 0 35 [some (.ref 44), some (.int t)] [] T (a_u I 44 61 1) J R
    refine aw_iconst (v := 0) hC dX12_generator_35 (by decide) ?_
    exact aw_ireturn hC hq rfl dX12_generator_36 a_le a_le (aPure_e (by clear hC hq; (try simp only [bI_e0, bI_n0, decide_eq_false_iff_not, decide_eq_true_eq, Classical.not_not] at *) <;> first | grind [nI_p1, a_u_2] | (exfalso; (simp only [i_le, i_lt, i_eq, Int32.reduceToInt] at *); omega)) (by clear hC hq; (try simp only [bI_e0, bI_n0, decide_eq_false_iff_not, decide_eq_true_eq, Classical.not_not] at *) <;> first | grind [nI_p1, a_u_2] | (exfalso; (simp only [i_le, i_lt, i_eq, Int32.reduceToInt] at *); omega)) rfl rfl)
set_option maxRecDepth 100000 in
theorem m_X12_make {T : List aT} {I : aI} {J : aJ} {R : aR} (hT : aPT T) (hR : aPR R) (t : Int32) {r : Nat} (hr : I 44 25 = nI r) (hr9 : r ≤ 60) : MX12_make 0 0 [.ref 44, .int t] T I J R (aPure (some (.int (if (0 ≤ t ∧ t ≤ 2) ∧ r ≠ 60 then nI r else 0))) T (if 0 ≤ t ∧ t ≤ 2 then (if r ≠ 60 then a_u (a_u (a_u I 44 61 0) 66 r t) 44 25 (nI (r + 1)) else a_u I 44 61 2) else a_u I 44 61 1) J R) := by
  refine a_met (by decide +kernel) a_le (fun X hC hq => ?_)
  show AW X 0 0 0 [some (.ref 44), some (.int t)] [] T I J R
  refine aw_aload_n hC dX12_make_0 rfl ?_
  refine aw_iload_n hC dX12_make_1 rfl ?_
  refine kX12_318 hC rfl (m_X12_isType t) dX12_make_2 rfl a_le a_le a_le a_le a_le rfl aPure_x (aPure_k ?_)
  show AW X 0 0 5 [some (.ref 44), some (.int t)] [.int (bI (decide (0 ≤ t ∧ t ≤ 2))), .ref 44] T I J R
  refine aw_if_ne (tgt := 12) hC dX12_make_5 (by decide) (fun h1 => ?_) (fun h1 => ?_)
  · show AW X 0 0 12 [some (.ref 44), some (.int t)] [.ref 44] T I J R
    refine aw_aload_n hC dX12_make_12 rfl ?_
    refine aw_getI hC dX12_make_13 aF_X12_315 rfl (tg_44 hT) ?_
    rw [hr]
    refine aw_bipush (v := 60) hC dX12_make_16 (by decide) ?_
    refine aw_icmp_ne (tgt := 25) hC dX12_make_18 (by decide) (fun h2 => ?_) (fun h2 => ?_)
    · show AW X 0 0 25 [some (.ref 44), some (.int t)] [.ref 44] T I J R
      have h2n : ¬ r = 60 := fun q9 => h2 ((nI_eq (a := r) (b := 60) (by omega) (by omega)).mpr q9)
      refine aw_iconst (v := 0) hC dX12_make_25 (by decide) ?_
      refine aw_putI hC dX12_make_26 aF_X12_166 rfl rfl (tg_44 hT) ?_
      refine aw_aload_n hC dX12_make_29 rfl ?_
      refine aw_getI hC dX12_make_30 aF_X12_166 rfl (tg_44 hT) ?_
      rw [a_u_self (f := I) (o := 44) (k := 61) (v := 0)]
      refine aw_if_le (tgt := 38) hC dX12_make_33 (by decide) (fun _ => ?_) (fun h3 => absurd h3 (by decide))
      show AW X 0 0 38 [some (.ref 44), some (.int t)] [] T (a_u I 44 61 0) J R
      refine aw_aload_n hC dX12_make_38 rfl ?_
      refine aw_getR hC dX12_make_39 aF_X12_74 rfl (tg_44 hT) (pr_44_26 hR) ?_
      refine aw_aload_n hC dX12_make_42 rfl ?_
      refine aw_getI hC dX12_make_43 aF_X12_315 rfl (tg_44 hT) ?_
      rw [a_u_ne (f := I) (o := 44) (k := 61) (a := 44) (b := 25) (v := 0) (fun q => absurd q.2 (by decide))]
      rw [hr]
      refine aw_iload_n hC dX12_make_46 rfl ?_
      refine aw_iastore_k (j := r) hC dX12_make_47 (tg_66 hT) (nI_clamp (by omega)) (vp_in_nI (by omega) (by decide)) ?_
      refine aw_aload_n hC dX12_make_48 rfl ?_
      refine aw_dup hC dX12_make_49 rfl ?_
      refine aw_getI hC dX12_make_50 aF_X12_315 rfl (tg_44 hT) ?_
      rw [a_u_ne (f := a_u I 44 61 0) (o := 66) (k := r) (a := 44) (b := 25) (v := t) (fun q => absurd q.1 (by decide))]
      rw [a_u_ne (f := I) (o := 44) (k := 61) (a := 44) (b := 25) (v := 0) (fun q => absurd q.2 (by decide))]
      rw [hr]
      refine aw_iconst (v := 1) hC dX12_make_53 (by decide) ?_
      refine aw_iadd hC dX12_make_54 ?_
      refine aw_putI hC dX12_make_55 aF_X12_315 rfl rfl (tg_44 hT) ?_
      refine aw_aload_n hC dX12_make_58 rfl ?_
      refine aw_getI hC dX12_make_59 aF_X12_315 rfl (tg_44 hT) ?_
      rw [a_u_self (f := a_u (a_u I 44 61 0) 66 r t) (o := 44) (k := 25) (v := (nI r) + 1)]
      refine aw_iconst (v := 1) hC dX12_make_62 (by decide) ?_
      refine aw_isub hC dX12_make_63 ?_
      exact aw_ireturn hC hq rfl dX12_make_64 a_le a_le (aPure_e (by clear hC hq; (try simp only [bI_e0, bI_n0, decide_eq_false_iff_not, decide_eq_true_eq, Classical.not_not] at *) <;> first | grind [nI_p1, a_u_2] | (exfalso; (simp only [i_le, i_lt, i_eq, Int32.reduceToInt] at *); omega)) (by clear hC hq; (try simp only [bI_e0, bI_n0, decide_eq_false_iff_not, decide_eq_true_eq, Classical.not_not] at *) <;> first | grind [nI_p1, a_u_2] | (exfalso; (simp only [i_le, i_lt, i_eq, Int32.reduceToInt] at *); omega)) rfl rfl)
    · show AW X 0 0 21 [some (.ref 44), some (.int t)] [.ref 44] T I J R
      have h2n : r = 60 := (nI_eq (a := r) (b := 60) (by omega) (by omega)).mp h2
      refine aw_iconst (v := 2) hC dX12_make_21 (by decide) ?_
      refine aw_goto (tgt := 26) hC dX12_make_22 (by decide) ?_
      refine aw_putI hC dX12_make_26 aF_X12_166 rfl rfl (tg_44 hT) ?_
      refine aw_aload_n hC dX12_make_29 rfl ?_
      refine aw_getI hC dX12_make_30 aF_X12_166 rfl (tg_44 hT) ?_
      rw [a_u_self (f := I) (o := 44) (k := 61) (v := 2)]
      refine aw_if_le (tgt := 38) hC dX12_make_33 (by decide) (fun h4 => absurd h4 (by decide)) (fun _ => ?_)
      show AW X 0 0 36 [some (.ref 44), some (.int t)] [] T (a_u I 44 61 2) J R
      refine aw_iconst (v := 0) hC dX12_make_36 (by decide) ?_
      exact aw_ireturn hC hq rfl dX12_make_37 a_le a_le (aPure_e (by clear hC hq; (try simp only [bI_e0, bI_n0, decide_eq_false_iff_not, decide_eq_true_eq, Classical.not_not] at *) <;> first | grind [nI_p1, a_u_2] | (exfalso; (simp only [i_le, i_lt, i_eq, Int32.reduceToInt] at *); omega)) (by clear hC hq; (try simp only [bI_e0, bI_n0, decide_eq_false_iff_not, decide_eq_true_eq, Classical.not_not] at *) <;> first | grind [nI_p1, a_u_2] | (exfalso; (simp only [i_le, i_lt, i_eq, Int32.reduceToInt] at *); omega)) rfl rfl)
  · show AW X 0 0 8 [some (.ref 44), some (.int t)] [.ref 44] T I J R
    refine aw_iconst (v := 1) hC dX12_make_8 (by decide) ?_
    refine aw_goto (tgt := 26) hC dX12_make_9 (by decide) ?_
    refine aw_putI hC dX12_make_26 aF_X12_166 rfl rfl (tg_44 hT) ?_
    refine aw_aload_n hC dX12_make_29 rfl ?_
    refine aw_getI hC dX12_make_30 aF_X12_166 rfl (tg_44 hT) ?_
    rw [a_u_self (f := I) (o := 44) (k := 61) (v := 1)]
    refine aw_if_le (tgt := 38) hC dX12_make_33 (by decide) (fun h5 => absurd h5 (by decide)) (fun _ => ?_)
    show AW X 0 0 36 [some (.ref 44), some (.int t)] [] T (a_u I 44 61 1) J R
    refine aw_iconst (v := 0) hC dX12_make_36 (by decide) ?_
    exact aw_ireturn hC hq rfl dX12_make_37 a_le a_le (aPure_e (by clear hC hq; (try simp only [bI_e0, bI_n0, decide_eq_false_iff_not, decide_eq_true_eq, Classical.not_not] at *) <;> first | grind [nI_p1, a_u_2] | (exfalso; (simp only [i_le, i_lt, i_eq, Int32.reduceToInt] at *); omega)) (by clear hC hq; (try simp only [bI_e0, bI_n0, decide_eq_false_iff_not, decide_eq_true_eq, Classical.not_not] at *) <;> first | grind [nI_p1, a_u_2] | (exfalso; (simp only [i_le, i_lt, i_eq, Int32.reduceToInt] at *); omega)) rfl rfl)
set_option maxRecDepth 100000 in
theorem m_X12_resources {T : List aT} {I : aI} {J : aJ} {R : aR} (hT : aPT T) (hR : aPR R) : MX12_resources 0 0 [.ref 44] T I J R (aPure (some (.int (I 44 25))) T (a_u I 44 61 0) J R) := by
  refine a_met (by decide +kernel) a_le (fun X hC hq => ?_)
  show AW X 0 0 0 [some (.ref 44)] [] T I J R
  refine aw_aload_n hC dX12_resources_0 rfl ?_
  refine aw_iconst (v := 0) hC dX12_resources_1 (by decide) ?_
  refine aw_putI hC dX12_resources_2 aF_X12_166 rfl rfl (tg_44 hT) ?_
  refine aw_aload_n hC dX12_resources_5 rfl ?_
  refine aw_getI hC dX12_resources_6 aF_X12_315 rfl (tg_44 hT) ?_
  rw [a_u_ne (f := I) (o := 44) (k := 61) (a := 44) (b := 25) (v := 0) (fun q => absurd q.2 (by decide))]
  exact aw_ireturn hC hq rfl dX12_resources_9 a_le a_le (aPure_e (by clear hC hq; (try simp only [bI_e0, bI_n0, decide_eq_false_iff_not, decide_eq_true_eq, Classical.not_not] at *) <;> first | grind [nI_p1, a_u_2] | (exfalso; (simp only [i_le, i_lt, i_eq, Int32.reduceToInt] at *); omega)) (by clear hC hq; (try simp only [bI_e0, bI_n0, decide_eq_false_iff_not, decide_eq_true_eq, Classical.not_not] at *) <;> first | grind [nI_p1, a_u_2] | (exfalso; (simp only [i_le, i_lt, i_eq, Int32.reduceToInt] at *); omega)) rfl rfl)
set_option maxRecDepth 100000 in
theorem m_X12_serial {T : List aT} {I : aI} {J : aJ} {R : aR} (hT : aPT T) (hR : aPR R) : MX12_serial 0 0 [.ref 44] T I J R (aPure (some (.int (I 44 35))) T (a_u I 44 61 0) J R) := by
  refine a_met (by decide +kernel) a_le (fun X hC hq => ?_)
  show AW X 0 0 0 [some (.ref 44)] [] T I J R
  refine aw_aload_n hC dX12_serial_0 rfl ?_
  refine aw_iconst (v := 0) hC dX12_serial_1 (by decide) ?_
  refine aw_putI hC dX12_serial_2 aF_X12_166 rfl rfl (tg_44 hT) ?_
  refine aw_aload_n hC dX12_serial_5 rfl ?_
  refine aw_getI hC dX12_serial_6 aF_X12_343 rfl (tg_44 hT) ?_
  rw [a_u_ne (f := I) (o := 44) (k := 61) (a := 44) (b := 35) (v := 0) (fun q => absurd q.2 (by decide))]
  exact aw_ireturn hC hq rfl dX12_serial_9 a_le a_le (aPure_e (by clear hC hq; (try simp only [bI_e0, bI_n0, decide_eq_false_iff_not, decide_eq_true_eq, Classical.not_not] at *) <;> first | grind [nI_p1, a_u_2] | (exfalso; (simp only [i_le, i_lt, i_eq, Int32.reduceToInt] at *); omega)) (by clear hC hq; (try simp only [bI_e0, bI_n0, decide_eq_false_iff_not, decide_eq_true_eq, Classical.not_not] at *) <;> first | grind [nI_p1, a_u_2] | (exfalso; (simp only [i_le, i_lt, i_eq, Int32.reduceToInt] at *); omega)) rfl rfl)
set_option maxRecDepth 100000 in
theorem m_X12_isApplying {T : List aT} {I : aI} {J : aJ} {R : aR} (hT : aPT T) (hR : aPR R) : MX12_isApplying 0 0 [.ref 44] T I J R (aPure (some (.int (bI (decide (0 ≤ I 44 43))))) T (a_u I 44 61 0) J R) := by
  refine a_met (by decide +kernel) a_le (fun X hC hq => ?_)
  show AW X 0 0 0 [some (.ref 44)] [] T I J R
  refine aw_aload_n hC dX12_isApplying_0 rfl ?_
  refine aw_iconst (v := 0) hC dX12_isApplying_1 (by decide) ?_
  refine aw_putI hC dX12_isApplying_2 aF_X12_166 rfl rfl (tg_44 hT) ?_
  refine aw_aload_n hC dX12_isApplying_5 rfl ?_
  refine aw_getI hC dX12_isApplying_6 aF_X12_119 rfl (tg_44 hT) ?_
  rw [a_u_ne (f := I) (o := 44) (k := 61) (a := 44) (b := 43) (v := 0) (fun q => absurd q.2 (by decide))]
  refine aw_if_lt (tgt := 16) hC dX12_isApplying_9 (by decide) (fun h1 => ?_) (fun h1 => ?_)
  · show AW X 0 0 16 [some (.ref 44)] [] T (a_u I 44 61 0) J R
    refine aw_iconst (v := 0) hC dX12_isApplying_16 (by decide) ?_
    exact aw_zreturn hC hq rfl (Or.inl rfl) dX12_isApplying_17 a_le a_le (aPure_e (by unfold bI; clear hC hq; (try simp only [bI_e0, bI_n0, decide_eq_false_iff_not, decide_eq_true_eq, Classical.not_not] at *) <;> first | grind [nI_p1, a_u_2] | (exfalso; (simp only [i_le, i_lt, i_eq, Int32.reduceToInt] at *); omega)) (by clear hC hq; (try simp only [bI_e0, bI_n0, decide_eq_false_iff_not, decide_eq_true_eq, Classical.not_not] at *) <;> first | grind [nI_p1, a_u_2] | (exfalso; (simp only [i_le, i_lt, i_eq, Int32.reduceToInt] at *); omega)) rfl rfl)
  · show AW X 0 0 12 [some (.ref 44)] [] T (a_u I 44 61 0) J R
    refine aw_iconst (v := 1) hC dX12_isApplying_12 (by decide) ?_
    refine aw_goto (tgt := 17) hC dX12_isApplying_13 (by decide) ?_
    exact aw_zreturn hC hq rfl (Or.inr rfl) dX12_isApplying_17 a_le a_le (aPure_e (by unfold bI; clear hC hq; (try simp only [bI_e0, bI_n0, decide_eq_false_iff_not, decide_eq_true_eq, Classical.not_not] at *) <;> first | grind [nI_p1, a_u_2] | (exfalso; (simp only [i_le, i_lt, i_eq, Int32.reduceToInt] at *); omega)) (by clear hC hq; (try simp only [bI_e0, bI_n0, decide_eq_false_iff_not, decide_eq_true_eq, Classical.not_not] at *) <;> first | grind [nI_p1, a_u_2] | (exfalso; (simp only [i_le, i_lt, i_eq, Int32.reduceToInt] at *); omega)) rfl rfl)
set_option maxRecDepth 100000 in
theorem m_X12_isLocked {T : List aT} {I : aI} {J : aJ} {R : aR} (hT : aPT T) (hR : aPR R) : MX12_isLocked 0 0 [.ref 44] T I J R (aPure (some (.int (bI (decide (0 ≤ I 44 45))))) T (a_u I 44 61 0) J R) := by
  refine a_met (by decide +kernel) a_le (fun X hC hq => ?_)
  show AW X 0 0 0 [some (.ref 44)] [] T I J R
  refine aw_aload_n hC dX12_isLocked_0 rfl ?_
  refine aw_iconst (v := 0) hC dX12_isLocked_1 (by decide) ?_
  refine aw_putI hC dX12_isLocked_2 aF_X12_166 rfl rfl (tg_44 hT) ?_
  refine aw_aload_n hC dX12_isLocked_5 rfl ?_
  refine aw_getI hC dX12_isLocked_6 aF_X12_123 rfl (tg_44 hT) ?_
  rw [a_u_ne (f := I) (o := 44) (k := 61) (a := 44) (b := 45) (v := 0) (fun q => absurd q.2 (by decide))]
  refine aw_if_lt (tgt := 16) hC dX12_isLocked_9 (by decide) (fun h1 => ?_) (fun h1 => ?_)
  · show AW X 0 0 16 [some (.ref 44)] [] T (a_u I 44 61 0) J R
    refine aw_iconst (v := 0) hC dX12_isLocked_16 (by decide) ?_
    exact aw_zreturn hC hq rfl (Or.inl rfl) dX12_isLocked_17 a_le a_le (aPure_e (by unfold bI; clear hC hq; (try simp only [bI_e0, bI_n0, decide_eq_false_iff_not, decide_eq_true_eq, Classical.not_not] at *) <;> first | grind [nI_p1, a_u_2] | (exfalso; (simp only [i_le, i_lt, i_eq, Int32.reduceToInt] at *); omega)) (by clear hC hq; (try simp only [bI_e0, bI_n0, decide_eq_false_iff_not, decide_eq_true_eq, Classical.not_not] at *) <;> first | grind [nI_p1, a_u_2] | (exfalso; (simp only [i_le, i_lt, i_eq, Int32.reduceToInt] at *); omega)) rfl rfl)
  · show AW X 0 0 12 [some (.ref 44)] [] T (a_u I 44 61 0) J R
    refine aw_iconst (v := 1) hC dX12_isLocked_12 (by decide) ?_
    refine aw_goto (tgt := 17) hC dX12_isLocked_13 (by decide) ?_
    exact aw_zreturn hC hq rfl (Or.inr rfl) dX12_isLocked_17 a_le a_le (aPure_e (by unfold bI; clear hC hq; (try simp only [bI_e0, bI_n0, decide_eq_false_iff_not, decide_eq_true_eq, Classical.not_not] at *) <;> first | grind [nI_p1, a_u_2] | (exfalso; (simp only [i_le, i_lt, i_eq, Int32.reduceToInt] at *); omega)) (by clear hC hq; (try simp only [bI_e0, bI_n0, decide_eq_false_iff_not, decide_eq_true_eq, Classical.not_not] at *) <;> first | grind [nI_p1, a_u_2] | (exfalso; (simp only [i_le, i_lt, i_eq, Int32.reduceToInt] at *); omega)) rfl rfl)
set_option maxRecDepth 100000 in
theorem m_X12_asksFieldT {T : List aT} {I : aI} {J : aJ} {R : aR} (hT : aPT T) (hR : aPR R) (f : Int32)  (hc : (0 ≤ f ∧ f ≤ 9)) : MX12_asksField 0 0 [.ref 44, .int f] T I J R (aPure (some (.int (1))) T (a_u I 44 61 0) J R) := by
  refine a_met (by decide +kernel) a_le (fun X hC hq => ?_)
  show AW X 0 0 0 [some (.ref 44), some (.int f)] [] T I J R
  refine aw_aload_n hC dX12_asksField_0 rfl ?_
  refine aw_iload_n hC dX12_asksField_1 rfl ?_
  refine kX12_173 hC rfl (m_X12_isField f) dX12_asksField_2 rfl a_le a_le a_le a_le a_le rfl aPure_x (aPure_k ?_)
  show AW X 0 0 5 [some (.ref 44), some (.int f)] [.int (bI (decide (0 ≤ f ∧ f ≤ 9))), .ref 44] T I J R
  refine aw_if_eq (tgt := 12) hC dX12_asksField_5 (by decide) (fun h1 => ?_) (fun h1 => ?_)
  · show AW X 0 0 12 [some (.ref 44), some (.int f)] [.ref 44] T I J R
    refine aw_iconst (v := 1) hC dX12_asksField_12 (by decide) ?_
    refine aw_putI hC dX12_asksField_13 aF_X12_166 rfl rfl (tg_44 hT) ?_
    refine aw_aload_n hC dX12_asksField_16 rfl ?_
    refine aw_getI hC dX12_asksField_17 aF_X12_166 rfl (tg_44 hT) ?_
    rw [a_u_self (f := I) (o := 44) (k := 61) (v := 1)]
    refine aw_if_ne (tgt := 27) hC dX12_asksField_20 (by decide) (fun _ => ?_) (fun h2 => absurd h2 (by decide))
    show AW X 0 0 27 [some (.ref 44), some (.int f)] [] T (a_u I 44 61 1) J R
    refine aw_iconst (v := 0) hC dX12_asksField_27 (by decide) ?_
    exact aw_zreturn hC hq rfl (Or.inl rfl) dX12_asksField_28 a_le a_le (aPure_e (by clear hC hq; (try simp only [bI_e0, bI_n0, decide_eq_false_iff_not, decide_eq_true_eq, Classical.not_not] at *) <;> first | grind [nI_p1, a_u_2] | (exfalso; (simp only [i_le, i_lt, i_eq, Int32.reduceToInt] at *); omega)) (by clear hC hq; (try simp only [bI_e0, bI_n0, decide_eq_false_iff_not, decide_eq_true_eq, Classical.not_not] at *) <;> first | grind [nI_p1, a_u_2] | (exfalso; (simp only [i_le, i_lt, i_eq, Int32.reduceToInt] at *); omega)) rfl rfl)
  · show AW X 0 0 8 [some (.ref 44), some (.int f)] [.ref 44] T I J R
    refine aw_iconst (v := 0) hC dX12_asksField_8 (by decide) ?_
    refine aw_goto (tgt := 13) hC dX12_asksField_9 (by decide) ?_
    refine aw_putI hC dX12_asksField_13 aF_X12_166 rfl rfl (tg_44 hT) ?_
    refine aw_aload_n hC dX12_asksField_16 rfl ?_
    refine aw_getI hC dX12_asksField_17 aF_X12_166 rfl (tg_44 hT) ?_
    rw [a_u_self (f := I) (o := 44) (k := 61) (v := 0)]
    refine aw_if_ne (tgt := 27) hC dX12_asksField_20 (by decide) (fun h3 => absurd h3 (by decide)) (fun _ => ?_)
    show AW X 0 0 23 [some (.ref 44), some (.int f)] [] T (a_u I 44 61 0) J R
    refine aw_iconst (v := 1) hC dX12_asksField_23 (by decide) ?_
    refine aw_goto (tgt := 28) hC dX12_asksField_24 (by decide) ?_
    exact aw_zreturn hC hq rfl (Or.inr rfl) dX12_asksField_28 a_le a_le (aPure_e (by clear hC hq; (try simp only [bI_e0, bI_n0, decide_eq_false_iff_not, decide_eq_true_eq, Classical.not_not] at *) <;> first | grind [nI_p1, a_u_2] | (exfalso; (simp only [i_le, i_lt, i_eq, Int32.reduceToInt] at *); omega)) (by clear hC hq; (try simp only [bI_e0, bI_n0, decide_eq_false_iff_not, decide_eq_true_eq, Classical.not_not] at *) <;> first | grind [nI_p1, a_u_2] | (exfalso; (simp only [i_le, i_lt, i_eq, Int32.reduceToInt] at *); omega)) rfl rfl)
set_option maxRecDepth 100000 in
theorem m_X12_asksFieldF {T : List aT} {I : aI} {J : aJ} {R : aR} (hT : aPT T) (hR : aPR R) (f : Int32)  (hc : ¬ (0 ≤ f ∧ f ≤ 9)) : MX12_asksField 0 0 [.ref 44, .int f] T I J R (aPure (some (.int (0))) T (a_u I 44 61 1) J R) := by
  refine a_met (by decide +kernel) a_le (fun X hC hq => ?_)
  show AW X 0 0 0 [some (.ref 44), some (.int f)] [] T I J R
  refine aw_aload_n hC dX12_asksField_0 rfl ?_
  refine aw_iload_n hC dX12_asksField_1 rfl ?_
  refine kX12_173 hC rfl (m_X12_isField f) dX12_asksField_2 rfl a_le a_le a_le a_le a_le rfl aPure_x (aPure_k ?_)
  show AW X 0 0 5 [some (.ref 44), some (.int f)] [.int (bI (decide (0 ≤ f ∧ f ≤ 9))), .ref 44] T I J R
  refine aw_if_eq (tgt := 12) hC dX12_asksField_5 (by decide) (fun h1 => ?_) (fun h1 => ?_)
  · show AW X 0 0 12 [some (.ref 44), some (.int f)] [.ref 44] T I J R
    refine aw_iconst (v := 1) hC dX12_asksField_12 (by decide) ?_
    refine aw_putI hC dX12_asksField_13 aF_X12_166 rfl rfl (tg_44 hT) ?_
    refine aw_aload_n hC dX12_asksField_16 rfl ?_
    refine aw_getI hC dX12_asksField_17 aF_X12_166 rfl (tg_44 hT) ?_
    rw [a_u_self (f := I) (o := 44) (k := 61) (v := 1)]
    refine aw_if_ne (tgt := 27) hC dX12_asksField_20 (by decide) (fun _ => ?_) (fun h2 => absurd h2 (by decide))
    show AW X 0 0 27 [some (.ref 44), some (.int f)] [] T (a_u I 44 61 1) J R
    refine aw_iconst (v := 0) hC dX12_asksField_27 (by decide) ?_
    exact aw_zreturn hC hq rfl (Or.inl rfl) dX12_asksField_28 a_le a_le (aPure_e (by clear hC hq; (try simp only [bI_e0, bI_n0, decide_eq_false_iff_not, decide_eq_true_eq, Classical.not_not] at *) <;> first | grind [nI_p1, a_u_2] | (exfalso; (simp only [i_le, i_lt, i_eq, Int32.reduceToInt] at *); omega)) (by clear hC hq; (try simp only [bI_e0, bI_n0, decide_eq_false_iff_not, decide_eq_true_eq, Classical.not_not] at *) <;> first | grind [nI_p1, a_u_2] | (exfalso; (simp only [i_le, i_lt, i_eq, Int32.reduceToInt] at *); omega)) rfl rfl)
  · show AW X 0 0 8 [some (.ref 44), some (.int f)] [.ref 44] T I J R
    refine aw_iconst (v := 0) hC dX12_asksField_8 (by decide) ?_
    refine aw_goto (tgt := 13) hC dX12_asksField_9 (by decide) ?_
    refine aw_putI hC dX12_asksField_13 aF_X12_166 rfl rfl (tg_44 hT) ?_
    refine aw_aload_n hC dX12_asksField_16 rfl ?_
    refine aw_getI hC dX12_asksField_17 aF_X12_166 rfl (tg_44 hT) ?_
    rw [a_u_self (f := I) (o := 44) (k := 61) (v := 0)]
    refine aw_if_ne (tgt := 27) hC dX12_asksField_20 (by decide) (fun h3 => absurd h3 (by decide)) (fun _ => ?_)
    show AW X 0 0 23 [some (.ref 44), some (.int f)] [] T (a_u I 44 61 0) J R
    refine aw_iconst (v := 1) hC dX12_asksField_23 (by decide) ?_
    refine aw_goto (tgt := 28) hC dX12_asksField_24 (by decide) ?_
    exact aw_zreturn hC hq rfl (Or.inr rfl) dX12_asksField_28 a_le a_le (aPure_e (by clear hC hq; (try simp only [bI_e0, bI_n0, decide_eq_false_iff_not, decide_eq_true_eq, Classical.not_not] at *) <;> first | grind [nI_p1, a_u_2] | (exfalso; (simp only [i_le, i_lt, i_eq, Int32.reduceToInt] at *); omega)) (by clear hC hq; (try simp only [bI_e0, bI_n0, decide_eq_false_iff_not, decide_eq_true_eq, Classical.not_not] at *) <;> first | grind [nI_p1, a_u_2] | (exfalso; (simp only [i_le, i_lt, i_eq, Int32.reduceToInt] at *); omega)) rfl rfl)
set_option maxRecDepth 100000 in
theorem m_X12_asksNameT {T : List aT} {I : aI} {J : aJ} {R : aR} (hT : aPT T) (hR : aPR R) (f : Int32) {g : Nat} (hg : I 44 20 = nI g) (hg9 : g ≤ 4) (hc : (0 ≤ f ∧ f < nI (16 * g))) : MX12_asksName 0 0 [.ref 44, .int f] T I J R (aPure (some (.int (1))) T (a_u I 44 61 0) J R) := by
  refine a_met (by decide +kernel) a_le (fun X hC hq => ?_)
  show AW X 0 0 0 [some (.ref 44), some (.int f)] [] T I J R
  refine aw_aload_n hC dX12_asksName_0 rfl ?_
  refine aw_aload_n hC dX12_asksName_1 rfl ?_
  refine aw_iload_n hC dX12_asksName_2 rfl ?_
  refine kX12_374 hC rfl (m_X12_isName hT hR f (g := g) (by assumption) (by omega)) dX12_asksName_3 (tg_44 hT) rfl a_le a_le a_le a_le a_le rfl aPure_x (aPure_k ?_)
  show AW X 0 0 6 [some (.ref 44), some (.int f)] [.int (bI (decide (0 ≤ f ∧ f < nI (16 * g)))), .ref 44] T I J R
  refine aw_if_eq (tgt := 13) hC dX12_asksName_6 (by decide) (fun h1 => ?_) (fun h1 => ?_)
  · show AW X 0 0 13 [some (.ref 44), some (.int f)] [.ref 44] T I J R
    refine aw_iconst (v := 1) hC dX12_asksName_13 (by decide) ?_
    refine aw_putI hC dX12_asksName_14 aF_X12_166 rfl rfl (tg_44 hT) ?_
    refine aw_aload_n hC dX12_asksName_17 rfl ?_
    refine aw_getI hC dX12_asksName_18 aF_X12_166 rfl (tg_44 hT) ?_
    rw [a_u_self (f := I) (o := 44) (k := 61) (v := 1)]
    refine aw_if_ne (tgt := 28) hC dX12_asksName_21 (by decide) (fun _ => ?_) (fun h2 => absurd h2 (by decide))
    show AW X 0 0 28 [some (.ref 44), some (.int f)] [] T (a_u I 44 61 1) J R
    refine aw_iconst (v := 0) hC dX12_asksName_28 (by decide) ?_
    exact aw_zreturn hC hq rfl (Or.inl rfl) dX12_asksName_29 a_le a_le (aPure_e (by clear hC hq; (try simp only [bI_e0, bI_n0, decide_eq_false_iff_not, decide_eq_true_eq, Classical.not_not] at *) <;> first | grind [nI_p1, a_u_2] | (exfalso; (simp only [i_le, i_lt, i_eq, Int32.reduceToInt] at *); omega)) (by clear hC hq; (try simp only [bI_e0, bI_n0, decide_eq_false_iff_not, decide_eq_true_eq, Classical.not_not] at *) <;> first | grind [nI_p1, a_u_2] | (exfalso; (simp only [i_le, i_lt, i_eq, Int32.reduceToInt] at *); omega)) rfl rfl)
  · show AW X 0 0 9 [some (.ref 44), some (.int f)] [.ref 44] T I J R
    refine aw_iconst (v := 0) hC dX12_asksName_9 (by decide) ?_
    refine aw_goto (tgt := 14) hC dX12_asksName_10 (by decide) ?_
    refine aw_putI hC dX12_asksName_14 aF_X12_166 rfl rfl (tg_44 hT) ?_
    refine aw_aload_n hC dX12_asksName_17 rfl ?_
    refine aw_getI hC dX12_asksName_18 aF_X12_166 rfl (tg_44 hT) ?_
    rw [a_u_self (f := I) (o := 44) (k := 61) (v := 0)]
    refine aw_if_ne (tgt := 28) hC dX12_asksName_21 (by decide) (fun h3 => absurd h3 (by decide)) (fun _ => ?_)
    show AW X 0 0 24 [some (.ref 44), some (.int f)] [] T (a_u I 44 61 0) J R
    refine aw_iconst (v := 1) hC dX12_asksName_24 (by decide) ?_
    refine aw_goto (tgt := 29) hC dX12_asksName_25 (by decide) ?_
    exact aw_zreturn hC hq rfl (Or.inr rfl) dX12_asksName_29 a_le a_le (aPure_e (by clear hC hq; (try simp only [bI_e0, bI_n0, decide_eq_false_iff_not, decide_eq_true_eq, Classical.not_not] at *) <;> first | grind [nI_p1, a_u_2] | (exfalso; (simp only [i_le, i_lt, i_eq, Int32.reduceToInt] at *); omega)) (by clear hC hq; (try simp only [bI_e0, bI_n0, decide_eq_false_iff_not, decide_eq_true_eq, Classical.not_not] at *) <;> first | grind [nI_p1, a_u_2] | (exfalso; (simp only [i_le, i_lt, i_eq, Int32.reduceToInt] at *); omega)) rfl rfl)
set_option maxRecDepth 100000 in
theorem m_X12_asksNameF {T : List aT} {I : aI} {J : aJ} {R : aR} (hT : aPT T) (hR : aPR R) (f : Int32) {g : Nat} (hg : I 44 20 = nI g) (hg9 : g ≤ 4) (hc : ¬ (0 ≤ f ∧ f < nI (16 * g))) : MX12_asksName 0 0 [.ref 44, .int f] T I J R (aPure (some (.int (0))) T (a_u I 44 61 1) J R) := by
  refine a_met (by decide +kernel) a_le (fun X hC hq => ?_)
  show AW X 0 0 0 [some (.ref 44), some (.int f)] [] T I J R
  refine aw_aload_n hC dX12_asksName_0 rfl ?_
  refine aw_aload_n hC dX12_asksName_1 rfl ?_
  refine aw_iload_n hC dX12_asksName_2 rfl ?_
  refine kX12_374 hC rfl (m_X12_isName hT hR f (g := g) (by assumption) (by omega)) dX12_asksName_3 (tg_44 hT) rfl a_le a_le a_le a_le a_le rfl aPure_x (aPure_k ?_)
  show AW X 0 0 6 [some (.ref 44), some (.int f)] [.int (bI (decide (0 ≤ f ∧ f < nI (16 * g)))), .ref 44] T I J R
  refine aw_if_eq (tgt := 13) hC dX12_asksName_6 (by decide) (fun h1 => ?_) (fun h1 => ?_)
  · show AW X 0 0 13 [some (.ref 44), some (.int f)] [.ref 44] T I J R
    refine aw_iconst (v := 1) hC dX12_asksName_13 (by decide) ?_
    refine aw_putI hC dX12_asksName_14 aF_X12_166 rfl rfl (tg_44 hT) ?_
    refine aw_aload_n hC dX12_asksName_17 rfl ?_
    refine aw_getI hC dX12_asksName_18 aF_X12_166 rfl (tg_44 hT) ?_
    rw [a_u_self (f := I) (o := 44) (k := 61) (v := 1)]
    refine aw_if_ne (tgt := 28) hC dX12_asksName_21 (by decide) (fun _ => ?_) (fun h2 => absurd h2 (by decide))
    show AW X 0 0 28 [some (.ref 44), some (.int f)] [] T (a_u I 44 61 1) J R
    refine aw_iconst (v := 0) hC dX12_asksName_28 (by decide) ?_
    exact aw_zreturn hC hq rfl (Or.inl rfl) dX12_asksName_29 a_le a_le (aPure_e (by clear hC hq; (try simp only [bI_e0, bI_n0, decide_eq_false_iff_not, decide_eq_true_eq, Classical.not_not] at *) <;> first | grind [nI_p1, a_u_2] | (exfalso; (simp only [i_le, i_lt, i_eq, Int32.reduceToInt] at *); omega)) (by clear hC hq; (try simp only [bI_e0, bI_n0, decide_eq_false_iff_not, decide_eq_true_eq, Classical.not_not] at *) <;> first | grind [nI_p1, a_u_2] | (exfalso; (simp only [i_le, i_lt, i_eq, Int32.reduceToInt] at *); omega)) rfl rfl)
  · show AW X 0 0 9 [some (.ref 44), some (.int f)] [.ref 44] T I J R
    refine aw_iconst (v := 0) hC dX12_asksName_9 (by decide) ?_
    refine aw_goto (tgt := 14) hC dX12_asksName_10 (by decide) ?_
    refine aw_putI hC dX12_asksName_14 aF_X12_166 rfl rfl (tg_44 hT) ?_
    refine aw_aload_n hC dX12_asksName_17 rfl ?_
    refine aw_getI hC dX12_asksName_18 aF_X12_166 rfl (tg_44 hT) ?_
    rw [a_u_self (f := I) (o := 44) (k := 61) (v := 0)]
    refine aw_if_ne (tgt := 28) hC dX12_asksName_21 (by decide) (fun h3 => absurd h3 (by decide)) (fun _ => ?_)
    show AW X 0 0 24 [some (.ref 44), some (.int f)] [] T (a_u I 44 61 0) J R
    refine aw_iconst (v := 1) hC dX12_asksName_24 (by decide) ?_
    refine aw_goto (tgt := 29) hC dX12_asksName_25 (by decide) ?_
    exact aw_zreturn hC hq rfl (Or.inr rfl) dX12_asksName_29 a_le a_le (aPure_e (by clear hC hq; (try simp only [bI_e0, bI_n0, decide_eq_false_iff_not, decide_eq_true_eq, Classical.not_not] at *) <;> first | grind [nI_p1, a_u_2] | (exfalso; (simp only [i_le, i_lt, i_eq, Int32.reduceToInt] at *); omega)) (by clear hC hq; (try simp only [bI_e0, bI_n0, decide_eq_false_iff_not, decide_eq_true_eq, Classical.not_not] at *) <;> first | grind [nI_p1, a_u_2] | (exfalso; (simp only [i_le, i_lt, i_eq, Int32.reduceToInt] at *); omega)) rfl rfl)
set_option maxRecDepth 100000 in
theorem m_X12_entry {T : List aT} {I : aI} {J : aJ} {R : aR} (hT : aPT T) (hR : aPR R) (x : Int32) {g : Nat} (hg : I 44 20 = nI g) (hg9 : g ≤ 4) : MX12_entry 0 0 [.ref 44, .int x] T I J R (aPure (some (.int (if 0 ≤ x ∧ x < nI (16 * g) then (if I 69 x.toNatClampNeg = 0 then -1 else 100 * (I 69 x.toNatClampNeg - 1) + 10 * I 72 x.toNatClampNeg + (if I 71 x.toNatClampNeg = 0 then 0 else 1)) else 0))) T (if 0 ≤ x ∧ x < nI (16 * g) then a_u I 44 61 0 else a_u I 44 61 1) J R) := by
  refine a_met (by decide +kernel) a_le (fun X hC hq => ?_)
  show AW X 0 0 0 [some (.ref 44), some (.int x)] [] T I J R
  refine aw_aload_n hC dX12_entry_0 rfl ?_
  refine aw_iload_n hC dX12_entry_1 rfl ?_
  by_cases hc1 : 0 ≤ x ∧ x < nI (16 * g)
  · refine kX12_419 hC rfl (m_X12_asksNameT hT hR x (g := g) (by assumption) (by omega) hc1) dX12_entry_2 (tg_44 hT) rfl a_le a_le a_le a_le a_le rfl aPure_x (aPure_k ?_)
    show AW X 0 0 5 [some (.ref 44), some (.int x)] [.int 1] T (a_u I 44 61 0) J R
    refine aw_if_ne (tgt := 10) hC dX12_entry_5 (by decide) (fun _ => ?_) (fun h2 => absurd h2 (by decide))
    show AW X 0 0 10 [some (.ref 44), some (.int x)] [] T (a_u I 44 61 0) J R
    refine aw_aload_n hC dX12_entry_10 rfl ?_
    refine aw_getR hC dX12_entry_11 aF_X12_83 rfl (tg_44 hT) (pr_44_29 hR) ?_
    refine aw_iload_n hC dX12_entry_14 rfl ?_
    refine aw_iaload_k (j := x.toNatClampNeg) hC dX12_entry_15 (tg_69 hT) rfl (vp_in_iff.mpr (by clear hC hq; (try simp only [bI_e0, bI_n0, decide_eq_false_iff_not, decide_eq_true_eq, Classical.not_not] at *); (simp only [i_le, i_lt, i_eq, Int32.reduceToInt, i_nl (16 * g) (by omega)] at *); omega)) ?_
    rw [a_u_ne (f := I) (o := 44) (k := 61) (a := 69) (b := x.toNatClampNeg) (v := 0) (fun q => absurd q.1 (by decide))]
    refine aw_if_ne (tgt := 23) hC dX12_entry_16 (by decide) (fun h3 => ?_) (fun h3 => ?_)
    · show AW X 0 0 23 [some (.ref 44), some (.int x)] [] T (a_u I 44 61 0) J R
      refine aw_bipush (v := 100) hC dX12_entry_23 (by decide) ?_
      refine aw_aload_n hC dX12_entry_25 rfl ?_
      refine aw_getR hC dX12_entry_26 aF_X12_83 rfl (tg_44 hT) (pr_44_29 hR) ?_
      refine aw_iload_n hC dX12_entry_29 rfl ?_
      refine aw_iaload_k (j := x.toNatClampNeg) hC dX12_entry_30 (tg_69 hT) rfl (vp_in_iff.mpr (by clear hC hq; (try simp only [bI_e0, bI_n0, decide_eq_false_iff_not, decide_eq_true_eq, Classical.not_not] at *); (simp only [i_le, i_lt, i_eq, Int32.reduceToInt, i_nl (16 * g) (by omega)] at *); omega)) ?_
      rw [a_u_ne (f := I) (o := 44) (k := 61) (a := 69) (b := x.toNatClampNeg) (v := 0) (fun q => absurd q.1 (by decide))]
      refine aw_iconst (v := 1) hC dX12_entry_31 (by decide) ?_
      refine aw_isub hC dX12_entry_32 ?_
      refine aw_imul hC dX12_entry_33 ?_
      refine aw_bipush (v := 10) hC dX12_entry_34 (by decide) ?_
      refine aw_aload_n hC dX12_entry_36 rfl ?_
      refine aw_getR hC dX12_entry_37 aF_X12_92 rfl (tg_44 hT) (pr_44_32 hR) ?_
      refine aw_iload_n hC dX12_entry_40 rfl ?_
      refine aw_iaload_k (j := x.toNatClampNeg) hC dX12_entry_41 (tg_72 hT) rfl (vp_in_iff.mpr (by clear hC hq; (try simp only [bI_e0, bI_n0, decide_eq_false_iff_not, decide_eq_true_eq, Classical.not_not] at *); (simp only [i_le, i_lt, i_eq, Int32.reduceToInt, i_nl (16 * g) (by omega)] at *); omega)) ?_
      rw [a_u_ne (f := I) (o := 44) (k := 61) (a := 72) (b := x.toNatClampNeg) (v := 0) (fun q => absurd q.1 (by decide))]
      refine aw_imul hC dX12_entry_42 ?_
      refine aw_iadd hC dX12_entry_43 ?_
      refine aw_aload_n hC dX12_entry_44 rfl ?_
      refine aw_getR hC dX12_entry_45 aF_X12_89 rfl (tg_44 hT) (pr_44_31 hR) ?_
      refine aw_iload_n hC dX12_entry_48 rfl ?_
      refine aw_baload_k (j := x.toNatClampNeg) hC dX12_entry_49 (tg_71 hT) rfl (vp_in_iff.mpr (by clear hC hq; (try simp only [bI_e0, bI_n0, decide_eq_false_iff_not, decide_eq_true_eq, Classical.not_not] at *); (simp only [i_le, i_lt, i_eq, Int32.reduceToInt, i_nl (16 * g) (by omega)] at *); omega)) ?_
      rw [a_u_ne (f := I) (o := 44) (k := 61) (a := 71) (b := x.toNatClampNeg) (v := 0) (fun q => absurd q.1 (by decide))]
      refine aw_if_eq (tgt := 57) hC dX12_entry_50 (by decide) (fun h4 => ?_) (fun h4 => ?_)
      · show AW X 0 0 57 [some (.ref 44), some (.int x)] [.int ((100 * ((I 69 x.toNatClampNeg) - 1)) + (10 * (I 72 x.toNatClampNeg)))] T (a_u I 44 61 0) J R
        refine aw_iconst (v := 0) hC dX12_entry_57 (by decide) ?_
        refine aw_iadd hC dX12_entry_58 ?_
        exact aw_ireturn hC hq rfl dX12_entry_59 a_le a_le (aPure_e (by clear hC hq; (try simp only [bI_e0, bI_n0, decide_eq_false_iff_not, decide_eq_true_eq, Classical.not_not] at *) <;> first | grind [nI_p1, a_u_2] | (exfalso; (simp only [i_le, i_lt, i_eq, Int32.reduceToInt] at *); omega)) (by clear hC hq; (try simp only [bI_e0, bI_n0, decide_eq_false_iff_not, decide_eq_true_eq, Classical.not_not] at *) <;> first | grind [nI_p1, a_u_2] | (exfalso; (simp only [i_le, i_lt, i_eq, Int32.reduceToInt] at *); omega)) rfl rfl)
      · show AW X 0 0 53 [some (.ref 44), some (.int x)] [.int ((100 * ((I 69 x.toNatClampNeg) - 1)) + (10 * (I 72 x.toNatClampNeg)))] T (a_u I 44 61 0) J R
        refine aw_iconst (v := 1) hC dX12_entry_53 (by decide) ?_
        refine aw_goto (tgt := 58) hC dX12_entry_54 (by decide) ?_
        refine aw_iadd hC dX12_entry_58 ?_
        exact aw_ireturn hC hq rfl dX12_entry_59 a_le a_le (aPure_e (by clear hC hq; (try simp only [bI_e0, bI_n0, decide_eq_false_iff_not, decide_eq_true_eq, Classical.not_not] at *) <;> first | grind [nI_p1, a_u_2] | (exfalso; (simp only [i_le, i_lt, i_eq, Int32.reduceToInt] at *); omega)) (by clear hC hq; (try simp only [bI_e0, bI_n0, decide_eq_false_iff_not, decide_eq_true_eq, Classical.not_not] at *) <;> first | grind [nI_p1, a_u_2] | (exfalso; (simp only [i_le, i_lt, i_eq, Int32.reduceToInt] at *); omega)) rfl rfl)
    · show AW X 0 0 19 [some (.ref 44), some (.int x)] [] T (a_u I 44 61 0) J R
      refine aw_iconst (v := (-1)) hC dX12_entry_19 (by decide) ?_
      refine aw_goto (tgt := 59) hC dX12_entry_20 (by decide) ?_
      exact aw_ireturn hC hq rfl dX12_entry_59 a_le a_le (aPure_e (by clear hC hq; (try simp only [bI_e0, bI_n0, decide_eq_false_iff_not, decide_eq_true_eq, Classical.not_not] at *) <;> first | grind [nI_p1, a_u_2] | (exfalso; (simp only [i_le, i_lt, i_eq, Int32.reduceToInt] at *); omega)) (by clear hC hq; (try simp only [bI_e0, bI_n0, decide_eq_false_iff_not, decide_eq_true_eq, Classical.not_not] at *) <;> first | grind [nI_p1, a_u_2] | (exfalso; (simp only [i_le, i_lt, i_eq, Int32.reduceToInt] at *); omega)) rfl rfl)
  · refine kX12_419 hC rfl (m_X12_asksNameF hT hR x (g := g) (by assumption) (by omega) hc1) dX12_entry_2 (tg_44 hT) rfl a_le a_le a_le a_le a_le rfl aPure_x (aPure_k ?_)
    show AW X 0 0 5 [some (.ref 44), some (.int x)] [.int 0] T (a_u I 44 61 1) J R
    refine aw_if_ne (tgt := 10) hC dX12_entry_5 (by decide) (fun h5 => absurd h5 (by decide)) (fun _ => ?_)
    show AW X 0 0 8 [some (.ref 44), some (.int x)] [] T (a_u I 44 61 1) J R
    refine aw_iconst (v := 0) hC dX12_entry_8 (by decide) ?_
    exact aw_ireturn hC hq rfl dX12_entry_9 a_le a_le (aPure_e (by clear hC hq; (try simp only [bI_e0, bI_n0, decide_eq_false_iff_not, decide_eq_true_eq, Classical.not_not] at *) <;> first | grind [nI_p1, a_u_2] | (exfalso; (simp only [i_le, i_lt, i_eq, Int32.reduceToInt] at *); omega)) (by clear hC hq; (try simp only [bI_e0, bI_n0, decide_eq_false_iff_not, decide_eq_true_eq, Classical.not_not] at *) <;> first | grind [nI_p1, a_u_2] | (exfalso; (simp only [i_le, i_lt, i_eq, Int32.reduceToInt] at *); omega)) rfl rfl)
set_option maxRecDepth 100000 in
theorem m_X12_stored {T : List aT} {I : aI} {J : aJ} {R : aR} (hT : aPT T) (hR : aPR R) (x a : Int32) {g : Nat} (hg : I 44 20 = nI g) (hg9 : g ≤ 4) : MX12_stored 0 0 [.ref 44, .int x, .int a] T I J R (aPure (some (.int (if (0 ≤ x ∧ x < nI (16 * g)) ∧ 0 < I 69 x.toNatClampNeg ∧ (0 ≤ a ∧ a ≤ 2) then I 70 (3 * x + a).toNatClampNeg else 0))) T (if (0 ≤ x ∧ x < nI (16 * g)) ∧ 0 < I 69 x.toNatClampNeg ∧ (0 ≤ a ∧ a ≤ 2) then a_u I 44 61 0 else a_u I 44 61 1) J R) := by
  refine a_met (by decide +kernel) a_le (fun X hC hq => ?_)
  show AW X 0 0 0 [some (.ref 44), some (.int x), some (.int a)] [] T I J R
  refine aw_aload_n hC dX12_stored_0 rfl ?_
  refine aw_aload_n hC dX12_stored_1 rfl ?_
  refine aw_iload_n hC dX12_stored_2 rfl ?_
  refine kX12_374 hC rfl (m_X12_isName hT hR x (g := g) (by assumption) (by omega)) dX12_stored_3 (tg_44 hT) rfl a_le a_le a_le a_le a_le rfl aPure_x (aPure_k ?_)
  show AW X 0 0 6 [some (.ref 44), some (.int x), some (.int a)] [.int (bI (decide (0 ≤ x ∧ x < nI (16 * g)))), .ref 44] T I J R
  refine aw_if_eq (tgt := 31) hC dX12_stored_6 (by decide) (fun h1 => ?_) (fun h1 => ?_)
  · show AW X 0 0 31 [some (.ref 44), some (.int x), some (.int a)] [.ref 44] T I J R
    refine aw_iconst (v := 1) hC dX12_stored_31 (by decide) ?_
    refine aw_putI hC dX12_stored_32 aF_X12_166 rfl rfl (tg_44 hT) ?_
    refine aw_aload_n hC dX12_stored_35 rfl ?_
    refine aw_getI hC dX12_stored_36 aF_X12_166 rfl (tg_44 hT) ?_
    rw [a_u_self (f := I) (o := 44) (k := 61) (v := 1)]
    refine aw_if_le (tgt := 46) hC dX12_stored_39 (by decide) (fun h2 => absurd h2 (by decide)) (fun _ => ?_)
    show AW X 0 0 42 [some (.ref 44), some (.int x), some (.int a)] [] T (a_u I 44 61 1) J R
    refine aw_iconst (v := 0) hC dX12_stored_42 (by decide) ?_
    refine aw_goto (tgt := 56) hC dX12_stored_43 (by decide) ?_
    exact aw_ireturn hC hq rfl dX12_stored_56 a_le a_le (aPure_e (by clear hC hq; (try simp only [bI_e0, bI_n0, decide_eq_false_iff_not, decide_eq_true_eq, Classical.not_not] at *) <;> first | grind [nI_p1, a_u_2] | (exfalso; (simp only [i_le, i_lt, i_eq, Int32.reduceToInt] at *); omega)) (by clear hC hq; (try simp only [bI_e0, bI_n0, decide_eq_false_iff_not, decide_eq_true_eq, Classical.not_not] at *) <;> first | grind [nI_p1, a_u_2] | (exfalso; (simp only [i_le, i_lt, i_eq, Int32.reduceToInt] at *); omega)) rfl rfl)
  · show AW X 0 0 9 [some (.ref 44), some (.int x), some (.int a)] [.ref 44] T I J R
    refine aw_aload_n hC dX12_stored_9 rfl ?_
    refine aw_getR hC dX12_stored_10 aF_X12_83 rfl (tg_44 hT) (pr_44_29 hR) ?_
    refine aw_iload_n hC dX12_stored_13 rfl ?_
    refine aw_iaload_k (j := x.toNatClampNeg) hC dX12_stored_14 (tg_69 hT) rfl (vp_in_iff.mpr (by clear hC hq; (try simp only [bI_e0, bI_n0, decide_eq_false_iff_not, decide_eq_true_eq, Classical.not_not] at *); (simp only [i_le, i_lt, i_eq, Int32.reduceToInt, i_nl (16 * g) (by omega)] at *); omega)) ?_
    refine aw_if_le (tgt := 31) hC dX12_stored_15 (by decide) (fun h3 => ?_) (fun h3 => ?_)
    · show AW X 0 0 31 [some (.ref 44), some (.int x), some (.int a)] [.ref 44] T I J R
      refine aw_iconst (v := 1) hC dX12_stored_31 (by decide) ?_
      refine aw_putI hC dX12_stored_32 aF_X12_166 rfl rfl (tg_44 hT) ?_
      refine aw_aload_n hC dX12_stored_35 rfl ?_
      refine aw_getI hC dX12_stored_36 aF_X12_166 rfl (tg_44 hT) ?_
      rw [a_u_self (f := I) (o := 44) (k := 61) (v := 1)]
      refine aw_if_le (tgt := 46) hC dX12_stored_39 (by decide) (fun h4 => absurd h4 (by decide)) (fun _ => ?_)
      show AW X 0 0 42 [some (.ref 44), some (.int x), some (.int a)] [] T (a_u I 44 61 1) J R
      refine aw_iconst (v := 0) hC dX12_stored_42 (by decide) ?_
      refine aw_goto (tgt := 56) hC dX12_stored_43 (by decide) ?_
      exact aw_ireturn hC hq rfl dX12_stored_56 a_le a_le (aPure_e (by clear hC hq; (try simp only [bI_e0, bI_n0, decide_eq_false_iff_not, decide_eq_true_eq, Classical.not_not] at *) <;> first | grind [nI_p1, a_u_2] | (exfalso; (simp only [i_le, i_lt, i_eq, Int32.reduceToInt] at *); omega)) (by clear hC hq; (try simp only [bI_e0, bI_n0, decide_eq_false_iff_not, decide_eq_true_eq, Classical.not_not] at *) <;> first | grind [nI_p1, a_u_2] | (exfalso; (simp only [i_le, i_lt, i_eq, Int32.reduceToInt] at *); omega)) rfl rfl)
    · show AW X 0 0 18 [some (.ref 44), some (.int x), some (.int a)] [.ref 44] T I J R
      refine aw_iload_n hC dX12_stored_18 rfl ?_
      refine aw_iconst (v := 0) hC dX12_stored_19 (by decide) ?_
      refine aw_iconst (v := 2) hC dX12_stored_20 (by decide) ?_
      refine kX12_169 hC rfl (m_X12_isIn a (0 : Int32) (2 : Int32)) dX12_stored_21 rfl a_le a_le a_le a_le a_le rfl aPure_x (aPure_k ?_)
      show AW X 0 0 24 [some (.ref 44), some (.int x), some (.int a)] [.int (bI (decide ((0 : Int32) ≤ a ∧ a ≤ (2 : Int32)))), .ref 44] T I J R
      refine aw_if_eq (tgt := 31) hC dX12_stored_24 (by decide) (fun h5 => ?_) (fun h5 => ?_)
      · show AW X 0 0 31 [some (.ref 44), some (.int x), some (.int a)] [.ref 44] T I J R
        refine aw_iconst (v := 1) hC dX12_stored_31 (by decide) ?_
        refine aw_putI hC dX12_stored_32 aF_X12_166 rfl rfl (tg_44 hT) ?_
        refine aw_aload_n hC dX12_stored_35 rfl ?_
        refine aw_getI hC dX12_stored_36 aF_X12_166 rfl (tg_44 hT) ?_
        rw [a_u_self (f := I) (o := 44) (k := 61) (v := 1)]
        refine aw_if_le (tgt := 46) hC dX12_stored_39 (by decide) (fun h6 => absurd h6 (by decide)) (fun _ => ?_)
        show AW X 0 0 42 [some (.ref 44), some (.int x), some (.int a)] [] T (a_u I 44 61 1) J R
        refine aw_iconst (v := 0) hC dX12_stored_42 (by decide) ?_
        refine aw_goto (tgt := 56) hC dX12_stored_43 (by decide) ?_
        exact aw_ireturn hC hq rfl dX12_stored_56 a_le a_le (aPure_e (by clear hC hq; (try simp only [bI_e0, bI_n0, decide_eq_false_iff_not, decide_eq_true_eq, Classical.not_not] at *) <;> first | grind [nI_p1, a_u_2] | (exfalso; (simp only [i_le, i_lt, i_eq, Int32.reduceToInt] at *); omega)) (by clear hC hq; (try simp only [bI_e0, bI_n0, decide_eq_false_iff_not, decide_eq_true_eq, Classical.not_not] at *) <;> first | grind [nI_p1, a_u_2] | (exfalso; (simp only [i_le, i_lt, i_eq, Int32.reduceToInt] at *); omega)) rfl rfl)
      · show AW X 0 0 27 [some (.ref 44), some (.int x), some (.int a)] [.ref 44] T I J R
        refine aw_iconst (v := 0) hC dX12_stored_27 (by decide) ?_
        refine aw_goto (tgt := 32) hC dX12_stored_28 (by decide) ?_
        refine aw_putI hC dX12_stored_32 aF_X12_166 rfl rfl (tg_44 hT) ?_
        refine aw_aload_n hC dX12_stored_35 rfl ?_
        refine aw_getI hC dX12_stored_36 aF_X12_166 rfl (tg_44 hT) ?_
        rw [a_u_self (f := I) (o := 44) (k := 61) (v := 0)]
        refine aw_if_le (tgt := 46) hC dX12_stored_39 (by decide) (fun _ => ?_) (fun h7 => absurd h7 (by decide))
        show AW X 0 0 46 [some (.ref 44), some (.int x), some (.int a)] [] T (a_u I 44 61 0) J R
        refine aw_aload_n hC dX12_stored_46 rfl ?_
        refine aw_getR hC dX12_stored_47 aF_X12_86 rfl (tg_44 hT) (pr_44_30 hR) ?_
        refine aw_iconst (v := 3) hC dX12_stored_50 (by decide) ?_
        refine aw_iload_n hC dX12_stored_51 rfl ?_
        refine aw_imul hC dX12_stored_52 ?_
        refine aw_iload_n hC dX12_stored_53 rfl ?_
        refine aw_iadd hC dX12_stored_54 ?_
        refine aw_iaload_k (j := ((3 * x) + a).toNatClampNeg) hC dX12_stored_55 (tg_70 hT) rfl (vp_lin (c := 3) (X := 63) (Y := 2) (by clear hC hq; (try simp only [bI_e0, bI_n0, decide_eq_false_iff_not, decide_eq_true_eq, Classical.not_not] at *); (simp only [i_le, i_lt, i_eq, Int32.reduceToInt, i_nl (16 * g) (by omega)] at *); omega) (by clear hC hq; (try simp only [bI_e0, bI_n0, decide_eq_false_iff_not, decide_eq_true_eq, Classical.not_not] at *); (simp only [i_le, i_lt, i_eq, Int32.reduceToInt, i_nl (16 * g) (by omega)] at *); omega) (by clear hC hq; (try simp only [bI_e0, bI_n0, decide_eq_false_iff_not, decide_eq_true_eq, Classical.not_not] at *); (simp only [i_le, i_lt, i_eq, Int32.reduceToInt, i_nl (16 * g) (by omega)] at *); omega) (by clear hC hq; (try simp only [bI_e0, bI_n0, decide_eq_false_iff_not, decide_eq_true_eq, Classical.not_not] at *); (simp only [i_le, i_lt, i_eq, Int32.reduceToInt, i_nl (16 * g) (by omega)] at *); omega) (by decide) (by decide) (by decide)).1 ?_
        rw [a_u_ne (f := I) (o := 44) (k := 61) (a := 70) (b := ((3 * x) + a).toNatClampNeg) (v := 0) (fun q => absurd q.1 (by decide))]
        exact aw_ireturn hC hq rfl dX12_stored_56 a_le a_le (aPure_e (by clear hC hq; (try simp only [bI_e0, bI_n0, decide_eq_false_iff_not, decide_eq_true_eq, Classical.not_not] at *) <;> first | grind [nI_p1, a_u_2] | (exfalso; (simp only [i_le, i_lt, i_eq, Int32.reduceToInt] at *); omega)) (by clear hC hq; (try simp only [bI_e0, bI_n0, decide_eq_false_iff_not, decide_eq_true_eq, Classical.not_not] at *) <;> first | grind [nI_p1, a_u_2] | (exfalso; (simp only [i_le, i_lt, i_eq, Int32.reduceToInt] at *); omega)) rfl rfl)
set_option maxRecDepth 100000 in
theorem m_X12_real {T : List aT} {I : aI} {J : aJ} {R : aR} (hT : aPT T) (hR : aPR R) (x a : Int32) {r : Nat} (hr : I 44 25 = nI r) (hr9 : r ≤ 60) : MX12_real 0 0 [.ref 44, .int x, .int a] T I J R (aPure (some (.int (if (0 ≤ x ∧ x < nI r) ∧ (0 ≤ a ∧ a ≤ 2) then (if I 68 x.toNatClampNeg = 0 then I 67 (3 * x + a).toNatClampNeg else -1) else 0))) T (if (0 ≤ x ∧ x < nI r) ∧ (0 ≤ a ∧ a ≤ 2) then a_u I 44 61 0 else a_u I 44 61 1) J R) := by
  refine a_met (by decide +kernel) a_le (fun X hC hq => ?_)
  show AW X 0 0 0 [some (.ref 44), some (.int x), some (.int a)] [] T I J R
  refine aw_aload_n hC dX12_real_0 rfl ?_
  refine aw_aload_n hC dX12_real_1 rfl ?_
  refine aw_iload_n hC dX12_real_2 rfl ?_
  refine kX12_422 hC rfl (m_X12_isResource hT hR x (r := r) (by assumption) (by omega)) dX12_real_3 (tg_44 hT) rfl a_le a_le a_le a_le a_le rfl aPure_x (aPure_k ?_)
  show AW X 0 0 6 [some (.ref 44), some (.int x), some (.int a)] [.int (bI (decide (0 ≤ x ∧ x < nI r))), .ref 44] T I J R
  refine aw_if_eq (tgt := 22) hC dX12_real_6 (by decide) (fun h1 => ?_) (fun h1 => ?_)
  · show AW X 0 0 22 [some (.ref 44), some (.int x), some (.int a)] [.ref 44] T I J R
    refine aw_iconst (v := 1) hC dX12_real_22 (by decide) ?_
    refine aw_putI hC dX12_real_23 aF_X12_166 rfl rfl (tg_44 hT) ?_
    refine aw_aload_n hC dX12_real_26 rfl ?_
    refine aw_getI hC dX12_real_27 aF_X12_166 rfl (tg_44 hT) ?_
    rw [a_u_self (f := I) (o := 44) (k := 61) (v := 1)]
    refine aw_if_le (tgt := 37) hC dX12_real_30 (by decide) (fun h2 => absurd h2 (by decide)) (fun _ => ?_)
    show AW X 0 0 33 [some (.ref 44), some (.int x), some (.int a)] [] T (a_u I 44 61 1) J R
    refine aw_iconst (v := 0) hC dX12_real_33 (by decide) ?_
    refine aw_goto (tgt := 60) hC dX12_real_34 (by decide) ?_
    exact aw_ireturn hC hq rfl dX12_real_60 a_le a_le (aPure_e (by clear hC hq; (try simp only [bI_e0, bI_n0, decide_eq_false_iff_not, decide_eq_true_eq, Classical.not_not] at *) <;> first | grind [nI_p1, a_u_2] | (exfalso; (simp only [i_le, i_lt, i_eq, Int32.reduceToInt] at *); omega)) (by clear hC hq; (try simp only [bI_e0, bI_n0, decide_eq_false_iff_not, decide_eq_true_eq, Classical.not_not] at *) <;> first | grind [nI_p1, a_u_2] | (exfalso; (simp only [i_le, i_lt, i_eq, Int32.reduceToInt] at *); omega)) rfl rfl)
  · show AW X 0 0 9 [some (.ref 44), some (.int x), some (.int a)] [.ref 44] T I J R
    refine aw_iload_n hC dX12_real_9 rfl ?_
    refine aw_iconst (v := 0) hC dX12_real_10 (by decide) ?_
    refine aw_iconst (v := 2) hC dX12_real_11 (by decide) ?_
    refine kX12_169 hC rfl (m_X12_isIn a (0 : Int32) (2 : Int32)) dX12_real_12 rfl a_le a_le a_le a_le a_le rfl aPure_x (aPure_k ?_)
    show AW X 0 0 15 [some (.ref 44), some (.int x), some (.int a)] [.int (bI (decide ((0 : Int32) ≤ a ∧ a ≤ (2 : Int32)))), .ref 44] T I J R
    refine aw_if_eq (tgt := 22) hC dX12_real_15 (by decide) (fun h3 => ?_) (fun h3 => ?_)
    · show AW X 0 0 22 [some (.ref 44), some (.int x), some (.int a)] [.ref 44] T I J R
      refine aw_iconst (v := 1) hC dX12_real_22 (by decide) ?_
      refine aw_putI hC dX12_real_23 aF_X12_166 rfl rfl (tg_44 hT) ?_
      refine aw_aload_n hC dX12_real_26 rfl ?_
      refine aw_getI hC dX12_real_27 aF_X12_166 rfl (tg_44 hT) ?_
      rw [a_u_self (f := I) (o := 44) (k := 61) (v := 1)]
      refine aw_if_le (tgt := 37) hC dX12_real_30 (by decide) (fun h4 => absurd h4 (by decide)) (fun _ => ?_)
      show AW X 0 0 33 [some (.ref 44), some (.int x), some (.int a)] [] T (a_u I 44 61 1) J R
      refine aw_iconst (v := 0) hC dX12_real_33 (by decide) ?_
      refine aw_goto (tgt := 60) hC dX12_real_34 (by decide) ?_
      exact aw_ireturn hC hq rfl dX12_real_60 a_le a_le (aPure_e (by clear hC hq; (try simp only [bI_e0, bI_n0, decide_eq_false_iff_not, decide_eq_true_eq, Classical.not_not] at *) <;> first | grind [nI_p1, a_u_2] | (exfalso; (simp only [i_le, i_lt, i_eq, Int32.reduceToInt] at *); omega)) (by clear hC hq; (try simp only [bI_e0, bI_n0, decide_eq_false_iff_not, decide_eq_true_eq, Classical.not_not] at *) <;> first | grind [nI_p1, a_u_2] | (exfalso; (simp only [i_le, i_lt, i_eq, Int32.reduceToInt] at *); omega)) rfl rfl)
    · show AW X 0 0 18 [some (.ref 44), some (.int x), some (.int a)] [.ref 44] T I J R
      refine aw_iconst (v := 0) hC dX12_real_18 (by decide) ?_
      refine aw_goto (tgt := 23) hC dX12_real_19 (by decide) ?_
      refine aw_putI hC dX12_real_23 aF_X12_166 rfl rfl (tg_44 hT) ?_
      refine aw_aload_n hC dX12_real_26 rfl ?_
      refine aw_getI hC dX12_real_27 aF_X12_166 rfl (tg_44 hT) ?_
      rw [a_u_self (f := I) (o := 44) (k := 61) (v := 0)]
      refine aw_if_le (tgt := 37) hC dX12_real_30 (by decide) (fun _ => ?_) (fun h5 => absurd h5 (by decide))
      show AW X 0 0 37 [some (.ref 44), some (.int x), some (.int a)] [] T (a_u I 44 61 0) J R
      refine aw_aload_n hC dX12_real_37 rfl ?_
      refine aw_getR hC dX12_real_38 aF_X12_80 rfl (tg_44 hT) (pr_44_28 hR) ?_
      refine aw_iload_n hC dX12_real_41 rfl ?_
      refine aw_baload_k (j := x.toNatClampNeg) hC dX12_real_42 (tg_68 hT) rfl (vp_in_iff.mpr (by clear hC hq; (try simp only [bI_e0, bI_n0, decide_eq_false_iff_not, decide_eq_true_eq, Classical.not_not] at *); (simp only [i_le, i_lt, i_eq, Int32.reduceToInt, i_nl r (by omega)] at *); omega)) ?_
      rw [a_u_ne (f := I) (o := 44) (k := 61) (a := 68) (b := x.toNatClampNeg) (v := 0) (fun q => absurd q.1 (by decide))]
      refine aw_if_eq (tgt := 50) hC dX12_real_43 (by decide) (fun h6 => ?_) (fun h6 => ?_)
      · show AW X 0 0 50 [some (.ref 44), some (.int x), some (.int a)] [] T (a_u I 44 61 0) J R
        refine aw_aload_n hC dX12_real_50 rfl ?_
        refine aw_getR hC dX12_real_51 aF_X12_77 rfl (tg_44 hT) (pr_44_27 hR) ?_
        refine aw_iconst (v := 3) hC dX12_real_54 (by decide) ?_
        refine aw_iload_n hC dX12_real_55 rfl ?_
        refine aw_imul hC dX12_real_56 ?_
        refine aw_iload_n hC dX12_real_57 rfl ?_
        refine aw_iadd hC dX12_real_58 ?_
        refine aw_iaload_k (j := ((3 * x) + a).toNatClampNeg) hC dX12_real_59 (tg_67 hT) rfl (vp_lin (c := 3) (X := 59) (Y := 2) (by clear hC hq; (try simp only [bI_e0, bI_n0, decide_eq_false_iff_not, decide_eq_true_eq, Classical.not_not] at *); (simp only [i_le, i_lt, i_eq, Int32.reduceToInt, i_nl r (by omega)] at *); omega) (by clear hC hq; (try simp only [bI_e0, bI_n0, decide_eq_false_iff_not, decide_eq_true_eq, Classical.not_not] at *); (simp only [i_le, i_lt, i_eq, Int32.reduceToInt, i_nl r (by omega)] at *); omega) (by clear hC hq; (try simp only [bI_e0, bI_n0, decide_eq_false_iff_not, decide_eq_true_eq, Classical.not_not] at *); (simp only [i_le, i_lt, i_eq, Int32.reduceToInt, i_nl r (by omega)] at *); omega) (by clear hC hq; (try simp only [bI_e0, bI_n0, decide_eq_false_iff_not, decide_eq_true_eq, Classical.not_not] at *); (simp only [i_le, i_lt, i_eq, Int32.reduceToInt, i_nl r (by omega)] at *); omega) (by decide) (by decide) (by decide)).1 ?_
        rw [a_u_ne (f := I) (o := 44) (k := 61) (a := 67) (b := ((3 * x) + a).toNatClampNeg) (v := 0) (fun q => absurd q.1 (by decide))]
        exact aw_ireturn hC hq rfl dX12_real_60 a_le a_le (aPure_e (by clear hC hq; (try simp only [bI_e0, bI_n0, decide_eq_false_iff_not, decide_eq_true_eq, Classical.not_not] at *) <;> first | grind [nI_p1, a_u_2] | (exfalso; (simp only [i_le, i_lt, i_eq, Int32.reduceToInt] at *); omega)) (by clear hC hq; (try simp only [bI_e0, bI_n0, decide_eq_false_iff_not, decide_eq_true_eq, Classical.not_not] at *) <;> first | grind [nI_p1, a_u_2] | (exfalso; (simp only [i_le, i_lt, i_eq, Int32.reduceToInt] at *); omega)) rfl rfl)
      · show AW X 0 0 46 [some (.ref 44), some (.int x), some (.int a)] [] T (a_u I 44 61 0) J R
        refine aw_iconst (v := (-1)) hC dX12_real_46 (by decide) ?_
        refine aw_goto (tgt := 60) hC dX12_real_47 (by decide) ?_
        exact aw_ireturn hC hq rfl dX12_real_60 a_le a_le (aPure_e (by clear hC hq; (try simp only [bI_e0, bI_n0, decide_eq_false_iff_not, decide_eq_true_eq, Classical.not_not] at *) <;> first | grind [nI_p1, a_u_2] | (exfalso; (simp only [i_le, i_lt, i_eq, Int32.reduceToInt] at *); omega)) (by clear hC hq; (try simp only [bI_e0, bI_n0, decide_eq_false_iff_not, decide_eq_true_eq, Classical.not_not] at *) <;> first | grind [nI_p1, a_u_2] | (exfalso; (simp only [i_le, i_lt, i_eq, Int32.reduceToInt] at *); omega)) rfl rfl)
set_option maxRecDepth 100000 in
theorem m_X12_change {T : List aT} {I : aI} {J : aJ} {R : aR} (hT : aPT T) (hR : aPR R) (x a v : Int32) {r : Nat} (hr : I 44 25 = nI r) (hr9 : r ≤ 60) : MX12_change 0 0 [.ref 44, .int x, .int a, .int v] T I J R (aPure (some (.int (if (0 ≤ x ∧ x < nI r) ∧ (0 ≤ a ∧ a ≤ 2) ∧ (0 ≤ v ∧ v ≤ 255) ∧ I 68 x.toNatClampNeg = 0 then I 67 (3 * x + a).toNatClampNeg else 0))) T (if (0 ≤ x ∧ x < nI r) ∧ (0 ≤ a ∧ a ≤ 2) then (if 0 ≤ v ∧ v ≤ 255 then (if I 68 x.toNatClampNeg = 0 then a_u (a_u I 44 61 0) 67 (3 * x + a).toNatClampNeg v else a_u I 44 61 3) else a_u I 44 61 2) else a_u I 44 61 1) J R) := by
  refine a_met (by decide +kernel) a_le (fun X hC hq => ?_)
  show AW X 0 0 0 [some (.ref 44), some (.int x), some (.int a), some (.int v), none] [] T I J R
  refine aw_aload_n hC dX12_change_0 rfl ?_
  refine aw_aload_n hC dX12_change_1 rfl ?_
  refine aw_iload_n hC dX12_change_2 rfl ?_
  refine kX12_422 hC rfl (m_X12_isResource hT hR x (r := r) (by assumption) (by omega)) dX12_change_3 (tg_44 hT) rfl a_le a_le a_le a_le a_le rfl aPure_x (aPure_k ?_)
  show AW X 0 0 6 [some (.ref 44), some (.int x), some (.int a), some (.int v), none] [.int (bI (decide (0 ≤ x ∧ x < nI r))), .ref 44] T I J R
  refine aw_if_eq (tgt := 18) hC dX12_change_6 (by decide) (fun h1 => ?_) (fun h1 => ?_)
  · show AW X 0 0 18 [some (.ref 44), some (.int x), some (.int a), some (.int v), none] [.ref 44] T I J R
    refine aw_iconst (v := 1) hC dX12_change_18 (by decide) ?_
    refine aw_goto (tgt := 51) hC dX12_change_19 (by decide) ?_
    refine aw_putI hC dX12_change_51 aF_X12_166 rfl rfl (tg_44 hT) ?_
    refine aw_aload_n hC dX12_change_54 rfl ?_
    refine aw_getI hC dX12_change_55 aF_X12_166 rfl (tg_44 hT) ?_
    rw [a_u_self (f := I) (o := 44) (k := 61) (v := 1)]
    refine aw_if_le (tgt := 63) hC dX12_change_58 (by decide) (fun h2 => absurd h2 (by decide)) (fun _ => ?_)
    show AW X 0 0 61 [some (.ref 44), some (.int x), some (.int a), some (.int v), none] [] T (a_u I 44 61 1) J R
    refine aw_iconst (v := 0) hC dX12_change_61 (by decide) ?_
    exact aw_ireturn hC hq rfl dX12_change_62 a_le a_le (aPure_e (by clear hC hq; (try simp only [bI_e0, bI_n0, decide_eq_false_iff_not, decide_eq_true_eq, Classical.not_not] at *) <;> first | grind [nI_p1, a_u_2] | (exfalso; (simp only [i_le, i_lt, i_eq, Int32.reduceToInt] at *); omega)) (by clear hC hq; (try simp only [bI_e0, bI_n0, decide_eq_false_iff_not, decide_eq_true_eq, Classical.not_not] at *) <;> first | grind [nI_p1, a_u_2] | (exfalso; (simp only [i_le, i_lt, i_eq, Int32.reduceToInt] at *); omega)) rfl rfl)
  · show AW X 0 0 9 [some (.ref 44), some (.int x), some (.int a), some (.int v), none] [.ref 44] T I J R
    refine aw_iload_n hC dX12_change_9 rfl ?_
    refine aw_iconst (v := 0) hC dX12_change_10 (by decide) ?_
    refine aw_iconst (v := 2) hC dX12_change_11 (by decide) ?_
    refine kX12_169 hC rfl (m_X12_isIn a (0 : Int32) (2 : Int32)) dX12_change_12 rfl a_le a_le a_le a_le a_le rfl aPure_x (aPure_k ?_)
    show AW X 0 0 15 [some (.ref 44), some (.int x), some (.int a), some (.int v), none] [.int (bI (decide ((0 : Int32) ≤ a ∧ a ≤ (2 : Int32)))), .ref 44] T I J R
    refine aw_if_ne (tgt := 22) hC dX12_change_15 (by decide) (fun h3 => ?_) (fun h3 => ?_)
    · show AW X 0 0 22 [some (.ref 44), some (.int x), some (.int a), some (.int v), none] [.ref 44] T I J R
      refine aw_iload_n hC dX12_change_22 rfl ?_
      refine aw_iconst (v := 0) hC dX12_change_23 (by decide) ?_
      refine aw_sipush (v := 255) hC dX12_change_24 (by decide) ?_
      refine kX12_169 hC rfl (m_X12_isIn v (0 : Int32) (255 : Int32)) dX12_change_27 rfl a_le a_le a_le a_le a_le rfl aPure_x (aPure_k ?_)
      show AW X 0 0 30 [some (.ref 44), some (.int x), some (.int a), some (.int v), none] [.int (bI (decide ((0 : Int32) ≤ v ∧ v ≤ (255 : Int32)))), .ref 44] T I J R
      refine aw_if_ne (tgt := 37) hC dX12_change_30 (by decide) (fun h4 => ?_) (fun h4 => ?_)
      · show AW X 0 0 37 [some (.ref 44), some (.int x), some (.int a), some (.int v), none] [.ref 44] T I J R
        refine aw_aload_n hC dX12_change_37 rfl ?_
        refine aw_getR hC dX12_change_38 aF_X12_80 rfl (tg_44 hT) (pr_44_28 hR) ?_
        refine aw_iload_n hC dX12_change_41 rfl ?_
        refine aw_baload_k (j := x.toNatClampNeg) hC dX12_change_42 (tg_68 hT) rfl (vp_in_iff.mpr (by clear hC hq; (try simp only [bI_e0, bI_n0, decide_eq_false_iff_not, decide_eq_true_eq, Classical.not_not] at *); (simp only [i_le, i_lt, i_eq, Int32.reduceToInt, i_nl r (by omega)] at *); omega)) ?_
        refine aw_if_eq (tgt := 50) hC dX12_change_43 (by decide) (fun h5 => ?_) (fun h5 => ?_)
        · show AW X 0 0 50 [some (.ref 44), some (.int x), some (.int a), some (.int v), none] [.ref 44] T I J R
          refine aw_iconst (v := 0) hC dX12_change_50 (by decide) ?_
          refine aw_putI hC dX12_change_51 aF_X12_166 rfl rfl (tg_44 hT) ?_
          refine aw_aload_n hC dX12_change_54 rfl ?_
          refine aw_getI hC dX12_change_55 aF_X12_166 rfl (tg_44 hT) ?_
          rw [a_u_self (f := I) (o := 44) (k := 61) (v := 0)]
          refine aw_if_le (tgt := 63) hC dX12_change_58 (by decide) (fun _ => ?_) (fun h6 => absurd h6 (by decide))
          show AW X 0 0 63 [some (.ref 44), some (.int x), some (.int a), some (.int v), none] [] T (a_u I 44 61 0) J R
          refine aw_aload_n hC dX12_change_63 rfl ?_
          refine aw_getR hC dX12_change_64 aF_X12_77 rfl (tg_44 hT) (pr_44_27 hR) ?_
          refine aw_iconst (v := 3) hC dX12_change_67 (by decide) ?_
          refine aw_iload_n hC dX12_change_68 rfl ?_
          refine aw_imul hC dX12_change_69 ?_
          refine aw_iload_n hC dX12_change_70 rfl ?_
          refine aw_iadd hC dX12_change_71 ?_
          refine aw_iaload_k (j := ((3 * x) + a).toNatClampNeg) hC dX12_change_72 (tg_67 hT) rfl (vp_lin (c := 3) (X := 59) (Y := 2) (by clear hC hq; (try simp only [bI_e0, bI_n0, decide_eq_false_iff_not, decide_eq_true_eq, Classical.not_not] at *); (simp only [i_le, i_lt, i_eq, Int32.reduceToInt, i_nl r (by omega)] at *); omega) (by clear hC hq; (try simp only [bI_e0, bI_n0, decide_eq_false_iff_not, decide_eq_true_eq, Classical.not_not] at *); (simp only [i_le, i_lt, i_eq, Int32.reduceToInt, i_nl r (by omega)] at *); omega) (by clear hC hq; (try simp only [bI_e0, bI_n0, decide_eq_false_iff_not, decide_eq_true_eq, Classical.not_not] at *); (simp only [i_le, i_lt, i_eq, Int32.reduceToInt, i_nl r (by omega)] at *); omega) (by clear hC hq; (try simp only [bI_e0, bI_n0, decide_eq_false_iff_not, decide_eq_true_eq, Classical.not_not] at *); (simp only [i_le, i_lt, i_eq, Int32.reduceToInt, i_nl r (by omega)] at *); omega) (by decide) (by decide) (by decide)).1 ?_
          rw [a_u_ne (f := I) (o := 44) (k := 61) (a := 67) (b := ((3 * x) + a).toNatClampNeg) (v := 0) (fun q => absurd q.1 (by decide))]
          refine aw_istore (L2 := [some (.ref 44), some (.int x), some (.int a), some (.int v), some (.int (I 67 (((3 * x) + a).toNatClampNeg)))]) hC dX12_change_73 (by decide) rfl ?_
          refine aw_aload_n hC dX12_change_75 rfl ?_
          refine aw_getR hC dX12_change_76 aF_X12_77 rfl (tg_44 hT) (pr_44_27 hR) ?_
          refine aw_iconst (v := 3) hC dX12_change_79 (by decide) ?_
          refine aw_iload_n hC dX12_change_80 rfl ?_
          refine aw_imul hC dX12_change_81 ?_
          refine aw_iload_n hC dX12_change_82 rfl ?_
          refine aw_iadd hC dX12_change_83 ?_
          refine aw_iload_n hC dX12_change_84 rfl ?_
          refine aw_iastore_k (j := ((3 * x) + a).toNatClampNeg) hC dX12_change_85 (tg_67 hT) rfl (vp_lin (c := 3) (X := 59) (Y := 2) (by clear hC hq; (try simp only [bI_e0, bI_n0, decide_eq_false_iff_not, decide_eq_true_eq, Classical.not_not] at *); (simp only [i_le, i_lt, i_eq, Int32.reduceToInt, i_nl r (by omega)] at *); omega) (by clear hC hq; (try simp only [bI_e0, bI_n0, decide_eq_false_iff_not, decide_eq_true_eq, Classical.not_not] at *); (simp only [i_le, i_lt, i_eq, Int32.reduceToInt, i_nl r (by omega)] at *); omega) (by clear hC hq; (try simp only [bI_e0, bI_n0, decide_eq_false_iff_not, decide_eq_true_eq, Classical.not_not] at *); (simp only [i_le, i_lt, i_eq, Int32.reduceToInt, i_nl r (by omega)] at *); omega) (by clear hC hq; (try simp only [bI_e0, bI_n0, decide_eq_false_iff_not, decide_eq_true_eq, Classical.not_not] at *); (simp only [i_le, i_lt, i_eq, Int32.reduceToInt, i_nl r (by omega)] at *); omega) (by decide) (by decide) (by decide)).1 ?_
          refine aw_iload hC dX12_change_86 rfl ?_
          exact aw_ireturn hC hq rfl dX12_change_88 a_le a_le (aPure_e (by clear hC hq; (try simp only [bI_e0, bI_n0, decide_eq_false_iff_not, decide_eq_true_eq, Classical.not_not] at *) <;> first | grind [nI_p1, a_u_2] | (exfalso; (simp only [i_le, i_lt, i_eq, Int32.reduceToInt] at *); omega)) (by clear hC hq; (try simp only [bI_e0, bI_n0, decide_eq_false_iff_not, decide_eq_true_eq, Classical.not_not] at *) <;> first | grind [nI_p1, a_u_2] | (exfalso; (simp only [i_le, i_lt, i_eq, Int32.reduceToInt] at *); omega)) rfl rfl)
        · show AW X 0 0 46 [some (.ref 44), some (.int x), some (.int a), some (.int v), none] [.ref 44] T I J R
          refine aw_iconst (v := 3) hC dX12_change_46 (by decide) ?_
          refine aw_goto (tgt := 51) hC dX12_change_47 (by decide) ?_
          refine aw_putI hC dX12_change_51 aF_X12_166 rfl rfl (tg_44 hT) ?_
          refine aw_aload_n hC dX12_change_54 rfl ?_
          refine aw_getI hC dX12_change_55 aF_X12_166 rfl (tg_44 hT) ?_
          rw [a_u_self (f := I) (o := 44) (k := 61) (v := 3)]
          refine aw_if_le (tgt := 63) hC dX12_change_58 (by decide) (fun h7 => absurd h7 (by decide)) (fun _ => ?_)
          show AW X 0 0 61 [some (.ref 44), some (.int x), some (.int a), some (.int v), none] [] T (a_u I 44 61 3) J R
          refine aw_iconst (v := 0) hC dX12_change_61 (by decide) ?_
          exact aw_ireturn hC hq rfl dX12_change_62 a_le a_le (aPure_e (by clear hC hq; (try simp only [bI_e0, bI_n0, decide_eq_false_iff_not, decide_eq_true_eq, Classical.not_not] at *) <;> first | grind [nI_p1, a_u_2] | (exfalso; (simp only [i_le, i_lt, i_eq, Int32.reduceToInt] at *); omega)) (by clear hC hq; (try simp only [bI_e0, bI_n0, decide_eq_false_iff_not, decide_eq_true_eq, Classical.not_not] at *) <;> first | grind [nI_p1, a_u_2] | (exfalso; (simp only [i_le, i_lt, i_eq, Int32.reduceToInt] at *); omega)) rfl rfl)
      · show AW X 0 0 33 [some (.ref 44), some (.int x), some (.int a), some (.int v), none] [.ref 44] T I J R
        refine aw_iconst (v := 2) hC dX12_change_33 (by decide) ?_
        refine aw_goto (tgt := 51) hC dX12_change_34 (by decide) ?_
        refine aw_putI hC dX12_change_51 aF_X12_166 rfl rfl (tg_44 hT) ?_
        refine aw_aload_n hC dX12_change_54 rfl ?_
        refine aw_getI hC dX12_change_55 aF_X12_166 rfl (tg_44 hT) ?_
        rw [a_u_self (f := I) (o := 44) (k := 61) (v := 2)]
        refine aw_if_le (tgt := 63) hC dX12_change_58 (by decide) (fun h8 => absurd h8 (by decide)) (fun _ => ?_)
        show AW X 0 0 61 [some (.ref 44), some (.int x), some (.int a), some (.int v), none] [] T (a_u I 44 61 2) J R
        refine aw_iconst (v := 0) hC dX12_change_61 (by decide) ?_
        exact aw_ireturn hC hq rfl dX12_change_62 a_le a_le (aPure_e (by clear hC hq; (try simp only [bI_e0, bI_n0, decide_eq_false_iff_not, decide_eq_true_eq, Classical.not_not] at *) <;> first | grind [nI_p1, a_u_2] | (exfalso; (simp only [i_le, i_lt, i_eq, Int32.reduceToInt] at *); omega)) (by clear hC hq; (try simp only [bI_e0, bI_n0, decide_eq_false_iff_not, decide_eq_true_eq, Classical.not_not] at *) <;> first | grind [nI_p1, a_u_2] | (exfalso; (simp only [i_le, i_lt, i_eq, Int32.reduceToInt] at *); omega)) rfl rfl)
    · show AW X 0 0 18 [some (.ref 44), some (.int x), some (.int a), some (.int v), none] [.ref 44] T I J R
      refine aw_iconst (v := 1) hC dX12_change_18 (by decide) ?_
      refine aw_goto (tgt := 51) hC dX12_change_19 (by decide) ?_
      refine aw_putI hC dX12_change_51 aF_X12_166 rfl rfl (tg_44 hT) ?_
      refine aw_aload_n hC dX12_change_54 rfl ?_
      refine aw_getI hC dX12_change_55 aF_X12_166 rfl (tg_44 hT) ?_
      rw [a_u_self (f := I) (o := 44) (k := 61) (v := 1)]
      refine aw_if_le (tgt := 63) hC dX12_change_58 (by decide) (fun h9 => absurd h9 (by decide)) (fun _ => ?_)
      show AW X 0 0 61 [some (.ref 44), some (.int x), some (.int a), some (.int v), none] [] T (a_u I 44 61 1) J R
      refine aw_iconst (v := 0) hC dX12_change_61 (by decide) ?_
      exact aw_ireturn hC hq rfl dX12_change_62 a_le a_le (aPure_e (by clear hC hq; (try simp only [bI_e0, bI_n0, decide_eq_false_iff_not, decide_eq_true_eq, Classical.not_not] at *) <;> first | grind [nI_p1, a_u_2] | (exfalso; (simp only [i_le, i_lt, i_eq, Int32.reduceToInt] at *); omega)) (by clear hC hq; (try simp only [bI_e0, bI_n0, decide_eq_false_iff_not, decide_eq_true_eq, Classical.not_not] at *) <;> first | grind [nI_p1, a_u_2] | (exfalso; (simp only [i_le, i_lt, i_eq, Int32.reduceToInt] at *); omega)) rfl rfl)
set_option maxRecDepth 100000 in
theorem m_X12_destroy {T : List aT} {I : aI} {J : aJ} {R : aR} (hT : aPT T) (hR : aPR R) (x : Int32) {r : Nat} (hr : I 44 25 = nI r) (hr9 : r ≤ 60) : MX12_destroy 0 0 [.ref 44, .int x] T I J R (aPure (some (.int (if 0 ≤ x ∧ x < nI r then (if I 68 x.toNatClampNeg = 0 then 1 else 0) else 0))) T (if 0 ≤ x ∧ x < nI r then a_u (a_u I 44 61 0) 68 x.toNatClampNeg 1 else a_u I 44 61 1) J R) := by
  refine a_met (by decide +kernel) a_le (fun X hC hq => ?_)
  show AW X 0 0 0 [some (.ref 44), some (.int x), none] [] T I J R
  refine aw_aload_n hC dX12_destroy_0 rfl ?_
  refine aw_aload_n hC dX12_destroy_1 rfl ?_
  refine aw_iload_n hC dX12_destroy_2 rfl ?_
  refine kX12_422 hC rfl (m_X12_isResource hT hR x (r := r) (by assumption) (by omega)) dX12_destroy_3 (tg_44 hT) rfl a_le a_le a_le a_le a_le rfl aPure_x (aPure_k ?_)
  show AW X 0 0 6 [some (.ref 44), some (.int x), none] [.int (bI (decide (0 ≤ x ∧ x < nI r))), .ref 44] T I J R
  refine aw_if_eq (tgt := 13) hC dX12_destroy_6 (by decide) (fun h1 => ?_) (fun h1 => ?_)
  · show AW X 0 0 13 [some (.ref 44), some (.int x), none] [.ref 44] T I J R
    refine aw_iconst (v := 1) hC dX12_destroy_13 (by decide) ?_
    refine aw_putI hC dX12_destroy_14 aF_X12_166 rfl rfl (tg_44 hT) ?_
    refine aw_aload_n hC dX12_destroy_17 rfl ?_
    refine aw_getI hC dX12_destroy_18 aF_X12_166 rfl (tg_44 hT) ?_
    rw [a_u_self (f := I) (o := 44) (k := 61) (v := 1)]
    refine aw_if_le (tgt := 26) hC dX12_destroy_21 (by decide) (fun h2 => absurd h2 (by decide)) (fun _ => ?_)
    show AW X 0 0 24 [some (.ref 44), some (.int x), none] [] T (a_u I 44 61 1) J R
    refine aw_iconst (v := 0) hC dX12_destroy_24 (by decide) ?_
    exact aw_zreturn hC hq rfl (Or.inl rfl) dX12_destroy_25 a_le a_le (aPure_e (by clear hC hq; (try simp only [bI_e0, bI_n0, decide_eq_false_iff_not, decide_eq_true_eq, Classical.not_not] at *) <;> first | grind [nI_p1, a_u_2] | (exfalso; (simp only [i_le, i_lt, i_eq, Int32.reduceToInt] at *); omega)) (by clear hC hq; (try simp only [bI_e0, bI_n0, decide_eq_false_iff_not, decide_eq_true_eq, Classical.not_not] at *) <;> first | grind [nI_p1, a_u_2] | (exfalso; (simp only [i_le, i_lt, i_eq, Int32.reduceToInt] at *); omega)) rfl rfl)
  · show AW X 0 0 9 [some (.ref 44), some (.int x), none] [.ref 44] T I J R
    refine aw_iconst (v := 0) hC dX12_destroy_9 (by decide) ?_
    refine aw_goto (tgt := 14) hC dX12_destroy_10 (by decide) ?_
    refine aw_putI hC dX12_destroy_14 aF_X12_166 rfl rfl (tg_44 hT) ?_
    refine aw_aload_n hC dX12_destroy_17 rfl ?_
    refine aw_getI hC dX12_destroy_18 aF_X12_166 rfl (tg_44 hT) ?_
    rw [a_u_self (f := I) (o := 44) (k := 61) (v := 0)]
    refine aw_if_le (tgt := 26) hC dX12_destroy_21 (by decide) (fun _ => ?_) (fun h3 => absurd h3 (by decide))
    show AW X 0 0 26 [some (.ref 44), some (.int x), none] [] T (a_u I 44 61 0) J R
    refine aw_aload_n hC dX12_destroy_26 rfl ?_
    refine aw_getR hC dX12_destroy_27 aF_X12_80 rfl (tg_44 hT) (pr_44_28 hR) ?_
    refine aw_iload_n hC dX12_destroy_30 rfl ?_
    refine aw_baload_k (j := x.toNatClampNeg) hC dX12_destroy_31 (tg_68 hT) rfl (vp_in_iff.mpr (by clear hC hq; (try simp only [bI_e0, bI_n0, decide_eq_false_iff_not, decide_eq_true_eq, Classical.not_not] at *); (simp only [i_le, i_lt, i_eq, Int32.reduceToInt, i_nl r (by omega)] at *); omega)) ?_
    rw [a_u_ne (f := I) (o := 44) (k := 61) (a := 68) (b := x.toNatClampNeg) (v := 0) (fun q => absurd q.1 (by decide))]
    refine aw_istore_n (L2 := [some (.ref 44), some (.int x), some (.int (I 68 x.toNatClampNeg))]) hC dX12_destroy_32 rfl (by decide) rfl ?_
    refine aw_aload_n hC dX12_destroy_33 rfl ?_
    refine aw_getR hC dX12_destroy_34 aF_X12_80 rfl (tg_44 hT) (pr_44_28 hR) ?_
    refine aw_iload_n hC dX12_destroy_37 rfl ?_
    refine aw_iconst (v := 1) hC dX12_destroy_38 (by decide) ?_
    refine aw_bastore_k (j := x.toNatClampNeg) hC dX12_destroy_39 (tg_68 hT) rfl (vp_in_iff.mpr (by clear hC hq; (try simp only [bI_e0, bI_n0, decide_eq_false_iff_not, decide_eq_true_eq, Classical.not_not] at *); (simp only [i_le, i_lt, i_eq, Int32.reduceToInt, i_nl r (by omega)] at *); omega)) (Or.inr rfl) ?_
    refine aw_iload_n hC dX12_destroy_40 rfl ?_
    refine aw_if_ne (tgt := 48) hC dX12_destroy_41 (by decide) (fun h4 => ?_) (fun h4 => ?_)
    · show AW X 0 0 48 [some (.ref 44), some (.int x), some (.int (I 68 x.toNatClampNeg))] [] T (a_u (a_u I 44 61 0) 68 x.toNatClampNeg 1) J R
      refine aw_iconst (v := 0) hC dX12_destroy_48 (by decide) ?_
      exact aw_zreturn hC hq rfl (Or.inl rfl) dX12_destroy_49 a_le a_le (aPure_e (by clear hC hq; (try simp only [bI_e0, bI_n0, decide_eq_false_iff_not, decide_eq_true_eq, Classical.not_not] at *) <;> first | grind [nI_p1, a_u_2] | (exfalso; (simp only [i_le, i_lt, i_eq, Int32.reduceToInt] at *); omega)) (by clear hC hq; (try simp only [bI_e0, bI_n0, decide_eq_false_iff_not, decide_eq_true_eq, Classical.not_not] at *) <;> first | grind [nI_p1, a_u_2] | (exfalso; (simp only [i_le, i_lt, i_eq, Int32.reduceToInt] at *); omega)) rfl rfl)
    · show AW X 0 0 44 [some (.ref 44), some (.int x), some (.int (I 68 x.toNatClampNeg))] [] T (a_u (a_u I 44 61 0) 68 x.toNatClampNeg 1) J R
      refine aw_iconst (v := 1) hC dX12_destroy_44 (by decide) ?_
      refine aw_goto (tgt := 49) hC dX12_destroy_45 (by decide) ?_
      exact aw_zreturn hC hq rfl (Or.inr rfl) dX12_destroy_49 a_le a_le (aPure_e (by clear hC hq; (try simp only [bI_e0, bI_n0, decide_eq_false_iff_not, decide_eq_true_eq, Classical.not_not] at *) <;> first | grind [nI_p1, a_u_2] | (exfalso; (simp only [i_le, i_lt, i_eq, Int32.reduceToInt] at *); omega)) (by clear hC hq; (try simp only [bI_e0, bI_n0, decide_eq_false_iff_not, decide_eq_true_eq, Classical.not_not] at *) <;> first | grind [nI_p1, a_u_2] | (exfalso; (simp only [i_le, i_lt, i_eq, Int32.reduceToInt] at *); omega)) rfl rfl)
set_option maxRecDepth 100000 in
theorem m_X12_approve {T : List aT} {I : aI} {J : aJ} {R : aR} (hT : aPT T) (hR : aPR R) (x t : Int32) {p : Nat} (hp : I 44 36 = nI p) (hp9 : p ≤ 40) : MX12_approve 0 0 [.ref 44, .int x, .int t] T I J R (aPure (some (.int (if (0 ≤ x ∧ x < nI p) ∧ (0 ≤ t ∧ t ≤ 2) ∧ I 75 x.toNatClampNeg ≠ t then (if I 77 x.toNatClampNeg = 0 then 1 else 0) else 0))) T (if (0 ≤ x ∧ x < nI p) ∧ (0 ≤ t ∧ t ≤ 2) then (if I 75 x.toNatClampNeg = t then a_u I 44 61 2 else a_u (a_u I 44 61 0) 77 x.toNatClampNeg 1) else a_u I 44 61 1) J R) := by
  refine a_met (by decide +kernel) a_le (fun X hC hq => ?_)
  show AW X 0 0 0 [some (.ref 44), some (.int x), some (.int t), none] [] T I J R
  refine aw_aload_n hC dX12_approve_0 rfl ?_
  refine aw_aload_n hC dX12_approve_1 rfl ?_
  refine aw_iload_n hC dX12_approve_2 rfl ?_
  refine kX12_386 hC rfl (m_X12_isPlan hT hR x (p := p) (by assumption) (by omega)) dX12_approve_3 (tg_44 hT) rfl a_le a_le a_le a_le a_le rfl aPure_x (aPure_k ?_)
  show AW X 0 0 6 [some (.ref 44), some (.int x), some (.int t), none] [.int (bI (decide (0 ≤ x ∧ x < nI p))), .ref 44] T I J R
  refine aw_if_eq (tgt := 16) hC dX12_approve_6 (by decide) (fun h1 => ?_) (fun h1 => ?_)
  · show AW X 0 0 16 [some (.ref 44), some (.int x), some (.int t), none] [.ref 44] T I J R
    refine aw_iconst (v := 1) hC dX12_approve_16 (by decide) ?_
    refine aw_goto (tgt := 35) hC dX12_approve_17 (by decide) ?_
    refine aw_putI hC dX12_approve_35 aF_X12_166 rfl rfl (tg_44 hT) ?_
    refine aw_aload_n hC dX12_approve_38 rfl ?_
    refine aw_getI hC dX12_approve_39 aF_X12_166 rfl (tg_44 hT) ?_
    rw [a_u_self (f := I) (o := 44) (k := 61) (v := 1)]
    refine aw_if_le (tgt := 47) hC dX12_approve_42 (by decide) (fun h2 => absurd h2 (by decide)) (fun _ => ?_)
    show AW X 0 0 45 [some (.ref 44), some (.int x), some (.int t), none] [] T (a_u I 44 61 1) J R
    refine aw_iconst (v := 0) hC dX12_approve_45 (by decide) ?_
    exact aw_zreturn hC hq rfl (Or.inl rfl) dX12_approve_46 a_le a_le (aPure_e (by clear hC hq; (try simp only [bI_e0, bI_n0, decide_eq_false_iff_not, decide_eq_true_eq, Classical.not_not] at *) <;> first | grind [nI_p1, a_u_2] | (exfalso; (simp only [i_le, i_lt, i_eq, Int32.reduceToInt] at *); omega)) (by clear hC hq; (try simp only [bI_e0, bI_n0, decide_eq_false_iff_not, decide_eq_true_eq, Classical.not_not] at *) <;> first | grind [nI_p1, a_u_2] | (exfalso; (simp only [i_le, i_lt, i_eq, Int32.reduceToInt] at *); omega)) rfl rfl)
  · show AW X 0 0 9 [some (.ref 44), some (.int x), some (.int t), none] [.ref 44] T I J R
    refine aw_iload_n hC dX12_approve_9 rfl ?_
    refine kX12_380 hC rfl (m_X12_isTeam t) dX12_approve_10 rfl a_le a_le a_le a_le a_le rfl aPure_x (aPure_k ?_)
    show AW X 0 0 13 [some (.ref 44), some (.int x), some (.int t), none] [.int (bI (decide (0 ≤ t ∧ t ≤ 2))), .ref 44] T I J R
    refine aw_if_ne (tgt := 20) hC dX12_approve_13 (by decide) (fun h3 => ?_) (fun h3 => ?_)
    · show AW X 0 0 20 [some (.ref 44), some (.int x), some (.int t), none] [.ref 44] T I J R
      refine aw_aload_n hC dX12_approve_20 rfl ?_
      refine aw_getR hC dX12_approve_21 aF_X12_101 rfl (tg_44 hT) (pr_44_37 hR) ?_
      refine aw_iload_n hC dX12_approve_24 rfl ?_
      refine aw_iaload_k (j := x.toNatClampNeg) hC dX12_approve_25 (tg_75 hT) rfl (vp_in_iff.mpr (by clear hC hq; (try simp only [bI_e0, bI_n0, decide_eq_false_iff_not, decide_eq_true_eq, Classical.not_not] at *); (simp only [i_le, i_lt, i_eq, Int32.reduceToInt, i_nl p (by omega)] at *); omega)) ?_
      refine aw_iload_n hC dX12_approve_26 rfl ?_
      refine aw_icmp_ne (tgt := 34) hC dX12_approve_27 (by decide) (fun h4 => ?_) (fun h4 => ?_)
      · show AW X 0 0 34 [some (.ref 44), some (.int x), some (.int t), none] [.ref 44] T I J R
        refine aw_iconst (v := 0) hC dX12_approve_34 (by decide) ?_
        refine aw_putI hC dX12_approve_35 aF_X12_166 rfl rfl (tg_44 hT) ?_
        refine aw_aload_n hC dX12_approve_38 rfl ?_
        refine aw_getI hC dX12_approve_39 aF_X12_166 rfl (tg_44 hT) ?_
        rw [a_u_self (f := I) (o := 44) (k := 61) (v := 0)]
        refine aw_if_le (tgt := 47) hC dX12_approve_42 (by decide) (fun _ => ?_) (fun h5 => absurd h5 (by decide))
        show AW X 0 0 47 [some (.ref 44), some (.int x), some (.int t), none] [] T (a_u I 44 61 0) J R
        refine aw_aload_n hC dX12_approve_47 rfl ?_
        refine aw_getR hC dX12_approve_48 aF_X12_107 rfl (tg_44 hT) (pr_44_39 hR) ?_
        refine aw_iload_n hC dX12_approve_51 rfl ?_
        refine aw_baload_k (j := x.toNatClampNeg) hC dX12_approve_52 (tg_77 hT) rfl (vp_in_iff.mpr (by clear hC hq; (try simp only [bI_e0, bI_n0, decide_eq_false_iff_not, decide_eq_true_eq, Classical.not_not] at *); (simp only [i_le, i_lt, i_eq, Int32.reduceToInt, i_nl p (by omega)] at *); omega)) ?_
        rw [a_u_ne (f := I) (o := 44) (k := 61) (a := 77) (b := x.toNatClampNeg) (v := 0) (fun q => absurd q.1 (by decide))]
        refine aw_istore_n (L2 := [some (.ref 44), some (.int x), some (.int t), some (.int (I 77 x.toNatClampNeg))]) hC dX12_approve_53 rfl (by decide) rfl ?_
        refine aw_aload_n hC dX12_approve_54 rfl ?_
        refine aw_getR hC dX12_approve_55 aF_X12_107 rfl (tg_44 hT) (pr_44_39 hR) ?_
        refine aw_iload_n hC dX12_approve_58 rfl ?_
        refine aw_iconst (v := 1) hC dX12_approve_59 (by decide) ?_
        refine aw_bastore_k (j := x.toNatClampNeg) hC dX12_approve_60 (tg_77 hT) rfl (vp_in_iff.mpr (by clear hC hq; (try simp only [bI_e0, bI_n0, decide_eq_false_iff_not, decide_eq_true_eq, Classical.not_not] at *); (simp only [i_le, i_lt, i_eq, Int32.reduceToInt, i_nl p (by omega)] at *); omega)) (Or.inr rfl) ?_
        refine aw_iload_n hC dX12_approve_61 rfl ?_
        refine aw_if_ne (tgt := 69) hC dX12_approve_62 (by decide) (fun h6 => ?_) (fun h6 => ?_)
        · show AW X 0 0 69 [some (.ref 44), some (.int x), some (.int t), some (.int (I 77 x.toNatClampNeg))] [] T (a_u (a_u I 44 61 0) 77 x.toNatClampNeg 1) J R
          refine aw_iconst (v := 0) hC dX12_approve_69 (by decide) ?_
          exact aw_zreturn hC hq rfl (Or.inl rfl) dX12_approve_70 a_le a_le (aPure_e (by clear hC hq; (try simp only [bI_e0, bI_n0, decide_eq_false_iff_not, decide_eq_true_eq, Classical.not_not] at *) <;> first | grind [nI_p1, a_u_2] | (exfalso; (simp only [i_le, i_lt, i_eq, Int32.reduceToInt] at *); omega)) (by clear hC hq; (try simp only [bI_e0, bI_n0, decide_eq_false_iff_not, decide_eq_true_eq, Classical.not_not] at *) <;> first | grind [nI_p1, a_u_2] | (exfalso; (simp only [i_le, i_lt, i_eq, Int32.reduceToInt] at *); omega)) rfl rfl)
        · show AW X 0 0 65 [some (.ref 44), some (.int x), some (.int t), some (.int (I 77 x.toNatClampNeg))] [] T (a_u (a_u I 44 61 0) 77 x.toNatClampNeg 1) J R
          refine aw_iconst (v := 1) hC dX12_approve_65 (by decide) ?_
          refine aw_goto (tgt := 70) hC dX12_approve_66 (by decide) ?_
          exact aw_zreturn hC hq rfl (Or.inr rfl) dX12_approve_70 a_le a_le (aPure_e (by clear hC hq; (try simp only [bI_e0, bI_n0, decide_eq_false_iff_not, decide_eq_true_eq, Classical.not_not] at *) <;> first | grind [nI_p1, a_u_2] | (exfalso; (simp only [i_le, i_lt, i_eq, Int32.reduceToInt] at *); omega)) (by clear hC hq; (try simp only [bI_e0, bI_n0, decide_eq_false_iff_not, decide_eq_true_eq, Classical.not_not] at *) <;> first | grind [nI_p1, a_u_2] | (exfalso; (simp only [i_le, i_lt, i_eq, Int32.reduceToInt] at *); omega)) rfl rfl)
      · show AW X 0 0 30 [some (.ref 44), some (.int x), some (.int t), none] [.ref 44] T I J R
        refine aw_iconst (v := 2) hC dX12_approve_30 (by decide) ?_
        refine aw_goto (tgt := 35) hC dX12_approve_31 (by decide) ?_
        refine aw_putI hC dX12_approve_35 aF_X12_166 rfl rfl (tg_44 hT) ?_
        refine aw_aload_n hC dX12_approve_38 rfl ?_
        refine aw_getI hC dX12_approve_39 aF_X12_166 rfl (tg_44 hT) ?_
        rw [a_u_self (f := I) (o := 44) (k := 61) (v := 2)]
        refine aw_if_le (tgt := 47) hC dX12_approve_42 (by decide) (fun h7 => absurd h7 (by decide)) (fun _ => ?_)
        show AW X 0 0 45 [some (.ref 44), some (.int x), some (.int t), none] [] T (a_u I 44 61 2) J R
        refine aw_iconst (v := 0) hC dX12_approve_45 (by decide) ?_
        exact aw_zreturn hC hq rfl (Or.inl rfl) dX12_approve_46 a_le a_le (aPure_e (by clear hC hq; (try simp only [bI_e0, bI_n0, decide_eq_false_iff_not, decide_eq_true_eq, Classical.not_not] at *) <;> first | grind [nI_p1, a_u_2] | (exfalso; (simp only [i_le, i_lt, i_eq, Int32.reduceToInt] at *); omega)) (by clear hC hq; (try simp only [bI_e0, bI_n0, decide_eq_false_iff_not, decide_eq_true_eq, Classical.not_not] at *) <;> first | grind [nI_p1, a_u_2] | (exfalso; (simp only [i_le, i_lt, i_eq, Int32.reduceToInt] at *); omega)) rfl rfl)
    · show AW X 0 0 16 [some (.ref 44), some (.int x), some (.int t), none] [.ref 44] T I J R
      refine aw_iconst (v := 1) hC dX12_approve_16 (by decide) ?_
      refine aw_goto (tgt := 35) hC dX12_approve_17 (by decide) ?_
      refine aw_putI hC dX12_approve_35 aF_X12_166 rfl rfl (tg_44 hT) ?_
      refine aw_aload_n hC dX12_approve_38 rfl ?_
      refine aw_getI hC dX12_approve_39 aF_X12_166 rfl (tg_44 hT) ?_
      rw [a_u_self (f := I) (o := 44) (k := 61) (v := 1)]
      refine aw_if_le (tgt := 47) hC dX12_approve_42 (by decide) (fun h8 => absurd h8 (by decide)) (fun _ => ?_)
      show AW X 0 0 45 [some (.ref 44), some (.int x), some (.int t), none] [] T (a_u I 44 61 1) J R
      refine aw_iconst (v := 0) hC dX12_approve_45 (by decide) ?_
      exact aw_zreturn hC hq rfl (Or.inl rfl) dX12_approve_46 a_le a_le (aPure_e (by clear hC hq; (try simp only [bI_e0, bI_n0, decide_eq_false_iff_not, decide_eq_true_eq, Classical.not_not] at *) <;> first | grind [nI_p1, a_u_2] | (exfalso; (simp only [i_le, i_lt, i_eq, Int32.reduceToInt] at *); omega)) (by clear hC hq; (try simp only [bI_e0, bI_n0, decide_eq_false_iff_not, decide_eq_true_eq, Classical.not_not] at *) <;> first | grind [nI_p1, a_u_2] | (exfalso; (simp only [i_le, i_lt, i_eq, Int32.reduceToInt] at *); omega)) rfl rfl)
set_option maxRecDepth 100000 in
theorem m_X12_action {T : List aT} {I : aI} {J : aJ} {R : aR} (hT : aPT T) (hR : aPR R) (x y : Int32) {p : Nat} (hp : I 44 36 = nI p) (hp9 : p ≤ 40) (hm : 0 ≤ x → x < nI p → I 79 x.toNatClampNeg - 1 < 128) : MX12_action 0 0 [.ref 44, .int x, .int y] T I J R (aPure (some (.int (if (0 ≤ x ∧ x < nI p) ∧ (0 ≤ y ∧ y ≤ I 79 x.toNatClampNeg - 1) then I 80 (128 * x + y).toNatClampNeg else 0))) T (if (0 ≤ x ∧ x < nI p) ∧ (0 ≤ y ∧ y ≤ I 79 x.toNatClampNeg - 1) then a_u I 44 61 0 else a_u I 44 61 1) J R) := by
  refine a_met (by decide +kernel) a_le (fun X hC hq => ?_)
  show AW X 0 0 0 [some (.ref 44), some (.int x), some (.int y)] [] T I J R
  refine aw_aload_n hC dX12_action_0 rfl ?_
  refine aw_aload_n hC dX12_action_1 rfl ?_
  refine aw_iload_n hC dX12_action_2 rfl ?_
  refine kX12_386 hC rfl (m_X12_isPlan hT hR x (p := p) (by assumption) (by omega)) dX12_action_3 (tg_44 hT) rfl a_le a_le a_le a_le a_le rfl aPure_x (aPure_k ?_)
  show AW X 0 0 6 [some (.ref 44), some (.int x), some (.int y)] [.int (bI (decide (0 ≤ x ∧ x < nI p))), .ref 44] T I J R
  refine aw_if_eq (tgt := 29) hC dX12_action_6 (by decide) (fun h1 => ?_) (fun h1 => ?_)
  · show AW X 0 0 29 [some (.ref 44), some (.int x), some (.int y)] [.ref 44] T I J R
    refine aw_iconst (v := 1) hC dX12_action_29 (by decide) ?_
    refine aw_putI hC dX12_action_30 aF_X12_166 rfl rfl (tg_44 hT) ?_
    refine aw_aload_n hC dX12_action_33 rfl ?_
    refine aw_getI hC dX12_action_34 aF_X12_166 rfl (tg_44 hT) ?_
    rw [a_u_self (f := I) (o := 44) (k := 61) (v := 1)]
    refine aw_if_le (tgt := 44) hC dX12_action_37 (by decide) (fun h2 => absurd h2 (by decide)) (fun _ => ?_)
    show AW X 0 0 40 [some (.ref 44), some (.int x), some (.int y)] [] T (a_u I 44 61 1) J R
    refine aw_iconst (v := 0) hC dX12_action_40 (by decide) ?_
    refine aw_goto (tgt := 56) hC dX12_action_41 (by decide) ?_
    exact aw_ireturn hC hq rfl dX12_action_56 a_le a_le (aPure_e (by clear hC hq; (try simp only [bI_e0, bI_n0, decide_eq_false_iff_not, decide_eq_true_eq, Classical.not_not] at *) <;> first | grind [nI_p1, a_u_2] | (exfalso; (simp only [i_le, i_lt, i_eq, Int32.reduceToInt] at *); omega)) (by clear hC hq; (try simp only [bI_e0, bI_n0, decide_eq_false_iff_not, decide_eq_true_eq, Classical.not_not] at *) <;> first | grind [nI_p1, a_u_2] | (exfalso; (simp only [i_le, i_lt, i_eq, Int32.reduceToInt] at *); omega)) rfl rfl)
  · show AW X 0 0 9 [some (.ref 44), some (.int x), some (.int y)] [.ref 44] T I J R
    refine aw_iload_n hC dX12_action_9 rfl ?_
    refine aw_iconst (v := 0) hC dX12_action_10 (by decide) ?_
    refine aw_aload_n hC dX12_action_11 rfl ?_
    refine aw_getR hC dX12_action_12 aF_X12_113 rfl (tg_44 hT) (pr_44_41 hR) ?_
    refine aw_iload_n hC dX12_action_15 rfl ?_
    refine aw_iaload_k (j := x.toNatClampNeg) hC dX12_action_16 (tg_79 hT) rfl (vp_in_iff.mpr (by clear hC hq; (try simp only [bI_e0, bI_n0, decide_eq_false_iff_not, decide_eq_true_eq, Classical.not_not] at *); (simp only [i_le, i_lt, i_eq, Int32.reduceToInt, i_nl p (by omega)] at *); omega)) ?_
    refine aw_iconst (v := 1) hC dX12_action_17 (by decide) ?_
    refine aw_isub hC dX12_action_18 ?_
    refine kX12_169 hC rfl (m_X12_isIn y (0 : Int32) ((I 79 x.toNatClampNeg) - 1)) dX12_action_19 rfl a_le a_le a_le a_le a_le rfl aPure_x (aPure_k ?_)
    show AW X 0 0 22 [some (.ref 44), some (.int x), some (.int y)] [.int (bI (decide ((0 : Int32) ≤ y ∧ y ≤ ((I 79 x.toNatClampNeg) - 1)))), .ref 44] T I J R
    refine aw_if_eq (tgt := 29) hC dX12_action_22 (by decide) (fun h3 => ?_) (fun h3 => ?_)
    · show AW X 0 0 29 [some (.ref 44), some (.int x), some (.int y)] [.ref 44] T I J R
      refine aw_iconst (v := 1) hC dX12_action_29 (by decide) ?_
      refine aw_putI hC dX12_action_30 aF_X12_166 rfl rfl (tg_44 hT) ?_
      refine aw_aload_n hC dX12_action_33 rfl ?_
      refine aw_getI hC dX12_action_34 aF_X12_166 rfl (tg_44 hT) ?_
      rw [a_u_self (f := I) (o := 44) (k := 61) (v := 1)]
      refine aw_if_le (tgt := 44) hC dX12_action_37 (by decide) (fun h4 => absurd h4 (by decide)) (fun _ => ?_)
      show AW X 0 0 40 [some (.ref 44), some (.int x), some (.int y)] [] T (a_u I 44 61 1) J R
      refine aw_iconst (v := 0) hC dX12_action_40 (by decide) ?_
      refine aw_goto (tgt := 56) hC dX12_action_41 (by decide) ?_
      exact aw_ireturn hC hq rfl dX12_action_56 a_le a_le (aPure_e (by clear hC hq; (try simp only [bI_e0, bI_n0, decide_eq_false_iff_not, decide_eq_true_eq, Classical.not_not] at *) <;> first | grind [nI_p1, a_u_2] | (exfalso; (simp only [i_le, i_lt, i_eq, Int32.reduceToInt] at *); omega)) (by clear hC hq; (try simp only [bI_e0, bI_n0, decide_eq_false_iff_not, decide_eq_true_eq, Classical.not_not] at *) <;> first | grind [nI_p1, a_u_2] | (exfalso; (simp only [i_le, i_lt, i_eq, Int32.reduceToInt] at *); omega)) rfl rfl)
    · show AW X 0 0 25 [some (.ref 44), some (.int x), some (.int y)] [.ref 44] T I J R
      refine aw_iconst (v := 0) hC dX12_action_25 (by decide) ?_
      refine aw_goto (tgt := 30) hC dX12_action_26 (by decide) ?_
      refine aw_putI hC dX12_action_30 aF_X12_166 rfl rfl (tg_44 hT) ?_
      refine aw_aload_n hC dX12_action_33 rfl ?_
      refine aw_getI hC dX12_action_34 aF_X12_166 rfl (tg_44 hT) ?_
      rw [a_u_self (f := I) (o := 44) (k := 61) (v := 0)]
      refine aw_if_le (tgt := 44) hC dX12_action_37 (by decide) (fun _ => ?_) (fun h5 => absurd h5 (by decide))
      show AW X 0 0 44 [some (.ref 44), some (.int x), some (.int y)] [] T (a_u I 44 61 0) J R
      refine aw_aload_n hC dX12_action_44 rfl ?_
      refine aw_getR hC dX12_action_45 aF_X12_116 rfl (tg_44 hT) (pr_44_42 hR) ?_
      refine aw_sipush (v := 128) hC dX12_action_48 (by decide) ?_
      refine aw_iload_n hC dX12_action_51 rfl ?_
      refine aw_imul hC dX12_action_52 ?_
      refine aw_iload_n hC dX12_action_53 rfl ?_
      refine aw_iadd hC dX12_action_54 ?_
      refine aw_iaload_k (j := ((128 * x) + y).toNatClampNeg) hC dX12_action_55 (tg_80 hT) rfl (vp_lin (c := 128) (X := 39) (Y := 127) (by clear hC hq; (try simp only [bI_e0, bI_n0, decide_eq_false_iff_not, decide_eq_true_eq, Classical.not_not] at *); (simp only [i_le, i_lt, i_eq, Int32.reduceToInt, i_nl p (by omega)] at *); omega) (by clear hC hq; (try simp only [bI_e0, bI_n0, decide_eq_false_iff_not, decide_eq_true_eq, Classical.not_not] at *); (simp only [i_le, i_lt, i_eq, Int32.reduceToInt, i_nl p (by omega)] at *); omega) (by clear hC hq; (try simp only [bI_e0, bI_n0, decide_eq_false_iff_not, decide_eq_true_eq, Classical.not_not] at *); (simp only [i_le, i_lt, i_eq, Int32.reduceToInt, i_nl p (by omega)] at *); omega) (by clear hC hq; (try simp only [bI_e0, bI_n0, decide_eq_false_iff_not, decide_eq_true_eq, Classical.not_not] at *); (simp only [i_le, i_lt, i_eq, Int32.reduceToInt, i_nl p (by omega)] at *); omega) (by decide) (by decide) (by decide)).1 ?_
      rw [a_u_ne (f := I) (o := 44) (k := 61) (a := 80) (b := ((128 * x) + y).toNatClampNeg) (v := 0) (fun q => absurd q.1 (by decide))]
      exact aw_ireturn hC hq rfl dX12_action_56 a_le a_le (aPure_e (by clear hC hq; (try simp only [bI_e0, bI_n0, decide_eq_false_iff_not, decide_eq_true_eq, Classical.not_not] at *) <;> first | grind [nI_p1, a_u_2] | (exfalso; (simp only [i_le, i_lt, i_eq, Int32.reduceToInt] at *); omega)) (by clear hC hq; (try simp only [bI_e0, bI_n0, decide_eq_false_iff_not, decide_eq_true_eq, Classical.not_not] at *) <;> first | grind [nI_p1, a_u_2] | (exfalso; (simp only [i_le, i_lt, i_eq, Int32.reduceToInt] at *); omega)) rfl rfl)
